/-! the law: cases 0 to 3 -/
theorem dL_law_196 : decode cL_law 196 = .ok (.aload_n 1, 1) := by decide +kernel
theorem dL_law_197 : decode cL_law 197 = .ok (.aload_n 0, 1) := by decide +kernel
theorem dL_law_198 : decode cL_law 198 = .ok (.iload_n 3, 1) := by decide +kernel
theorem dL_law_199 : decode cL_law 199 = .ok (.iconst 1, 1) := by decide +kernel
theorem dL_law_200 : decode cL_law 200 = .ok (.iadd, 1) := by decide +kernel
theorem dL_law_201 : decode cL_law 201 = .ok (.iaload, 1) := by decide +kernel
set_option maxRecDepth 100000 in
theorem wd_403 : Cond.methodLink "LearnLoansLaw" 13 yX7_person ∈ am_ws := am_wsi (List.mem_of_getElem? (i := 403) (by rfl)) (by decide +kernel)
set_option maxRecDepth 100000 in
theorem wd_404 : Cond.instanceMethod yX7_person ∈ am_ws := am_wsi (List.mem_of_getElem? (i := 404) (by rfl)) (by decide +kernel)
set_option maxRecDepth 100000 in
theorem wd_405 : Cond.selects "LearnLoans" yX7_person yX7_person ∈ am_ws := am_wsi (List.mem_of_getElem? (i := 405) (by rfl)) (by decide +kernel)
set_option maxRecDepth 100000 in
theorem wd_406 : Cond.code yX7_person cX7_person 3 (some .int) ∈ am_ws := am_wsi (List.mem_of_getElem? (i := 406) (by rfl)) (by decide +kernel)
theorem dL_law_202 : decode cL_law 202 = .ok (.invokevirtual 13, 3) := by decide +kernel
theorem dL_law_205 : decode cL_law 205 = .ok (.pop, 1) := by decide +kernel
theorem dL_law_206 : decode cL_law 206 = .ok (.aload_n 2, 1) := by decide +kernel
theorem dL_law_207 : decode cL_law 207 = .ok (.aload_n 0, 1) := by decide +kernel
theorem dL_law_208 : decode cL_law 208 = .ok (.iload_n 3, 1) := by decide +kernel
theorem dL_law_209 : decode cL_law 209 = .ok (.iconst 1, 1) := by decide +kernel
theorem dL_law_210 : decode cL_law 210 = .ok (.iadd, 1) := by decide +kernel
theorem dL_law_211 : decode cL_law 211 = .ok (.iaload, 1) := by decide +kernel
set_option maxRecDepth 100000 in
theorem wd_978 : Cond.methodLink "LearnLoansLaw" 17 yX8_person ∈ am_ws := am_wsi (List.mem_of_getElem? (i := 978) (by rfl)) (by decide +kernel)
set_option maxRecDepth 100000 in
theorem wd_979 : Cond.instanceMethod yX8_person ∈ am_ws := am_wsi (List.mem_of_getElem? (i := 979) (by rfl)) (by decide +kernel)
set_option maxRecDepth 100000 in
theorem wd_980 : Cond.selects "LearnLoansModel" yX8_person yX8_person ∈ am_ws := am_wsi (List.mem_of_getElem? (i := 980) (by rfl)) (by decide +kernel)
set_option maxRecDepth 100000 in
theorem wd_981 : Cond.code yX8_person cX8_person 2 (some .int) ∈ am_ws := am_wsi (List.mem_of_getElem? (i := 981) (by rfl)) (by decide +kernel)
theorem dL_law_212 : decode cL_law 212 = .ok (.invokevirtual 17, 3) := by decide +kernel
theorem dL_law_215 : decode cL_law 215 = .ok (.pop, 1) := by decide +kernel
theorem dL_law_216 : decode cL_law 216 = .ok (.goto 1625, 3) := by decide +kernel
def kL_c0 (Ln : Nat) (xs : Nat → Int32) : an_code := [(196, an_lf (fun live => am_aload 1 197)), (197, an_lf (fun live => am_aload 0 198)), (198, an_lf (fun live => am_iload 3 199)), (199, an_lf (fun live => am_const (.int 1) 200)), (200, an_lf (fun live => am_i2 (fun x y => x + y) 201)), (201, an_sld Ln xs 202), (202, an_lf (fun live => am_callV live 7 1 TW_person 205)), (205, an_lf (fun live => am_pop 206)), (206, an_lf (fun live => am_aload 2 207)), (207, an_lf (fun live => am_aload 0 208)), (208, an_lf (fun live => am_iload 3 209)), (209, an_lf (fun live => am_const (.int 1) 210)), (210, an_lf (fun live => am_i2 (fun x y => x + y) 211)), (211, an_sld Ln xs 212), (212, an_lf (fun live => am_callV live 8 1 TX8_person 215)), (215, an_lf (fun live => am_pop 216)), (216, an_lf (fun live => am_goto 1841))]
theorem koL_c0 (Ln : Nat) (xs : Nat → Int32) : ∀ q ∈ kL_c0 Ln xs, an_ok RL cL_law 4 (some .boolean) 2000 80000 600000 7302250 false (lawP Ln xs) an_noR q.1 q.2 :=
  an_kc (an_lift (fun live => ak_aload_n dL_law_196 rfl rfl)) <|
  an_kc (an_lift (fun live => ak_aload_n dL_law_197 rfl rfl)) <|
  an_kc (an_lift (fun live => ak_iload_n dL_law_198 rfl rfl)) <|
  an_kc (an_lift (fun live => ak_iconst dL_law_199 (by decide +kernel) rfl)) <|
  an_kc (an_lift (fun live => ak_iadd dL_law_200 rfl)) <|
  an_kc (nk_sld dL_law_201 rfl) <|
  an_kc (an_lift (fun live => ak_callV (C := RX7) (F := TX7) (N := 4) metW_person rfl ⟨rfl, by decide +kernel, by decide +kernel, by decide +kernel⟩ (am_w5 wd_403 wd_404 wd_405 wd_58 wd_406) (by decide) dL_law_202 rfl)) <|
  an_kc (an_lift (fun live => ak_pop dL_law_205 rfl)) <|
  an_kc (an_lift (fun live => ak_aload_n dL_law_206 rfl rfl)) <|
  an_kc (an_lift (fun live => ak_aload_n dL_law_207 rfl rfl)) <|
  an_kc (an_lift (fun live => ak_iload_n dL_law_208 rfl rfl)) <|
  an_kc (an_lift (fun live => ak_iconst dL_law_209 (by decide +kernel) rfl)) <|
  an_kc (an_lift (fun live => ak_iadd dL_law_210 rfl)) <|
  an_kc (nk_sld dL_law_211 rfl) <|
  an_kc (an_lift (fun live => ak_callV (C := RX8) (F := TX8) (N := 27) metX8_person rfl ⟨rfl, by decide +kernel, by decide +kernel, by decide +kernel⟩ (am_w5 wd_978 wd_979 wd_980 wd_67 wd_981) (by decide) dL_law_212 rfl)) <|
  an_kc (an_lift (fun live => ak_pop dL_law_215 rfl)) <|
  an_kc (an_lift (fun live => ak_goto dL_law_216 (by decide +kernel))) <| an_kn
set_option maxRecDepth 100000 in
set_option maxHeartbeats 4000000 in
theorem caseL_c0 {Ln : Nat} (xs : Nat → Int32) {i : Int32} {i1 i2 : Bool} {kc kn : Nat} {M : am_M} (h : LX i1 i2 M) (hi : lawI Ln i kc kn) : an_wp (kL_c0 Ln xs) (lawC Ln i) 200 (an_go (kL_c0 Ln xs) 196) (lawL i) [] ((am_lv i1 i2, am_q i1 i2), kc, kn, M) := by
    obtain ⟨⟨f1, f2, f3, f4, f5, f6, f7⟩, k1, k2, k3, k4⟩ := hi.f
    have hmn : am_mn (am_lv i1 i2, am_q i1 i2) := ⟨_, _, rfl⟩
    repeat' (first | (with_reducible exact f1) | (with_reducible exact f2) | (with_reducible exact f3) | (with_reducible exact f4) | (with_reducible exact f5) | (with_reducible exact f6) | (with_reducible exact f7) | (with_reducible exact hmn) | (with_reducible exact h) | (with_reducible exact k1) | (with_reducible exact k2) | (with_reducible exact k3) | (with_reducible exact k4) | apply And.intro | exact rfl | ((with_reducible change r_I _); (with_reducible assumption)) | (intro hx; exact absurd hx (by decide)) | (intro hx; exact absurd (by decide) hx) | decide | intro hx | (refine Exists.intro _ (And.intro rfl ?_)) | (refine Exists.intro _ (Exists.intro _ (And.intro rfl (And.intro rfl ?_)))) | ((with_reducible change LX _ _ _); (with_reducible assumption)) | ((with_reducible change _ = true); simp only [k1, k2, k3, k4, Bool.true_and]; rfl))
    all_goals try first | (with_reducible change am_tI _ _) | (change Ret _ _) | (change Ret _ _ _) | (change Exists _)
    all_goals try dsimp only at *
    all_goals try exact absurd ‹(1000 : Int64) = 0› (by decide)
    all_goals first
      | exact ⟨_, _, rfl⟩
      | exact lawE.mk hi (by with_reducible assumption) (by omega) (by omega)
      | skip
theorem dL_law_219 : decode cL_law 219 = .ok (.aload_n 1, 1) := by decide +kernel
theorem dL_law_220 : decode cL_law 220 = .ok (.aload_n 0, 1) := by decide +kernel
theorem dL_law_221 : decode cL_law 221 = .ok (.iload_n 3, 1) := by decide +kernel
theorem dL_law_222 : decode cL_law 222 = .ok (.iconst 1, 1) := by decide +kernel
theorem dL_law_223 : decode cL_law 223 = .ok (.iadd, 1) := by decide +kernel
theorem dL_law_224 : decode cL_law 224 = .ok (.iaload, 1) := by decide +kernel
theorem dL_law_225 : decode cL_law 225 = .ok (.aload_n 0, 1) := by decide +kernel
theorem dL_law_226 : decode cL_law 226 = .ok (.iload_n 3, 1) := by decide +kernel
theorem dL_law_227 : decode cL_law 227 = .ok (.iconst 2, 1) := by decide +kernel
theorem dL_law_228 : decode cL_law 228 = .ok (.iadd, 1) := by decide +kernel
theorem dL_law_229 : decode cL_law 229 = .ok (.iaload, 1) := by decide +kernel
theorem dL_law_230 : decode cL_law 230 = .ok (.aload_n 0, 1) := by decide +kernel
theorem dL_law_231 : decode cL_law 231 = .ok (.iload_n 3, 1) := by decide +kernel
theorem dL_law_232 : decode cL_law 232 = .ok (.iconst 3, 1) := by decide +kernel
theorem dL_law_233 : decode cL_law 233 = .ok (.iadd, 1) := by decide +kernel
theorem dL_law_234 : decode cL_law 234 = .ok (.iaload, 1) := by decide +kernel
theorem dL_law_235 : decode cL_law 235 = .ok (.aload_n 0, 1) := by decide +kernel
theorem dL_law_236 : decode cL_law 236 = .ok (.iload_n 3, 1) := by decide +kernel
theorem dL_law_237 : decode cL_law 237 = .ok (.iconst 4, 1) := by decide +kernel
theorem dL_law_238 : decode cL_law 238 = .ok (.iadd, 1) := by decide +kernel
theorem dL_law_239 : decode cL_law 239 = .ok (.iaload, 1) := by decide +kernel
set_option maxRecDepth 100000 in
theorem wd_410 : Cond.methodLink "LearnLoansLaw" 18 yX7_land ∈ am_ws := am_wsi (List.mem_of_getElem? (i := 410) (by rfl)) (by decide +kernel)
set_option maxRecDepth 100000 in
theorem wd_411 : Cond.instanceMethod yX7_land ∈ am_ws := am_wsi (List.mem_of_getElem? (i := 411) (by rfl)) (by decide +kernel)
set_option maxRecDepth 100000 in
theorem wd_412 : Cond.selects "LearnLoans" yX7_land yX7_land ∈ am_ws := am_wsi (List.mem_of_getElem? (i := 412) (by rfl)) (by decide +kernel)
set_option maxRecDepth 100000 in
theorem wd_413 : Cond.code yX7_land cX7_land 5 (some .int) ∈ am_ws := am_wsi (List.mem_of_getElem? (i := 413) (by rfl)) (by decide +kernel)
theorem dL_law_240 : decode cL_law 240 = .ok (.invokevirtual 18, 3) := by decide +kernel
theorem dL_law_243 : decode cL_law 243 = .ok (.pop, 1) := by decide +kernel
theorem dL_law_244 : decode cL_law 244 = .ok (.aload_n 2, 1) := by decide +kernel
theorem dL_law_245 : decode cL_law 245 = .ok (.aload_n 0, 1) := by decide +kernel
theorem dL_law_246 : decode cL_law 246 = .ok (.iload_n 3, 1) := by decide +kernel
theorem dL_law_247 : decode cL_law 247 = .ok (.iconst 1, 1) := by decide +kernel
theorem dL_law_248 : decode cL_law 248 = .ok (.iadd, 1) := by decide +kernel
theorem dL_law_249 : decode cL_law 249 = .ok (.iaload, 1) := by decide +kernel
theorem dL_law_250 : decode cL_law 250 = .ok (.aload_n 0, 1) := by decide +kernel
theorem dL_law_251 : decode cL_law 251 = .ok (.iload_n 3, 1) := by decide +kernel
theorem dL_law_252 : decode cL_law 252 = .ok (.iconst 2, 1) := by decide +kernel
theorem dL_law_253 : decode cL_law 253 = .ok (.iadd, 1) := by decide +kernel
theorem dL_law_254 : decode cL_law 254 = .ok (.iaload, 1) := by decide +kernel
theorem dL_law_255 : decode cL_law 255 = .ok (.aload_n 0, 1) := by decide +kernel
theorem dL_law_256 : decode cL_law 256 = .ok (.iload_n 3, 1) := by decide +kernel
theorem dL_law_257 : decode cL_law 257 = .ok (.iconst 3, 1) := by decide +kernel
theorem dL_law_258 : decode cL_law 258 = .ok (.iadd, 1) := by decide +kernel
theorem dL_law_259 : decode cL_law 259 = .ok (.iaload, 1) := by decide +kernel
theorem dL_law_260 : decode cL_law 260 = .ok (.aload_n 0, 1) := by decide +kernel
theorem dL_law_261 : decode cL_law 261 = .ok (.iload_n 3, 1) := by decide +kernel
theorem dL_law_262 : decode cL_law 262 = .ok (.iconst 4, 1) := by decide +kernel
theorem dL_law_263 : decode cL_law 263 = .ok (.iadd, 1) := by decide +kernel
theorem dL_law_264 : decode cL_law 264 = .ok (.iaload, 1) := by decide +kernel
set_option maxRecDepth 100000 in
theorem wd_989 : Cond.methodLink "LearnLoansLaw" 22 yX8_land ∈ am_ws := am_wsi (List.mem_of_getElem? (i := 989) (by rfl)) (by decide +kernel)
set_option maxRecDepth 100000 in
theorem wd_990 : Cond.instanceMethod yX8_land ∈ am_ws := am_wsi (List.mem_of_getElem? (i := 990) (by rfl)) (by decide +kernel)
set_option maxRecDepth 100000 in
theorem wd_991 : Cond.selects "LearnLoansModel" yX8_land yX8_land ∈ am_ws := am_wsi (List.mem_of_getElem? (i := 991) (by rfl)) (by decide +kernel)
set_option maxRecDepth 100000 in
theorem wd_992 : Cond.code yX8_land cX8_land 6 (some .int) ∈ am_ws := am_wsi (List.mem_of_getElem? (i := 992) (by rfl)) (by decide +kernel)
theorem dL_law_265 : decode cL_law 265 = .ok (.invokevirtual 22, 3) := by decide +kernel
theorem dL_law_268 : decode cL_law 268 = .ok (.pop, 1) := by decide +kernel
theorem dL_law_269 : decode cL_law 269 = .ok (.goto 1572, 3) := by decide +kernel
def kL_c1 (Ln : Nat) (xs : Nat → Int32) : an_code := [(219, an_lf (fun live => am_aload 1 220)), (220, an_lf (fun live => am_aload 0 221)), (221, an_lf (fun live => am_iload 3 222)), (222, an_lf (fun live => am_const (.int 1) 223)), (223, an_lf (fun live => am_i2 (fun x y => x + y) 224)), (224, an_sld Ln xs 225), (225, an_lf (fun live => am_aload 0 226)), (226, an_lf (fun live => am_iload 3 227)), (227, an_lf (fun live => am_const (.int 2) 228)), (228, an_lf (fun live => am_i2 (fun x y => x + y) 229)), (229, an_sld Ln xs 230), (230, an_lf (fun live => am_aload 0 231)), (231, an_lf (fun live => am_iload 3 232)), (232, an_lf (fun live => am_const (.int 3) 233)), (233, an_lf (fun live => am_i2 (fun x y => x + y) 234)), (234, an_sld Ln xs 235), (235, an_lf (fun live => am_aload 0 236)), (236, an_lf (fun live => am_iload 3 237)), (237, an_lf (fun live => am_const (.int 4) 238)), (238, an_lf (fun live => am_i2 (fun x y => x + y) 239)), (239, an_sld Ln xs 240), (240, an_lf (fun live => am_callV live 7 4 TW_land 243)), (243, an_lf (fun live => am_pop 244)), (244, an_lf (fun live => am_aload 2 245)), (245, an_lf (fun live => am_aload 0 246)), (246, an_lf (fun live => am_iload 3 247)), (247, an_lf (fun live => am_const (.int 1) 248)), (248, an_lf (fun live => am_i2 (fun x y => x + y) 249)), (249, an_sld Ln xs 250), (250, an_lf (fun live => am_aload 0 251)), (251, an_lf (fun live => am_iload 3 252)), (252, an_lf (fun live => am_const (.int 2) 253)), (253, an_lf (fun live => am_i2 (fun x y => x + y) 254)), (254, an_sld Ln xs 255), (255, an_lf (fun live => am_aload 0 256)), (256, an_lf (fun live => am_iload 3 257)), (257, an_lf (fun live => am_const (.int 3) 258)), (258, an_lf (fun live => am_i2 (fun x y => x + y) 259)), (259, an_sld Ln xs 260), (260, an_lf (fun live => am_aload 0 261)), (261, an_lf (fun live => am_iload 3 262)), (262, an_lf (fun live => am_const (.int 4) 263)), (263, an_lf (fun live => am_i2 (fun x y => x + y) 264)), (264, an_sld Ln xs 265), (265, an_lf (fun live => am_callV live 8 4 TX8_land 268)), (268, an_lf (fun live => am_pop 269)), (269, an_lf (fun live => am_goto 1841))]
theorem koL_c1 (Ln : Nat) (xs : Nat → Int32) : ∀ q ∈ kL_c1 Ln xs, an_ok RL cL_law 4 (some .boolean) 2000 80000 600000 7302250 false (lawP Ln xs) an_noR q.1 q.2 :=
  an_kc (an_lift (fun live => ak_aload_n dL_law_219 rfl rfl)) <|
  an_kc (an_lift (fun live => ak_aload_n dL_law_220 rfl rfl)) <|
  an_kc (an_lift (fun live => ak_iload_n dL_law_221 rfl rfl)) <|
  an_kc (an_lift (fun live => ak_iconst dL_law_222 (by decide +kernel) rfl)) <|
  an_kc (an_lift (fun live => ak_iadd dL_law_223 rfl)) <|
  an_kc (nk_sld dL_law_224 rfl) <|
  an_kc (an_lift (fun live => ak_aload_n dL_law_225 rfl rfl)) <|
  an_kc (an_lift (fun live => ak_iload_n dL_law_226 rfl rfl)) <|
  an_kc (an_lift (fun live => ak_iconst dL_law_227 (by decide +kernel) rfl)) <|
  an_kc (an_lift (fun live => ak_iadd dL_law_228 rfl)) <|
  an_kc (nk_sld dL_law_229 rfl) <|
  an_kc (an_lift (fun live => ak_aload_n dL_law_230 rfl rfl)) <|
  an_kc (an_lift (fun live => ak_iload_n dL_law_231 rfl rfl)) <|
  an_kc (an_lift (fun live => ak_iconst dL_law_232 (by decide +kernel) rfl)) <|
  an_kc (an_lift (fun live => ak_iadd dL_law_233 rfl)) <|
  an_kc (nk_sld dL_law_234 rfl) <|
  an_kc (an_lift (fun live => ak_aload_n dL_law_235 rfl rfl)) <|
  an_kc (an_lift (fun live => ak_iload_n dL_law_236 rfl rfl)) <|
  an_kc (an_lift (fun live => ak_iconst dL_law_237 (by decide +kernel) rfl)) <|
  an_kc (an_lift (fun live => ak_iadd dL_law_238 rfl)) <|
  an_kc (nk_sld dL_law_239 rfl) <|
  an_kc (an_lift (fun live => ak_callV (C := RX7) (F := TX7) (N := 4) metW_land rfl ⟨rfl, by decide +kernel, by decide +kernel, by decide +kernel⟩ (am_w5 wd_410 wd_411 wd_412 wd_58 wd_413) (by decide) dL_law_240 rfl)) <|
  an_kc (an_lift (fun live => ak_pop dL_law_243 rfl)) <|
  an_kc (an_lift (fun live => ak_aload_n dL_law_244 rfl rfl)) <|
  an_kc (an_lift (fun live => ak_aload_n dL_law_245 rfl rfl)) <|
  an_kc (an_lift (fun live => ak_iload_n dL_law_246 rfl rfl)) <|
  an_kc (an_lift (fun live => ak_iconst dL_law_247 (by decide +kernel) rfl)) <|
  an_kc (an_lift (fun live => ak_iadd dL_law_248 rfl)) <|
  an_kc (nk_sld dL_law_249 rfl) <|
  an_kc (an_lift (fun live => ak_aload_n dL_law_250 rfl rfl)) <|
  an_kc (an_lift (fun live => ak_iload_n dL_law_251 rfl rfl)) <|
  an_kc (an_lift (fun live => ak_iconst dL_law_252 (by decide +kernel) rfl)) <|
  an_kc (an_lift (fun live => ak_iadd dL_law_253 rfl)) <|
  an_kc (nk_sld dL_law_254 rfl) <|
  an_kc (an_lift (fun live => ak_aload_n dL_law_255 rfl rfl)) <|
  an_kc (an_lift (fun live => ak_iload_n dL_law_256 rfl rfl)) <|
  an_kc (an_lift (fun live => ak_iconst dL_law_257 (by decide +kernel) rfl)) <|
  an_kc (an_lift (fun live => ak_iadd dL_law_258 rfl)) <|
  an_kc (nk_sld dL_law_259 rfl) <|
  an_kc (an_lift (fun live => ak_aload_n dL_law_260 rfl rfl)) <|
  an_kc (an_lift (fun live => ak_iload_n dL_law_261 rfl rfl)) <|
  an_kc (an_lift (fun live => ak_iconst dL_law_262 (by decide +kernel) rfl)) <|
  an_kc (an_lift (fun live => ak_iadd dL_law_263 rfl)) <|
  an_kc (nk_sld dL_law_264 rfl) <|
  an_kc (an_lift (fun live => ak_callV (C := RX8) (F := TX8) (N := 27) metX8_land rfl ⟨rfl, by decide +kernel, by decide +kernel, by decide +kernel⟩ (am_w5 wd_989 wd_990 wd_991 wd_67 wd_992) (by decide) dL_law_265 rfl)) <|
  an_kc (an_lift (fun live => ak_pop dL_law_268 rfl)) <|
  an_kc (an_lift (fun live => ak_goto dL_law_269 (by decide +kernel))) <| an_kn
set_option maxRecDepth 100000 in
set_option maxHeartbeats 4000000 in
theorem caseL_c1 {Ln : Nat} (xs : Nat → Int32) {i : Int32} {i1 i2 : Bool} {kc kn : Nat} {M : am_M} (h : LX i1 i2 M) (hi : lawI Ln i kc kn) : an_wp (kL_c1 Ln xs) (lawC Ln i) 200 (an_go (kL_c1 Ln xs) 219) (lawL i) [] ((am_lv i1 i2, am_q i1 i2), kc, kn, M) := by
    obtain ⟨⟨f1, f2, f3, f4, f5, f6, f7⟩, k1, k2, k3, k4⟩ := hi.f
    have hmn : am_mn (am_lv i1 i2, am_q i1 i2) := ⟨_, _, rfl⟩
    repeat' (first | (with_reducible exact f1) | (with_reducible exact f2) | (with_reducible exact f3) | (with_reducible exact f4) | (with_reducible exact f5) | (with_reducible exact f6) | (with_reducible exact f7) | (with_reducible exact hmn) | (with_reducible exact h) | (with_reducible exact k1) | (with_reducible exact k2) | (with_reducible exact k3) | (with_reducible exact k4) | apply And.intro | exact rfl | ((with_reducible change r_I _); (with_reducible assumption)) | (intro hx; exact absurd hx (by decide)) | (intro hx; exact absurd (by decide) hx) | decide | intro hx | (refine Exists.intro _ (And.intro rfl ?_)) | (refine Exists.intro _ (Exists.intro _ (And.intro rfl (And.intro rfl ?_)))) | ((with_reducible change LX _ _ _); (with_reducible assumption)) | ((with_reducible change _ = true); simp only [k1, k2, k3, k4, Bool.true_and]; rfl))
    all_goals try first | (with_reducible change am_tI _ _) | (change Ret _ _) | (change Ret _ _ _) | (change Exists _)
    all_goals try dsimp only at *
    all_goals try exact absurd ‹(1000 : Int64) = 0› (by decide)
    all_goals first
      | exact ⟨_, _, rfl⟩
      | exact lawE.mk hi (by with_reducible assumption) (by omega) (by omega)
      | skip
theorem dL_law_272 : decode cL_law 272 = .ok (.aload_n 1, 1) := by decide +kernel
theorem dL_law_273 : decode cL_law 273 = .ok (.aload_n 0, 1) := by decide +kernel
theorem dL_law_274 : decode cL_law 274 = .ok (.iload_n 3, 1) := by decide +kernel
theorem dL_law_275 : decode cL_law 275 = .ok (.iconst 1, 1) := by decide +kernel
theorem dL_law_276 : decode cL_law 276 = .ok (.iadd, 1) := by decide +kernel
theorem dL_law_277 : decode cL_law 277 = .ok (.iaload, 1) := by decide +kernel
theorem dL_law_278 : decode cL_law 278 = .ok (.aload_n 0, 1) := by decide +kernel
theorem dL_law_279 : decode cL_law 279 = .ok (.iload_n 3, 1) := by decide +kernel
theorem dL_law_280 : decode cL_law 280 = .ok (.iconst 2, 1) := by decide +kernel
theorem dL_law_281 : decode cL_law 281 = .ok (.iadd, 1) := by decide +kernel
theorem dL_law_282 : decode cL_law 282 = .ok (.iaload, 1) := by decide +kernel
set_option maxRecDepth 100000 in
theorem wd_430 : Cond.methodLink "LearnLoansLaw" 23 yX7_scale ∈ am_ws := am_wsi (List.mem_of_getElem? (i := 430) (by rfl)) (by decide +kernel)
set_option maxRecDepth 100000 in
theorem wd_431 : Cond.instanceMethod yX7_scale ∈ am_ws := am_wsi (List.mem_of_getElem? (i := 431) (by rfl)) (by decide +kernel)
set_option maxRecDepth 100000 in
theorem wd_432 : Cond.selects "LearnLoans" yX7_scale yX7_scale ∈ am_ws := am_wsi (List.mem_of_getElem? (i := 432) (by rfl)) (by decide +kernel)
set_option maxRecDepth 100000 in
theorem wd_433 : Cond.code yX7_scale cX7_scale 4 (some .int) ∈ am_ws := am_wsi (List.mem_of_getElem? (i := 433) (by rfl)) (by decide +kernel)
theorem dL_law_283 : decode cL_law 283 = .ok (.invokevirtual 23, 3) := by decide +kernel
theorem dL_law_286 : decode cL_law 286 = .ok (.pop, 1) := by decide +kernel
theorem dL_law_287 : decode cL_law 287 = .ok (.aload_n 2, 1) := by decide +kernel
theorem dL_law_288 : decode cL_law 288 = .ok (.aload_n 0, 1) := by decide +kernel
theorem dL_law_289 : decode cL_law 289 = .ok (.iload_n 3, 1) := by decide +kernel
theorem dL_law_290 : decode cL_law 290 = .ok (.iconst 1, 1) := by decide +kernel
theorem dL_law_291 : decode cL_law 291 = .ok (.iadd, 1) := by decide +kernel
theorem dL_law_292 : decode cL_law 292 = .ok (.iaload, 1) := by decide +kernel
theorem dL_law_293 : decode cL_law 293 = .ok (.aload_n 0, 1) := by decide +kernel
theorem dL_law_294 : decode cL_law 294 = .ok (.iload_n 3, 1) := by decide +kernel
theorem dL_law_295 : decode cL_law 295 = .ok (.iconst 2, 1) := by decide +kernel
theorem dL_law_296 : decode cL_law 296 = .ok (.iadd, 1) := by decide +kernel
theorem dL_law_297 : decode cL_law 297 = .ok (.iaload, 1) := by decide +kernel
set_option maxRecDepth 100000 in
theorem wd_998 : Cond.methodLink "LearnLoansLaw" 27 yX8_scale ∈ am_ws := am_wsi (List.mem_of_getElem? (i := 998) (by rfl)) (by decide +kernel)
set_option maxRecDepth 100000 in
theorem wd_999 : Cond.instanceMethod yX8_scale ∈ am_ws := am_wsi (List.mem_of_getElem? (i := 999) (by rfl)) (by decide +kernel)
set_option maxRecDepth 100000 in
theorem wd_1000 : Cond.selects "LearnLoansModel" yX8_scale yX8_scale ∈ am_ws := am_wsi (List.mem_of_getElem? (i := 1000) (by rfl)) (by decide +kernel)
set_option maxRecDepth 100000 in
theorem wd_1001 : Cond.code yX8_scale cX8_scale 4 (some .int) ∈ am_ws := am_wsi (List.mem_of_getElem? (i := 1001) (by rfl)) (by decide +kernel)
theorem dL_law_298 : decode cL_law 298 = .ok (.invokevirtual 27, 3) := by decide +kernel
theorem dL_law_301 : decode cL_law 301 = .ok (.pop, 1) := by decide +kernel
theorem dL_law_302 : decode cL_law 302 = .ok (.goto 1539, 3) := by decide +kernel
def kL_c2 (Ln : Nat) (xs : Nat → Int32) : an_code := [(272, an_lf (fun live => am_aload 1 273)), (273, an_lf (fun live => am_aload 0 274)), (274, an_lf (fun live => am_iload 3 275)), (275, an_lf (fun live => am_const (.int 1) 276)), (276, an_lf (fun live => am_i2 (fun x y => x + y) 277)), (277, an_sld Ln xs 278), (278, an_lf (fun live => am_aload 0 279)), (279, an_lf (fun live => am_iload 3 280)), (280, an_lf (fun live => am_const (.int 2) 281)), (281, an_lf (fun live => am_i2 (fun x y => x + y) 282)), (282, an_sld Ln xs 283), (283, an_lf (fun live => am_callV live 7 2 TW_scale 286)), (286, an_lf (fun live => am_pop 287)), (287, an_lf (fun live => am_aload 2 288)), (288, an_lf (fun live => am_aload 0 289)), (289, an_lf (fun live => am_iload 3 290)), (290, an_lf (fun live => am_const (.int 1) 291)), (291, an_lf (fun live => am_i2 (fun x y => x + y) 292)), (292, an_sld Ln xs 293), (293, an_lf (fun live => am_aload 0 294)), (294, an_lf (fun live => am_iload 3 295)), (295, an_lf (fun live => am_const (.int 2) 296)), (296, an_lf (fun live => am_i2 (fun x y => x + y) 297)), (297, an_sld Ln xs 298), (298, an_lf (fun live => am_callV live 8 2 TX8_scale 301)), (301, an_lf (fun live => am_pop 302)), (302, an_lf (fun live => am_goto 1841))]
theorem koL_c2 (Ln : Nat) (xs : Nat → Int32) : ∀ q ∈ kL_c2 Ln xs, an_ok RL cL_law 4 (some .boolean) 2000 80000 600000 7302250 false (lawP Ln xs) an_noR q.1 q.2 :=
  an_kc (an_lift (fun live => ak_aload_n dL_law_272 rfl rfl)) <|
  an_kc (an_lift (fun live => ak_aload_n dL_law_273 rfl rfl)) <|
  an_kc (an_lift (fun live => ak_iload_n dL_law_274 rfl rfl)) <|
  an_kc (an_lift (fun live => ak_iconst dL_law_275 (by decide +kernel) rfl)) <|
  an_kc (an_lift (fun live => ak_iadd dL_law_276 rfl)) <|
  an_kc (nk_sld dL_law_277 rfl) <|
  an_kc (an_lift (fun live => ak_aload_n dL_law_278 rfl rfl)) <|
  an_kc (an_lift (fun live => ak_iload_n dL_law_279 rfl rfl)) <|
  an_kc (an_lift (fun live => ak_iconst dL_law_280 (by decide +kernel) rfl)) <|
  an_kc (an_lift (fun live => ak_iadd dL_law_281 rfl)) <|
  an_kc (nk_sld dL_law_282 rfl) <|
  an_kc (an_lift (fun live => ak_callV (C := RX7) (F := TX7) (N := 4) metW_scale rfl ⟨rfl, by decide +kernel, by decide +kernel, by decide +kernel⟩ (am_w5 wd_430 wd_431 wd_432 wd_58 wd_433) (by decide) dL_law_283 rfl)) <|
  an_kc (an_lift (fun live => ak_pop dL_law_286 rfl)) <|
  an_kc (an_lift (fun live => ak_aload_n dL_law_287 rfl rfl)) <|
  an_kc (an_lift (fun live => ak_aload_n dL_law_288 rfl rfl)) <|
  an_kc (an_lift (fun live => ak_iload_n dL_law_289 rfl rfl)) <|
  an_kc (an_lift (fun live => ak_iconst dL_law_290 (by decide +kernel) rfl)) <|
  an_kc (an_lift (fun live => ak_iadd dL_law_291 rfl)) <|
  an_kc (nk_sld dL_law_292 rfl) <|
  an_kc (an_lift (fun live => ak_aload_n dL_law_293 rfl rfl)) <|
  an_kc (an_lift (fun live => ak_iload_n dL_law_294 rfl rfl)) <|
  an_kc (an_lift (fun live => ak_iconst dL_law_295 (by decide +kernel) rfl)) <|
  an_kc (an_lift (fun live => ak_iadd dL_law_296 rfl)) <|
  an_kc (nk_sld dL_law_297 rfl) <|
  an_kc (an_lift (fun live => ak_callV (C := RX8) (F := TX8) (N := 27) metX8_scale rfl ⟨rfl, by decide +kernel, by decide +kernel, by decide +kernel⟩ (am_w5 wd_998 wd_999 wd_1000 wd_67 wd_1001) (by decide) dL_law_298 rfl)) <|
  an_kc (an_lift (fun live => ak_pop dL_law_301 rfl)) <|
  an_kc (an_lift (fun live => ak_goto dL_law_302 (by decide +kernel))) <| an_kn
set_option maxRecDepth 100000 in
set_option maxHeartbeats 4000000 in
theorem caseL_c2 {Ln : Nat} (xs : Nat → Int32) {i : Int32} {i1 i2 : Bool} {kc kn : Nat} {M : am_M} (h : LX i1 i2 M) (hi : lawI Ln i kc kn) : an_wp (kL_c2 Ln xs) (lawC Ln i) 200 (an_go (kL_c2 Ln xs) 272) (lawL i) [] ((am_lv i1 i2, am_q i1 i2), kc, kn, M) := by
    obtain ⟨⟨f1, f2, f3, f4, f5, f6, f7⟩, k1, k2, k3, k4⟩ := hi.f
    have hmn : am_mn (am_lv i1 i2, am_q i1 i2) := ⟨_, _, rfl⟩
    repeat' (first | (with_reducible exact f1) | (with_reducible exact f2) | (with_reducible exact f3) | (with_reducible exact f4) | (with_reducible exact f5) | (with_reducible exact f6) | (with_reducible exact f7) | (with_reducible exact hmn) | (with_reducible exact h) | (with_reducible exact k1) | (with_reducible exact k2) | (with_reducible exact k3) | (with_reducible exact k4) | apply And.intro | exact rfl | ((with_reducible change r_I _); (with_reducible assumption)) | (intro hx; exact absurd hx (by decide)) | (intro hx; exact absurd (by decide) hx) | decide | intro hx | (refine Exists.intro _ (And.intro rfl ?_)) | (refine Exists.intro _ (Exists.intro _ (And.intro rfl (And.intro rfl ?_)))) | ((with_reducible change LX _ _ _); (with_reducible assumption)) | ((with_reducible change _ = true); simp only [k1, k2, k3, k4, Bool.true_and]; rfl))
    all_goals try first | (with_reducible change am_tI _ _) | (change Ret _ _) | (change Ret _ _ _) | (change Exists _)
    all_goals try dsimp only at *
    all_goals try exact absurd ‹(1000 : Int64) = 0› (by decide)
    all_goals first
      | exact ⟨_, _, rfl⟩
      | exact lawE.mk hi (by with_reducible assumption) (by omega) (by omega)
      | skip
theorem dL_law_305 : decode cL_law 305 = .ok (.aload_n 1, 1) := by decide +kernel
theorem dL_law_306 : decode cL_law 306 = .ok (.aload_n 0, 1) := by decide +kernel
theorem dL_law_307 : decode cL_law 307 = .ok (.iload_n 3, 1) := by decide +kernel
theorem dL_law_308 : decode cL_law 308 = .ok (.iconst 1, 1) := by decide +kernel
theorem dL_law_309 : decode cL_law 309 = .ok (.iadd, 1) := by decide +kernel
theorem dL_law_310 : decode cL_law 310 = .ok (.iaload, 1) := by decide +kernel
theorem dL_law_311 : decode cL_law 311 = .ok (.aload_n 0, 1) := by decide +kernel
theorem dL_law_312 : decode cL_law 312 = .ok (.iload_n 3, 1) := by decide +kernel
theorem dL_law_313 : decode cL_law 313 = .ok (.iconst 2, 1) := by decide +kernel
theorem dL_law_314 : decode cL_law 314 = .ok (.iadd, 1) := by decide +kernel
theorem dL_law_315 : decode cL_law 315 = .ok (.iaload, 1) := by decide +kernel
set_option maxRecDepth 100000 in
theorem wd_434 : Cond.methodLink "LearnLoansLaw" 28 yX7_prices ∈ am_ws := am_wsi (List.mem_of_getElem? (i := 434) (by rfl)) (by decide +kernel)
set_option maxRecDepth 100000 in
theorem wd_435 : Cond.instanceMethod yX7_prices ∈ am_ws := am_wsi (List.mem_of_getElem? (i := 435) (by rfl)) (by decide +kernel)
set_option maxRecDepth 100000 in
theorem wd_436 : Cond.selects "LearnLoans" yX7_prices yX7_prices ∈ am_ws := am_wsi (List.mem_of_getElem? (i := 436) (by rfl)) (by decide +kernel)
set_option maxRecDepth 100000 in
theorem wd_437 : Cond.code yX7_prices cX7_prices 4 (some .int) ∈ am_ws := am_wsi (List.mem_of_getElem? (i := 437) (by rfl)) (by decide +kernel)
theorem dL_law_316 : decode cL_law 316 = .ok (.invokevirtual 28, 3) := by decide +kernel
theorem dL_law_319 : decode cL_law 319 = .ok (.pop, 1) := by decide +kernel
theorem dL_law_320 : decode cL_law 320 = .ok (.aload_n 2, 1) := by decide +kernel
theorem dL_law_321 : decode cL_law 321 = .ok (.aload_n 0, 1) := by decide +kernel
theorem dL_law_322 : decode cL_law 322 = .ok (.iload_n 3, 1) := by decide +kernel
theorem dL_law_323 : decode cL_law 323 = .ok (.iconst 1, 1) := by decide +kernel
theorem dL_law_324 : decode cL_law 324 = .ok (.iadd, 1) := by decide +kernel
theorem dL_law_325 : decode cL_law 325 = .ok (.iaload, 1) := by decide +kernel
theorem dL_law_326 : decode cL_law 326 = .ok (.aload_n 0, 1) := by decide +kernel
theorem dL_law_327 : decode cL_law 327 = .ok (.iload_n 3, 1) := by decide +kernel
theorem dL_law_328 : decode cL_law 328 = .ok (.iconst 2, 1) := by decide +kernel
theorem dL_law_329 : decode cL_law 329 = .ok (.iadd, 1) := by decide +kernel
theorem dL_law_330 : decode cL_law 330 = .ok (.iaload, 1) := by decide +kernel
set_option maxRecDepth 100000 in
theorem wd_1003 : Cond.methodLink "LearnLoansLaw" 31 yX8_prices ∈ am_ws := am_wsi (List.mem_of_getElem? (i := 1003) (by rfl)) (by decide +kernel)
set_option maxRecDepth 100000 in
theorem wd_1004 : Cond.instanceMethod yX8_prices ∈ am_ws := am_wsi (List.mem_of_getElem? (i := 1004) (by rfl)) (by decide +kernel)
set_option maxRecDepth 100000 in
theorem wd_1005 : Cond.selects "LearnLoansModel" yX8_prices yX8_prices ∈ am_ws := am_wsi (List.mem_of_getElem? (i := 1005) (by rfl)) (by decide +kernel)
set_option maxRecDepth 100000 in
theorem wd_1006 : Cond.code yX8_prices cX8_prices 4 (some .int) ∈ am_ws := am_wsi (List.mem_of_getElem? (i := 1006) (by rfl)) (by decide +kernel)
theorem dL_law_331 : decode cL_law 331 = .ok (.invokevirtual 31, 3) := by decide +kernel
theorem dL_law_334 : decode cL_law 334 = .ok (.pop, 1) := by decide +kernel
theorem dL_law_335 : decode cL_law 335 = .ok (.goto 1506, 3) := by decide +kernel
def kL_c3 (Ln : Nat) (xs : Nat → Int32) : an_code := [(305, an_lf (fun live => am_aload 1 306)), (306, an_lf (fun live => am_aload 0 307)), (307, an_lf (fun live => am_iload 3 308)), (308, an_lf (fun live => am_const (.int 1) 309)), (309, an_lf (fun live => am_i2 (fun x y => x + y) 310)), (310, an_sld Ln xs 311), (311, an_lf (fun live => am_aload 0 312)), (312, an_lf (fun live => am_iload 3 313)), (313, an_lf (fun live => am_const (.int 2) 314)), (314, an_lf (fun live => am_i2 (fun x y => x + y) 315)), (315, an_sld Ln xs 316), (316, an_lf (fun live => am_callV live 7 2 TW_prices 319)), (319, an_lf (fun live => am_pop 320)), (320, an_lf (fun live => am_aload 2 321)), (321, an_lf (fun live => am_aload 0 322)), (322, an_lf (fun live => am_iload 3 323)), (323, an_lf (fun live => am_const (.int 1) 324)), (324, an_lf (fun live => am_i2 (fun x y => x + y) 325)), (325, an_sld Ln xs 326), (326, an_lf (fun live => am_aload 0 327)), (327, an_lf (fun live => am_iload 3 328)), (328, an_lf (fun live => am_const (.int 2) 329)), (329, an_lf (fun live => am_i2 (fun x y => x + y) 330)), (330, an_sld Ln xs 331), (331, an_lf (fun live => am_callV live 8 2 TX8_prices 334)), (334, an_lf (fun live => am_pop 335)), (335, an_lf (fun live => am_goto 1841))]
theorem koL_c3 (Ln : Nat) (xs : Nat → Int32) : ∀ q ∈ kL_c3 Ln xs, an_ok RL cL_law 4 (some .boolean) 2000 80000 600000 7302250 false (lawP Ln xs) an_noR q.1 q.2 :=
  an_kc (an_lift (fun live => ak_aload_n dL_law_305 rfl rfl)) <|
  an_kc (an_lift (fun live => ak_aload_n dL_law_306 rfl rfl)) <|
  an_kc (an_lift (fun live => ak_iload_n dL_law_307 rfl rfl)) <|
  an_kc (an_lift (fun live => ak_iconst dL_law_308 (by decide +kernel) rfl)) <|
  an_kc (an_lift (fun live => ak_iadd dL_law_309 rfl)) <|
  an_kc (nk_sld dL_law_310 rfl) <|
  an_kc (an_lift (fun live => ak_aload_n dL_law_311 rfl rfl)) <|
  an_kc (an_lift (fun live => ak_iload_n dL_law_312 rfl rfl)) <|
  an_kc (an_lift (fun live => ak_iconst dL_law_313 (by decide +kernel) rfl)) <|
  an_kc (an_lift (fun live => ak_iadd dL_law_314 rfl)) <|
  an_kc (nk_sld dL_law_315 rfl) <|
  an_kc (an_lift (fun live => ak_callV (C := RX7) (F := TX7) (N := 4) metW_prices rfl ⟨rfl, by decide +kernel, by decide +kernel, by decide +kernel⟩ (am_w5 wd_434 wd_435 wd_436 wd_58 wd_437) (by decide) dL_law_316 rfl)) <|
  an_kc (an_lift (fun live => ak_pop dL_law_319 rfl)) <|
  an_kc (an_lift (fun live => ak_aload_n dL_law_320 rfl rfl)) <|
  an_kc (an_lift (fun live => ak_aload_n dL_law_321 rfl rfl)) <|
  an_kc (an_lift (fun live => ak_iload_n dL_law_322 rfl rfl)) <|
  an_kc (an_lift (fun live => ak_iconst dL_law_323 (by decide +kernel) rfl)) <|
  an_kc (an_lift (fun live => ak_iadd dL_law_324 rfl)) <|
  an_kc (nk_sld dL_law_325 rfl) <|
  an_kc (an_lift (fun live => ak_aload_n dL_law_326 rfl rfl)) <|
  an_kc (an_lift (fun live => ak_iload_n dL_law_327 rfl rfl)) <|
  an_kc (an_lift (fun live => ak_iconst dL_law_328 (by decide +kernel) rfl)) <|
  an_kc (an_lift (fun live => ak_iadd dL_law_329 rfl)) <|
  an_kc (nk_sld dL_law_330 rfl) <|
  an_kc (an_lift (fun live => ak_callV (C := RX8) (F := TX8) (N := 27) metX8_prices rfl ⟨rfl, by decide +kernel, by decide +kernel, by decide +kernel⟩ (am_w5 wd_1003 wd_1004 wd_1005 wd_67 wd_1006) (by decide) dL_law_331 rfl)) <|
  an_kc (an_lift (fun live => ak_pop dL_law_334 rfl)) <|
  an_kc (an_lift (fun live => ak_goto dL_law_335 (by decide +kernel))) <| an_kn
set_option maxRecDepth 100000 in
set_option maxHeartbeats 4000000 in
theorem caseL_c3 {Ln : Nat} (xs : Nat → Int32) {i : Int32} {i1 i2 : Bool} {kc kn : Nat} {M : am_M} (h : LX i1 i2 M) (hi : lawI Ln i kc kn) : an_wp (kL_c3 Ln xs) (lawC Ln i) 200 (an_go (kL_c3 Ln xs) 305) (lawL i) [] ((am_lv i1 i2, am_q i1 i2), kc, kn, M) := by
    obtain ⟨⟨f1, f2, f3, f4, f5, f6, f7⟩, k1, k2, k3, k4⟩ := hi.f
    have hmn : am_mn (am_lv i1 i2, am_q i1 i2) := ⟨_, _, rfl⟩
    repeat' (first | (with_reducible exact f1) | (with_reducible exact f2) | (with_reducible exact f3) | (with_reducible exact f4) | (with_reducible exact f5) | (with_reducible exact f6) | (with_reducible exact f7) | (with_reducible exact hmn) | (with_reducible exact h) | (with_reducible exact k1) | (with_reducible exact k2) | (with_reducible exact k3) | (with_reducible exact k4) | apply And.intro | exact rfl | ((with_reducible change r_I _); (with_reducible assumption)) | (intro hx; exact absurd hx (by decide)) | (intro hx; exact absurd (by decide) hx) | decide | intro hx | (refine Exists.intro _ (And.intro rfl ?_)) | (refine Exists.intro _ (Exists.intro _ (And.intro rfl (And.intro rfl ?_)))) | ((with_reducible change LX _ _ _); (with_reducible assumption)) | ((with_reducible change _ = true); simp only [k1, k2, k3, k4, Bool.true_and]; rfl))
    all_goals try first | (with_reducible change am_tI _ _) | (change Ret _ _) | (change Ret _ _ _) | (change Exists _)
    all_goals try dsimp only at *
    all_goals try exact absurd ‹(1000 : Int64) = 0› (by decide)
    all_goals first
      | exact ⟨_, _, rfl⟩
      | exact lawE.mk hi (by with_reducible assumption) (by omega) (by omega)
      | skip
