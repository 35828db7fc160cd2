/-! p1: the law -/
def an_noR : an_R := fun _ _ _ => False
def lawP (Ln : Nat) (xs : Nat → Int32) : State → (Nat → Nat) → Nat → Prop := fun s al B => va_X (al 2000) Ln xs s s.heap ∧ al 2000 < s.heap.size ∧ ¬ B ≤ al 2000
def an_sld (Ln : Nat) (xs : Nat → Int32) (nx : Nat) : an_S := fun L st X K => match st with
  | .int j :: .ref n :: r => am_if (Nat.beq n 2000) (am_in j Ln ∧ K nx L (.int (xs j.toNatClampNeg) :: r) X)
  | _ => False
def an_slen (Ln nx : Nat) : an_S := fun L st X K => match st with
  | .ref n :: r => am_if (Nat.beq n 2000) (K nx L (.int (Int32.ofNat Ln) :: r) X)
  | _ => False
section LAWR
variable {own : String} {cc : ByteArray} {nL : Nat} {rt : Option FieldType} {rf rl mc ms : Nat} {ini : Bool} {Ret : an_R} {pc nx Ln : Nat} {xs : Nat → Int32}
theorem nk_sld (hd : decode cc pc = .ok (.iaload, 1)) (hn : pc + 1 = nx) : an_ok own cc nL rt rf rl mc ms ini (lawP Ln xs) Ret pc (an_sld Ln xs nx) := by
  subst hn
  intro p l e R Q s m args below meth c D cA al0 B live0 hC hR hQ hni hPp L st X K hK h al hal hI hcc hcn H locs ls hP hS hl
  unfold an_sld at h
  split at h
  · next j n r =>
    obtain ⟨hbb, hj, h2⟩ := am_if_mp h
    clear h
    have hn := Nat.eq_of_beq_eq_true hbb
    subst hn
    obtain ⟨hX, hb1, hb2⟩ := hPp
    have e : al 2000 = al0 2000 := hal 2000 (Or.inr (by decide))
    rw [← e] at hX hb1 hb2
    exact va_sld hC.1 hC.2.1 hX hb1 hb2 hS (am_in_vp hj) hd (hK _ _ _ _ h2 al hal hI hcc hcn H locs ls hP hS hl)
  · exact h.elim
theorem nk_slen (hd : decode cc pc = .ok (.arraylength, 1)) (hn : pc + 1 = nx) : an_ok own cc nL rt rf rl mc ms ini (lawP Ln xs) Ret pc (an_slen Ln nx) := by
  subst hn
  intro p l e R Q s m args below meth c D cA al0 B live0 hC hR hQ hni hPp L st X K hK h al hal hI hcc hcn H locs ls hP hS hl
  unfold an_slen at h
  split at h
  · next n r =>
    obtain ⟨hbb, h2⟩ := am_if_mp h
    clear h
    have hn := Nat.eq_of_beq_eq_true hbb
    subst hn
    obtain ⟨hX, hb1, hb2⟩ := hPp
    have e : al 2000 = al0 2000 := hal 2000 (Or.inr (by decide))
    rw [← e] at hX hb1 hb2
    exact va_slen hC.1 hC.2.1 hX hb1 hb2 hS hd (hK _ _ _ _ h2 al hal hI hcc hcn H locs ls hP hS hl)
  · exact h.elim
end LAWR
def an_M0 : am_M := (fun _ _ => 0, fun _ _ => 0)
def an_Mf : am_M := mX8 (an_bM (mX7 (an_bM an_M0 0)) 200)
theorem an_Mf7 : am_F7 an_Mf := ⟨by decide +kernel, by decide +kernel, by decide +kernel, by decide +kernel, by decide +kernel, by decide +kernel, by decide +kernel, by decide +kernel, by decide +kernel, by decide +kernel, by decide +kernel, by decide +kernel, by decide +kernel⟩
theorem an_Mf8 : am_F8 an_Mf := ⟨by decide +kernel, by decide +kernel, by decide +kernel, by decide +kernel, by decide +kernel⟩
theorem am_F8.hi {M M' : am_M} (h : am_F8 M) (hc : ∀ a k, 200 ≤ a → M'.1 a k = M.1 a k) : am_F8 M' :=
  ⟨fun k hk => (hc 201 k (by decide)).trans (h.1 k hk), fun k hk => (hc 201 _ (by decide)).trans (h.2.1 k hk), fun k hk => (hc 201 _ (by decide)).trans (h.2.2.1 k hk), fun k hk => (hc 201 _ (by decide)).trans (h.2.2.2.1 k hk), fun k hk => (hc 203 k (by decide)).trans (h.2.2.2.2 k hk)⟩
theorem am_F8.lo {M M' : am_M} (h : am_F8 M) (hc : am_ch am_lo M M') : am_F8 M' := h.hi (fun a k z => hc.1 a k (fun q => by have q : a < 200 := q; omega))
abbrev lawL : am_L := [(0, .ref 2000), (1, .ref 0), (2, .ref 200), (3, .int 0)]
abbrev lawX : am_X := ((am_lv false false, am_q false false), 66, 18779, an_Mf)
def lawC : an_cut := fun pc => match pc with
  | 1849 => some (fun L st _ => L = lawL ∧ st = [])
  | _ => none
theorem dL_law_196 : decode cL_law 196 = .ok (.aload_n 1, 1) := by decide +kernel
theorem dL_law_197 : decode cL_law 197 = .ok (.aload_n 0, 1) := by decide +kernel
theorem dL_law_198 : decode cL_law 198 = .ok (.iload_n 3, 1) := by decide +kernel
theorem dL_law_199 : decode cL_law 199 = .ok (.iconst 1, 1) := by decide +kernel
theorem dL_law_200 : decode cL_law 200 = .ok (.iadd, 1) := by decide +kernel
theorem dL_law_201 : decode cL_law 201 = .ok (.iaload, 1) := by decide +kernel
theorem wd_403 : Cond.methodLink "LearnLoansLaw" 13 yX7_person ∈ am_ws := am_wsi (List.mem_of_getElem? (i := 403) (by decide +kernel)) (by decide +kernel)
theorem wd_404 : Cond.instanceMethod yX7_person ∈ am_ws := am_wsi (List.mem_of_getElem? (i := 404) (by decide +kernel)) (by decide +kernel)
theorem wd_405 : Cond.selects "LearnLoans" yX7_person yX7_person ∈ am_ws := am_wsi (List.mem_of_getElem? (i := 405) (by decide +kernel)) (by decide +kernel)
theorem wd_406 : Cond.code yX7_person cX7_person 3 (some .int) ∈ am_ws := am_wsi (List.mem_of_getElem? (i := 406) (by decide +kernel)) (by decide +kernel)
theorem dL_law_202 : decode cL_law 202 = .ok (.invokevirtual 13, 3) := by decide +kernel
theorem dL_law_205 : decode cL_law 205 = .ok (.aload_n 2, 1) := by decide +kernel
theorem dL_law_206 : decode cL_law 206 = .ok (.aload_n 0, 1) := by decide +kernel
theorem dL_law_207 : decode cL_law 207 = .ok (.iload_n 3, 1) := by decide +kernel
theorem dL_law_208 : decode cL_law 208 = .ok (.iconst 1, 1) := by decide +kernel
theorem dL_law_209 : decode cL_law 209 = .ok (.iadd, 1) := by decide +kernel
theorem dL_law_210 : decode cL_law 210 = .ok (.iaload, 1) := by decide +kernel
theorem wd_978 : Cond.methodLink "LearnLoansLaw" 17 yX8_person ∈ am_ws := am_wsi (List.mem_of_getElem? (i := 978) (by decide +kernel)) (by decide +kernel)
theorem wd_979 : Cond.instanceMethod yX8_person ∈ am_ws := am_wsi (List.mem_of_getElem? (i := 979) (by decide +kernel)) (by decide +kernel)
theorem wd_980 : Cond.selects "LearnLoansModel" yX8_person yX8_person ∈ am_ws := am_wsi (List.mem_of_getElem? (i := 980) (by decide +kernel)) (by decide +kernel)
theorem wd_981 : Cond.code yX8_person cX8_person 2 (some .int) ∈ am_ws := am_wsi (List.mem_of_getElem? (i := 981) (by decide +kernel)) (by decide +kernel)
theorem dL_law_211 : decode cL_law 211 = .ok (.invokevirtual 17, 3) := by decide +kernel
theorem dL_law_214 : decode cL_law 214 = .ok (.if_icmp .eq 1635, 3) := by decide +kernel
def kL_c0 (Ln : Nat) (xs : Nat → Int32) : an_code := [(196, an_lf (fun live => am_aload 1 197)), (197, an_lf (fun live => am_aload 0 198)), (198, an_lf (fun live => am_iload 3 199)), (199, an_lf (fun live => am_const (.int 1) 200)), (200, an_lf (fun live => am_i2 (fun x y => x + y) 201)), (201, an_sld Ln xs 202), (202, an_lf (fun live => am_callV live 7 1 TX7_person 205)), (205, an_lf (fun live => am_aload 2 206)), (206, an_lf (fun live => am_aload 0 207)), (207, an_lf (fun live => am_iload 3 208)), (208, an_lf (fun live => am_const (.int 1) 209)), (209, an_lf (fun live => am_i2 (fun x y => x + y) 210)), (210, an_sld Ln xs 211), (211, an_lf (fun live => am_callV live 8 1 TX8_person 214)), (214, an_lf (fun live => am_if2 (fun x y => x = y) 1849 217))]
theorem koL_c0 (Ln : Nat) (xs : Nat → Int32) : ∀ q ∈ kL_c0 Ln xs, an_ok RL cL_law 4 (some .boolean) 2000 80000 600000 7302250 false (lawP Ln xs) an_noR q.1 q.2 :=
  an_kc (an_lift (fun live => ak_aload_n dL_law_196 rfl rfl)) <|
  an_kc (an_lift (fun live => ak_aload_n dL_law_197 rfl rfl)) <|
  an_kc (an_lift (fun live => ak_iload_n dL_law_198 rfl rfl)) <|
  an_kc (an_lift (fun live => ak_iconst dL_law_199 (by decide +kernel) rfl)) <|
  an_kc (an_lift (fun live => ak_iadd dL_law_200 rfl)) <|
  an_kc (nk_sld dL_law_201 rfl) <|
  an_kc (an_lift (fun live => ak_callV (C := RX7) (F := TX7) (N := 4) metX7_person rfl ⟨rfl, by decide +kernel, by decide +kernel, by decide +kernel⟩ (am_w5 wd_403 wd_404 wd_405 wd_58 wd_406) (by decide) dL_law_202 rfl)) <|
  an_kc (an_lift (fun live => ak_aload_n dL_law_205 rfl rfl)) <|
  an_kc (an_lift (fun live => ak_aload_n dL_law_206 rfl rfl)) <|
  an_kc (an_lift (fun live => ak_iload_n dL_law_207 rfl rfl)) <|
  an_kc (an_lift (fun live => ak_iconst dL_law_208 (by decide +kernel) rfl)) <|
  an_kc (an_lift (fun live => ak_iadd dL_law_209 rfl)) <|
  an_kc (nk_sld dL_law_210 rfl) <|
  an_kc (an_lift (fun live => ak_callV (C := RX8) (F := TX8) (N := 27) metX8_person rfl ⟨rfl, by decide +kernel, by decide +kernel, by decide +kernel⟩ (am_w5 wd_978 wd_979 wd_980 wd_67 wd_981) (by decide) dL_law_211 rfl)) <|
  an_kc (an_lift (fun live => ak_icmp_eq dL_law_214 (by decide +kernel) rfl)) <| an_kn
set_option maxRecDepth 100000 in
set_option maxHeartbeats 4000000 in
theorem caseL_c0 (xs : Nat → Int32) : an_wp (kL_c0 8 xs) lawC 200 (an_go (kL_c0 8 xs) 196) lawL [] lawX := by
    have f7 := an_Mf7
    have f8 := an_Mf8
    repeat' (first | (with_reducible exact f7) | (with_reducible exact f8) | apply And.intro | exact rfl | (intro hx; with_reducible exact absurd rfl hx) | (intro hx; with_reducible exact absurd ((lg_cmp_eq _ _).mpr rfl) hx) | (intro hx; exact absurd hx (by decide)) | (intro hx; exact absurd (by decide) hx) | decide | intro hx | (refine Exists.intro _ (And.intro rfl ?_)))
    all_goals try first | (with_reducible change am_tI _ _) | (change Ret _ _) | (change Ret _ _ _) | (change Exists _)
    all_goals try dsimp only at *
    all_goals try exact absurd ‹(1000 : Int64) = 0› (by decide)
    all_goals first
      | exact ⟨_, _, rfl⟩
      | exact f8.lo ‹am_ch am_lo _ _›
      | exact (f8.lo ‹am_ch am_lo _ _›).1 _ ‹_›
      | exact (f8.lo ‹am_ch am_lo _ _›).2.1 _ ‹_›
      | exact (f8.lo ‹am_ch am_lo _ _›).2.2.1 _ ‹_›
      | exact (f8.lo ‹am_ch am_lo _ _›).2.2.2.1 _ ‹_›
      | exact (f8.lo ‹am_ch am_lo _ _›).2.2.2.2 _ ‹_›
      | exact (f8.hi ‹∀ a k, 200 ≤ a → _›).1 _ ‹_›
      | exact (f8.hi ‹∀ a k, 200 ≤ a → _›).2.1 _ ‹_›
      | exact (f8.hi ‹∀ a k, 200 ≤ a → _›).2.2.1 _ ‹_›
      | exact (f8.hi ‹∀ a k, 200 ≤ a → _›).2.2.2.1 _ ‹_›
      | exact (f8.hi ‹∀ a k, 200 ≤ a → _›).2.2.2.2 _ ‹_›
      | decide
theorem dL_law_219 : decode cL_law 219 = .ok (.aload_n 1, 1) := by decide +kernel
theorem dL_law_220 : decode cL_law 220 = .ok (.aload_n 0, 1) := by decide +kernel
theorem dL_law_221 : decode cL_law 221 = .ok (.iload_n 3, 1) := by decide +kernel
theorem dL_law_222 : decode cL_law 222 = .ok (.iconst 1, 1) := by decide +kernel
theorem dL_law_223 : decode cL_law 223 = .ok (.iadd, 1) := by decide +kernel
theorem dL_law_224 : decode cL_law 224 = .ok (.iaload, 1) := by decide +kernel
theorem dL_law_225 : decode cL_law 225 = .ok (.aload_n 0, 1) := by decide +kernel
theorem dL_law_226 : decode cL_law 226 = .ok (.iload_n 3, 1) := by decide +kernel
theorem dL_law_227 : decode cL_law 227 = .ok (.iconst 2, 1) := by decide +kernel
theorem dL_law_228 : decode cL_law 228 = .ok (.iadd, 1) := by decide +kernel
theorem dL_law_229 : decode cL_law 229 = .ok (.iaload, 1) := by decide +kernel
theorem dL_law_230 : decode cL_law 230 = .ok (.aload_n 0, 1) := by decide +kernel
theorem dL_law_231 : decode cL_law 231 = .ok (.iload_n 3, 1) := by decide +kernel
theorem dL_law_232 : decode cL_law 232 = .ok (.iconst 3, 1) := by decide +kernel
theorem dL_law_233 : decode cL_law 233 = .ok (.iadd, 1) := by decide +kernel
theorem dL_law_234 : decode cL_law 234 = .ok (.iaload, 1) := by decide +kernel
theorem dL_law_235 : decode cL_law 235 = .ok (.aload_n 0, 1) := by decide +kernel
theorem dL_law_236 : decode cL_law 236 = .ok (.iload_n 3, 1) := by decide +kernel
theorem dL_law_237 : decode cL_law 237 = .ok (.iconst 4, 1) := by decide +kernel
theorem dL_law_238 : decode cL_law 238 = .ok (.iadd, 1) := by decide +kernel
theorem dL_law_239 : decode cL_law 239 = .ok (.iaload, 1) := by decide +kernel
theorem wd_410 : Cond.methodLink "LearnLoansLaw" 18 yX7_land ∈ am_ws := am_wsi (List.mem_of_getElem? (i := 410) (by decide +kernel)) (by decide +kernel)
theorem wd_411 : Cond.instanceMethod yX7_land ∈ am_ws := am_wsi (List.mem_of_getElem? (i := 411) (by decide +kernel)) (by decide +kernel)
theorem wd_412 : Cond.selects "LearnLoans" yX7_land yX7_land ∈ am_ws := am_wsi (List.mem_of_getElem? (i := 412) (by decide +kernel)) (by decide +kernel)
theorem wd_413 : Cond.code yX7_land cX7_land 5 (some .int) ∈ am_ws := am_wsi (List.mem_of_getElem? (i := 413) (by decide +kernel)) (by decide +kernel)
theorem dL_law_240 : decode cL_law 240 = .ok (.invokevirtual 18, 3) := by decide +kernel
theorem dL_law_243 : decode cL_law 243 = .ok (.aload_n 2, 1) := by decide +kernel
theorem dL_law_244 : decode cL_law 244 = .ok (.aload_n 0, 1) := by decide +kernel
theorem dL_law_245 : decode cL_law 245 = .ok (.iload_n 3, 1) := by decide +kernel
theorem dL_law_246 : decode cL_law 246 = .ok (.iconst 1, 1) := by decide +kernel
theorem dL_law_247 : decode cL_law 247 = .ok (.iadd, 1) := by decide +kernel
theorem dL_law_248 : decode cL_law 248 = .ok (.iaload, 1) := by decide +kernel
theorem dL_law_249 : decode cL_law 249 = .ok (.aload_n 0, 1) := by decide +kernel
theorem dL_law_250 : decode cL_law 250 = .ok (.iload_n 3, 1) := by decide +kernel
theorem dL_law_251 : decode cL_law 251 = .ok (.iconst 2, 1) := by decide +kernel
theorem dL_law_252 : decode cL_law 252 = .ok (.iadd, 1) := by decide +kernel
theorem dL_law_253 : decode cL_law 253 = .ok (.iaload, 1) := by decide +kernel
theorem dL_law_254 : decode cL_law 254 = .ok (.aload_n 0, 1) := by decide +kernel
theorem dL_law_255 : decode cL_law 255 = .ok (.iload_n 3, 1) := by decide +kernel
theorem dL_law_256 : decode cL_law 256 = .ok (.iconst 3, 1) := by decide +kernel
theorem dL_law_257 : decode cL_law 257 = .ok (.iadd, 1) := by decide +kernel
theorem dL_law_258 : decode cL_law 258 = .ok (.iaload, 1) := by decide +kernel
theorem dL_law_259 : decode cL_law 259 = .ok (.aload_n 0, 1) := by decide +kernel
theorem dL_law_260 : decode cL_law 260 = .ok (.iload_n 3, 1) := by decide +kernel
theorem dL_law_261 : decode cL_law 261 = .ok (.iconst 4, 1) := by decide +kernel
theorem dL_law_262 : decode cL_law 262 = .ok (.iadd, 1) := by decide +kernel
theorem dL_law_263 : decode cL_law 263 = .ok (.iaload, 1) := by decide +kernel
theorem wd_989 : Cond.methodLink "LearnLoansLaw" 22 yX8_land ∈ am_ws := am_wsi (List.mem_of_getElem? (i := 989) (by decide +kernel)) (by decide +kernel)
theorem wd_990 : Cond.instanceMethod yX8_land ∈ am_ws := am_wsi (List.mem_of_getElem? (i := 990) (by decide +kernel)) (by decide +kernel)
theorem wd_991 : Cond.selects "LearnLoansModel" yX8_land yX8_land ∈ am_ws := am_wsi (List.mem_of_getElem? (i := 991) (by decide +kernel)) (by decide +kernel)
theorem wd_992 : Cond.code yX8_land cX8_land 6 (some .int) ∈ am_ws := am_wsi (List.mem_of_getElem? (i := 992) (by decide +kernel)) (by decide +kernel)
theorem dL_law_264 : decode cL_law 264 = .ok (.invokevirtual 22, 3) := by decide +kernel
theorem dL_law_267 : decode cL_law 267 = .ok (.if_icmp .eq 1582, 3) := by decide +kernel
def kL_c1 (Ln : Nat) (xs : Nat → Int32) : an_code := [(219, an_lf (fun live => am_aload 1 220)), (220, an_lf (fun live => am_aload 0 221)), (221, an_lf (fun live => am_iload 3 222)), (222, an_lf (fun live => am_const (.int 1) 223)), (223, an_lf (fun live => am_i2 (fun x y => x + y) 224)), (224, an_sld Ln xs 225), (225, an_lf (fun live => am_aload 0 226)), (226, an_lf (fun live => am_iload 3 227)), (227, an_lf (fun live => am_const (.int 2) 228)), (228, an_lf (fun live => am_i2 (fun x y => x + y) 229)), (229, an_sld Ln xs 230), (230, an_lf (fun live => am_aload 0 231)), (231, an_lf (fun live => am_iload 3 232)), (232, an_lf (fun live => am_const (.int 3) 233)), (233, an_lf (fun live => am_i2 (fun x y => x + y) 234)), (234, an_sld Ln xs 235), (235, an_lf (fun live => am_aload 0 236)), (236, an_lf (fun live => am_iload 3 237)), (237, an_lf (fun live => am_const (.int 4) 238)), (238, an_lf (fun live => am_i2 (fun x y => x + y) 239)), (239, an_sld Ln xs 240), (240, an_lf (fun live => am_callV live 7 4 TX7_land 243)), (243, an_lf (fun live => am_aload 2 244)), (244, an_lf (fun live => am_aload 0 245)), (245, an_lf (fun live => am_iload 3 246)), (246, an_lf (fun live => am_const (.int 1) 247)), (247, an_lf (fun live => am_i2 (fun x y => x + y) 248)), (248, an_sld Ln xs 249), (249, an_lf (fun live => am_aload 0 250)), (250, an_lf (fun live => am_iload 3 251)), (251, an_lf (fun live => am_const (.int 2) 252)), (252, an_lf (fun live => am_i2 (fun x y => x + y) 253)), (253, an_sld Ln xs 254), (254, an_lf (fun live => am_aload 0 255)), (255, an_lf (fun live => am_iload 3 256)), (256, an_lf (fun live => am_const (.int 3) 257)), (257, an_lf (fun live => am_i2 (fun x y => x + y) 258)), (258, an_sld Ln xs 259), (259, an_lf (fun live => am_aload 0 260)), (260, an_lf (fun live => am_iload 3 261)), (261, an_lf (fun live => am_const (.int 4) 262)), (262, an_lf (fun live => am_i2 (fun x y => x + y) 263)), (263, an_sld Ln xs 264), (264, an_lf (fun live => am_callV live 8 4 TX8_land 267)), (267, an_lf (fun live => am_if2 (fun x y => x = y) 1849 270))]
theorem koL_c1 (Ln : Nat) (xs : Nat → Int32) : ∀ q ∈ kL_c1 Ln xs, an_ok RL cL_law 4 (some .boolean) 2000 80000 600000 7302250 false (lawP Ln xs) an_noR q.1 q.2 :=
  an_kc (an_lift (fun live => ak_aload_n dL_law_219 rfl rfl)) <|
  an_kc (an_lift (fun live => ak_aload_n dL_law_220 rfl rfl)) <|
  an_kc (an_lift (fun live => ak_iload_n dL_law_221 rfl rfl)) <|
  an_kc (an_lift (fun live => ak_iconst dL_law_222 (by decide +kernel) rfl)) <|
  an_kc (an_lift (fun live => ak_iadd dL_law_223 rfl)) <|
  an_kc (nk_sld dL_law_224 rfl) <|
  an_kc (an_lift (fun live => ak_aload_n dL_law_225 rfl rfl)) <|
  an_kc (an_lift (fun live => ak_iload_n dL_law_226 rfl rfl)) <|
  an_kc (an_lift (fun live => ak_iconst dL_law_227 (by decide +kernel) rfl)) <|
  an_kc (an_lift (fun live => ak_iadd dL_law_228 rfl)) <|
  an_kc (nk_sld dL_law_229 rfl) <|
  an_kc (an_lift (fun live => ak_aload_n dL_law_230 rfl rfl)) <|
  an_kc (an_lift (fun live => ak_iload_n dL_law_231 rfl rfl)) <|
  an_kc (an_lift (fun live => ak_iconst dL_law_232 (by decide +kernel) rfl)) <|
  an_kc (an_lift (fun live => ak_iadd dL_law_233 rfl)) <|
  an_kc (nk_sld dL_law_234 rfl) <|
  an_kc (an_lift (fun live => ak_aload_n dL_law_235 rfl rfl)) <|
  an_kc (an_lift (fun live => ak_iload_n dL_law_236 rfl rfl)) <|
  an_kc (an_lift (fun live => ak_iconst dL_law_237 (by decide +kernel) rfl)) <|
  an_kc (an_lift (fun live => ak_iadd dL_law_238 rfl)) <|
  an_kc (nk_sld dL_law_239 rfl) <|
  an_kc (an_lift (fun live => ak_callV (C := RX7) (F := TX7) (N := 4) metX7_land rfl ⟨rfl, by decide +kernel, by decide +kernel, by decide +kernel⟩ (am_w5 wd_410 wd_411 wd_412 wd_58 wd_413) (by decide) dL_law_240 rfl)) <|
  an_kc (an_lift (fun live => ak_aload_n dL_law_243 rfl rfl)) <|
  an_kc (an_lift (fun live => ak_aload_n dL_law_244 rfl rfl)) <|
  an_kc (an_lift (fun live => ak_iload_n dL_law_245 rfl rfl)) <|
  an_kc (an_lift (fun live => ak_iconst dL_law_246 (by decide +kernel) rfl)) <|
  an_kc (an_lift (fun live => ak_iadd dL_law_247 rfl)) <|
  an_kc (nk_sld dL_law_248 rfl) <|
  an_kc (an_lift (fun live => ak_aload_n dL_law_249 rfl rfl)) <|
  an_kc (an_lift (fun live => ak_iload_n dL_law_250 rfl rfl)) <|
  an_kc (an_lift (fun live => ak_iconst dL_law_251 (by decide +kernel) rfl)) <|
  an_kc (an_lift (fun live => ak_iadd dL_law_252 rfl)) <|
  an_kc (nk_sld dL_law_253 rfl) <|
  an_kc (an_lift (fun live => ak_aload_n dL_law_254 rfl rfl)) <|
  an_kc (an_lift (fun live => ak_iload_n dL_law_255 rfl rfl)) <|
  an_kc (an_lift (fun live => ak_iconst dL_law_256 (by decide +kernel) rfl)) <|
  an_kc (an_lift (fun live => ak_iadd dL_law_257 rfl)) <|
  an_kc (nk_sld dL_law_258 rfl) <|
  an_kc (an_lift (fun live => ak_aload_n dL_law_259 rfl rfl)) <|
  an_kc (an_lift (fun live => ak_iload_n dL_law_260 rfl rfl)) <|
  an_kc (an_lift (fun live => ak_iconst dL_law_261 (by decide +kernel) rfl)) <|
  an_kc (an_lift (fun live => ak_iadd dL_law_262 rfl)) <|
  an_kc (nk_sld dL_law_263 rfl) <|
  an_kc (an_lift (fun live => ak_callV (C := RX8) (F := TX8) (N := 27) metX8_land rfl ⟨rfl, by decide +kernel, by decide +kernel, by decide +kernel⟩ (am_w5 wd_989 wd_990 wd_991 wd_67 wd_992) (by decide) dL_law_264 rfl)) <|
  an_kc (an_lift (fun live => ak_icmp_eq dL_law_267 (by decide +kernel) rfl)) <| an_kn
set_option maxRecDepth 100000 in
set_option maxHeartbeats 4000000 in
theorem caseL_c1 (xs : Nat → Int32) : an_wp (kL_c1 8 xs) lawC 200 (an_go (kL_c1 8 xs) 219) lawL [] lawX := by
    have f7 := an_Mf7
    have f8 := an_Mf8
    repeat' (first | (with_reducible exact f7) | (with_reducible exact f8) | apply And.intro | exact rfl | (intro hx; with_reducible exact absurd rfl hx) | (intro hx; with_reducible exact absurd ((lg_cmp_eq _ _).mpr rfl) hx) | (intro hx; exact absurd hx (by decide)) | (intro hx; exact absurd (by decide) hx) | decide | intro hx | (refine Exists.intro _ (And.intro rfl ?_)))
    all_goals try first | (with_reducible change am_tI _ _) | (change Ret _ _) | (change Ret _ _ _) | (change Exists _)
    all_goals try dsimp only at *
    all_goals try exact absurd ‹(1000 : Int64) = 0› (by decide)
    all_goals first
      | exact ⟨_, _, rfl⟩
      | exact f8.lo ‹am_ch am_lo _ _›
      | exact (f8.lo ‹am_ch am_lo _ _›).1 _ ‹_›
      | exact (f8.lo ‹am_ch am_lo _ _›).2.1 _ ‹_›
      | exact (f8.lo ‹am_ch am_lo _ _›).2.2.1 _ ‹_›
      | exact (f8.lo ‹am_ch am_lo _ _›).2.2.2.1 _ ‹_›
      | exact (f8.lo ‹am_ch am_lo _ _›).2.2.2.2 _ ‹_›
      | exact (f8.hi ‹∀ a k, 200 ≤ a → _›).1 _ ‹_›
      | exact (f8.hi ‹∀ a k, 200 ≤ a → _›).2.1 _ ‹_›
      | exact (f8.hi ‹∀ a k, 200 ≤ a → _›).2.2.1 _ ‹_›
      | exact (f8.hi ‹∀ a k, 200 ≤ a → _›).2.2.2.1 _ ‹_›
      | exact (f8.hi ‹∀ a k, 200 ≤ a → _›).2.2.2.2 _ ‹_›
      | decide
theorem dL_law_272 : decode cL_law 272 = .ok (.aload_n 1, 1) := by decide +kernel
theorem dL_law_273 : decode cL_law 273 = .ok (.aload_n 0, 1) := by decide +kernel
theorem dL_law_274 : decode cL_law 274 = .ok (.iload_n 3, 1) := by decide +kernel
theorem dL_law_275 : decode cL_law 275 = .ok (.iconst 1, 1) := by decide +kernel
theorem dL_law_276 : decode cL_law 276 = .ok (.iadd, 1) := by decide +kernel
theorem dL_law_277 : decode cL_law 277 = .ok (.iaload, 1) := by decide +kernel
theorem dL_law_278 : decode cL_law 278 = .ok (.aload_n 0, 1) := by decide +kernel
theorem dL_law_279 : decode cL_law 279 = .ok (.iload_n 3, 1) := by decide +kernel
theorem dL_law_280 : decode cL_law 280 = .ok (.iconst 2, 1) := by decide +kernel
theorem dL_law_281 : decode cL_law 281 = .ok (.iadd, 1) := by decide +kernel
theorem dL_law_282 : decode cL_law 282 = .ok (.iaload, 1) := by decide +kernel
theorem wd_430 : Cond.methodLink "LearnLoansLaw" 23 yX7_scale ∈ am_ws := am_wsi (List.mem_of_getElem? (i := 430) (by decide +kernel)) (by decide +kernel)
theorem wd_431 : Cond.instanceMethod yX7_scale ∈ am_ws := am_wsi (List.mem_of_getElem? (i := 431) (by decide +kernel)) (by decide +kernel)
theorem wd_432 : Cond.selects "LearnLoans" yX7_scale yX7_scale ∈ am_ws := am_wsi (List.mem_of_getElem? (i := 432) (by decide +kernel)) (by decide +kernel)
theorem wd_433 : Cond.code yX7_scale cX7_scale 4 (some .int) ∈ am_ws := am_wsi (List.mem_of_getElem? (i := 433) (by decide +kernel)) (by decide +kernel)
theorem dL_law_283 : decode cL_law 283 = .ok (.invokevirtual 23, 3) := by decide +kernel
theorem dL_law_286 : decode cL_law 286 = .ok (.aload_n 2, 1) := by decide +kernel
theorem dL_law_287 : decode cL_law 287 = .ok (.aload_n 0, 1) := by decide +kernel
theorem dL_law_288 : decode cL_law 288 = .ok (.iload_n 3, 1) := by decide +kernel
theorem dL_law_289 : decode cL_law 289 = .ok (.iconst 1, 1) := by decide +kernel
theorem dL_law_290 : decode cL_law 290 = .ok (.iadd, 1) := by decide +kernel
theorem dL_law_291 : decode cL_law 291 = .ok (.iaload, 1) := by decide +kernel
theorem dL_law_292 : decode cL_law 292 = .ok (.aload_n 0, 1) := by decide +kernel
theorem dL_law_293 : decode cL_law 293 = .ok (.iload_n 3, 1) := by decide +kernel
theorem dL_law_294 : decode cL_law 294 = .ok (.iconst 2, 1) := by decide +kernel
theorem dL_law_295 : decode cL_law 295 = .ok (.iadd, 1) := by decide +kernel
theorem dL_law_296 : decode cL_law 296 = .ok (.iaload, 1) := by decide +kernel
theorem wd_998 : Cond.methodLink "LearnLoansLaw" 27 yX8_scale ∈ am_ws := am_wsi (List.mem_of_getElem? (i := 998) (by decide +kernel)) (by decide +kernel)
theorem wd_999 : Cond.instanceMethod yX8_scale ∈ am_ws := am_wsi (List.mem_of_getElem? (i := 999) (by decide +kernel)) (by decide +kernel)
theorem wd_1000 : Cond.selects "LearnLoansModel" yX8_scale yX8_scale ∈ am_ws := am_wsi (List.mem_of_getElem? (i := 1000) (by decide +kernel)) (by decide +kernel)
theorem wd_1001 : Cond.code yX8_scale cX8_scale 4 (some .int) ∈ am_ws := am_wsi (List.mem_of_getElem? (i := 1001) (by decide +kernel)) (by decide +kernel)
theorem dL_law_297 : decode cL_law 297 = .ok (.invokevirtual 27, 3) := by decide +kernel
theorem dL_law_300 : decode cL_law 300 = .ok (.if_icmp .eq 1549, 3) := by decide +kernel
def kL_c2 (Ln : Nat) (xs : Nat → Int32) : an_code := [(272, an_lf (fun live => am_aload 1 273)), (273, an_lf (fun live => am_aload 0 274)), (274, an_lf (fun live => am_iload 3 275)), (275, an_lf (fun live => am_const (.int 1) 276)), (276, an_lf (fun live => am_i2 (fun x y => x + y) 277)), (277, an_sld Ln xs 278), (278, an_lf (fun live => am_aload 0 279)), (279, an_lf (fun live => am_iload 3 280)), (280, an_lf (fun live => am_const (.int 2) 281)), (281, an_lf (fun live => am_i2 (fun x y => x + y) 282)), (282, an_sld Ln xs 283), (283, an_lf (fun live => am_callV live 7 2 TX7_scale 286)), (286, an_lf (fun live => am_aload 2 287)), (287, an_lf (fun live => am_aload 0 288)), (288, an_lf (fun live => am_iload 3 289)), (289, an_lf (fun live => am_const (.int 1) 290)), (290, an_lf (fun live => am_i2 (fun x y => x + y) 291)), (291, an_sld Ln xs 292), (292, an_lf (fun live => am_aload 0 293)), (293, an_lf (fun live => am_iload 3 294)), (294, an_lf (fun live => am_const (.int 2) 295)), (295, an_lf (fun live => am_i2 (fun x y => x + y) 296)), (296, an_sld Ln xs 297), (297, an_lf (fun live => am_callV live 8 2 TX8_scale 300)), (300, an_lf (fun live => am_if2 (fun x y => x = y) 1849 303))]
theorem koL_c2 (Ln : Nat) (xs : Nat → Int32) : ∀ q ∈ kL_c2 Ln xs, an_ok RL cL_law 4 (some .boolean) 2000 80000 600000 7302250 false (lawP Ln xs) an_noR q.1 q.2 :=
  an_kc (an_lift (fun live => ak_aload_n dL_law_272 rfl rfl)) <|
  an_kc (an_lift (fun live => ak_aload_n dL_law_273 rfl rfl)) <|
  an_kc (an_lift (fun live => ak_iload_n dL_law_274 rfl rfl)) <|
  an_kc (an_lift (fun live => ak_iconst dL_law_275 (by decide +kernel) rfl)) <|
  an_kc (an_lift (fun live => ak_iadd dL_law_276 rfl)) <|
  an_kc (nk_sld dL_law_277 rfl) <|
  an_kc (an_lift (fun live => ak_aload_n dL_law_278 rfl rfl)) <|
  an_kc (an_lift (fun live => ak_iload_n dL_law_279 rfl rfl)) <|
  an_kc (an_lift (fun live => ak_iconst dL_law_280 (by decide +kernel) rfl)) <|
  an_kc (an_lift (fun live => ak_iadd dL_law_281 rfl)) <|
  an_kc (nk_sld dL_law_282 rfl) <|
  an_kc (an_lift (fun live => ak_callV (C := RX7) (F := TX7) (N := 4) metX7_scale rfl ⟨rfl, by decide +kernel, by decide +kernel, by decide +kernel⟩ (am_w5 wd_430 wd_431 wd_432 wd_58 wd_433) (by decide) dL_law_283 rfl)) <|
  an_kc (an_lift (fun live => ak_aload_n dL_law_286 rfl rfl)) <|
  an_kc (an_lift (fun live => ak_aload_n dL_law_287 rfl rfl)) <|
  an_kc (an_lift (fun live => ak_iload_n dL_law_288 rfl rfl)) <|
  an_kc (an_lift (fun live => ak_iconst dL_law_289 (by decide +kernel) rfl)) <|
  an_kc (an_lift (fun live => ak_iadd dL_law_290 rfl)) <|
  an_kc (nk_sld dL_law_291 rfl) <|
  an_kc (an_lift (fun live => ak_aload_n dL_law_292 rfl rfl)) <|
  an_kc (an_lift (fun live => ak_iload_n dL_law_293 rfl rfl)) <|
  an_kc (an_lift (fun live => ak_iconst dL_law_294 (by decide +kernel) rfl)) <|
  an_kc (an_lift (fun live => ak_iadd dL_law_295 rfl)) <|
  an_kc (nk_sld dL_law_296 rfl) <|
  an_kc (an_lift (fun live => ak_callV (C := RX8) (F := TX8) (N := 27) metX8_scale rfl ⟨rfl, by decide +kernel, by decide +kernel, by decide +kernel⟩ (am_w5 wd_998 wd_999 wd_1000 wd_67 wd_1001) (by decide) dL_law_297 rfl)) <|
  an_kc (an_lift (fun live => ak_icmp_eq dL_law_300 (by decide +kernel) rfl)) <| an_kn
set_option maxRecDepth 100000 in
set_option maxHeartbeats 4000000 in
theorem caseL_c2 (xs : Nat → Int32) : an_wp (kL_c2 8 xs) lawC 200 (an_go (kL_c2 8 xs) 272) lawL [] lawX := by
    have f7 := an_Mf7
    have f8 := an_Mf8
    repeat' (first | (with_reducible exact f7) | (with_reducible exact f8) | apply And.intro | exact rfl | (intro hx; with_reducible exact absurd rfl hx) | (intro hx; with_reducible exact absurd ((lg_cmp_eq _ _).mpr rfl) hx) | (intro hx; exact absurd hx (by decide)) | (intro hx; exact absurd (by decide) hx) | decide | intro hx | (refine Exists.intro _ (And.intro rfl ?_)))
    all_goals try first | (with_reducible change am_tI _ _) | (change Ret _ _) | (change Ret _ _ _) | (change Exists _)
    all_goals try dsimp only at *
    all_goals try exact absurd ‹(1000 : Int64) = 0› (by decide)
    all_goals first
      | exact ⟨_, _, rfl⟩
      | exact f8.lo ‹am_ch am_lo _ _›
      | exact (f8.lo ‹am_ch am_lo _ _›).1 _ ‹_›
      | exact (f8.lo ‹am_ch am_lo _ _›).2.1 _ ‹_›
      | exact (f8.lo ‹am_ch am_lo _ _›).2.2.1 _ ‹_›
      | exact (f8.lo ‹am_ch am_lo _ _›).2.2.2.1 _ ‹_›
      | exact (f8.lo ‹am_ch am_lo _ _›).2.2.2.2 _ ‹_›
      | exact (f8.hi ‹∀ a k, 200 ≤ a → _›).1 _ ‹_›
      | exact (f8.hi ‹∀ a k, 200 ≤ a → _›).2.1 _ ‹_›
      | exact (f8.hi ‹∀ a k, 200 ≤ a → _›).2.2.1 _ ‹_›
      | exact (f8.hi ‹∀ a k, 200 ≤ a → _›).2.2.2.1 _ ‹_›
      | exact (f8.hi ‹∀ a k, 200 ≤ a → _›).2.2.2.2 _ ‹_›
      | decide
