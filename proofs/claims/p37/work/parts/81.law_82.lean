-- part 81.law.lean.txt
section
/-! the law: what holds ahead of every call -/
def an_noR : an_R := fun _ _ _ => False
def lawP (Ln : Nat) (xs : Nat → Int32) : State → (Nat → Nat) → Nat → Prop := fun s al B => va_X (al 2000) Ln xs s s.heap ∧ al 2000 < s.heap.size ∧ ¬ B ≤ al 2000
def an_sld (Ln : Nat) (xs : Nat → Int32) (nx : Nat) : an_S := fun L st X K => match st with
  | .int j :: .ref n :: r => am_if (Nat.beq n 2000) (am_in j Ln ∧ K nx L (.int (xs j.toNatClampNeg) :: r) X)
  | _ => False
def an_slen (Ln nx : Nat) : an_S := fun L st X K => match st with
  | .ref n :: r => am_if (Nat.beq n 2000) (K nx L (.int (Int32.ofNat Ln) :: r) X)
  | _ => False
section LAWR
variable {own : String} {cc : ByteArray} {nL : Nat} {rt : Option FieldType} {rf rl mc ms : Nat} {ini : Bool} {Ret : an_R} {pc nx Ln : Nat} {xs : Nat → Int32}
theorem nk_sld (hd : decode cc pc = .ok (.iaload, 1)) (hn : pc + 1 = nx) : an_ok own cc nL rt rf rl mc ms ini (lawP Ln xs) Ret pc (an_sld Ln xs nx) := by
  subst hn
  intro p l e R Q s m args below meth c D cA al0 B live0 hC hR hQ hni hPp L st X K hK h al hal hI hcc hcn H locs ls hP hS hl
  unfold an_sld at h
  split at h
  · next j n r =>
    obtain ⟨hbb, hj, h2⟩ := am_if_mp h
    clear h
    have hn := Nat.eq_of_beq_eq_true hbb
    subst hn
    obtain ⟨hX, hb1, hb2⟩ := hPp
    have e : al 2000 = al0 2000 := hal 2000 (Or.inr (by decide))
    rw [← e] at hX hb1 hb2
    exact va_sld hC.1 hC.2.1 hX hb1 hb2 hS (am_in_vp hj) hd (hK _ _ _ _ h2 al hal hI hcc hcn H locs ls hP hS hl)
  · exact h.elim
theorem nk_slen (hd : decode cc pc = .ok (.arraylength, 1)) (hn : pc + 1 = nx) : an_ok own cc nL rt rf rl mc ms ini (lawP Ln xs) Ret pc (an_slen Ln nx) := by
  subst hn
  intro p l e R Q s m args below meth c D cA al0 B live0 hC hR hQ hni hPp L st X K hK h al hal hI hcc hcn H locs ls hP hS hl
  unfold an_slen at h
  split at h
  · next n r =>
    obtain ⟨hbb, h2⟩ := am_if_mp h
    clear h
    have hn := Nat.eq_of_beq_eq_true hbb
    subst hn
    obtain ⟨hX, hb1, hb2⟩ := hPp
    have e : al 2000 = al0 2000 := hal 2000 (Or.inr (by decide))
    rw [← e] at hX hb1 hb2
    exact va_slen hC.1 hC.2.1 hX hb1 hb2 hS hd (hK _ _ _ _ h2 al hal hI hcc hcn H locs ls hP hS hl)
  · exact h.elim
end LAWR
def an_M0 : am_M := (fun _ _ => 0, fun _ _ => 0)
def an_Mf : am_M := mX8 (an_bM (mX7 (an_bM an_M0 0)) 200)
theorem an_Mf_e (k : Nat) (h : ¬ (22 ≤ k ∧ k < 34)) (h2 : ¬ (514 ≤ k ∧ k < 518)) (h3 : k ≠ 3733 ∧ k ≠ 3738 ∧ k ≠ 3743) : an_Mf.1 201 k = if (1038 ≤ k ∧ k < 1518) ∨ (1998 ≤ k ∧ k < 2478) then -1 else 0 := by
  unfold an_Mf mX8
  rw [am_wI_1, if_neg (fun z => by omega), am_wI_1, if_neg (fun z => by omega), am_wI_1, if_neg (fun z => by omega), am_wI_1, if_neg (fun z => by omega), am_wI_1, if_neg (fun z => by omega)]
  show (if 201 = 201 ∧ ((1038 ≤ k ∧ k < 1518) ∨ (1998 ≤ k ∧ k < 2478)) then (-1 : Int32) else (mX8a _).1 201 k) = _
  by_cases c : (1038 ≤ k ∧ k < 1518) ∨ (1998 ≤ k ∧ k < 2478)
  · rw [if_pos ⟨rfl, c⟩, if_pos c]
  · rw [if_neg (fun z => c z.2), if_neg c]
    unfold mX8a
    clear c h3
    repeat (rw [am_wI_1, if_neg (fun z => by omega)])
    rfl
theorem an_Mf_v1 : ∀ k, k < 12 → an_Mf.1 201 (22 + k) = -1 := by decide +kernel
theorem an_Mf_v2 : ∀ k, k < 4 → an_Mf.1 201 (514 + k) = 1000 := by decide +kernel
theorem an_Mf_v3 : an_Mf.1 201 3733 = 10 ∧ an_Mf.1 201 3738 = 10 ∧ an_Mf.1 201 3743 = 10 := ⟨by decide +kernel, by decide +kernel, by decide +kernel⟩
theorem an_Mf_v (k : Nat) (hk : k < 3760) : an_Mf.1 201 k = if (22 ≤ k ∧ k < 34) ∨ (1038 ≤ k ∧ k < 1518) ∨ (1998 ≤ k ∧ k < 2478) then -1 else if 514 ≤ k ∧ k < 518 then 1000 else if k = 3733 ∨ k = 3738 ∨ k = 3743 then 10 else 0 := by
  by_cases a : 22 ≤ k ∧ k < 34
  · rw [if_pos (Or.inl a), show k = 22 + (k - 22) by omega]
    exact an_Mf_v1 _ (by omega)
  by_cases b : 514 ≤ k ∧ k < 518
  · rw [if_neg (by omega), if_pos b, show k = 514 + (k - 514) by omega]
    exact an_Mf_v2 _ (by omega)
  by_cases c : k = 3733 ∨ k = 3738 ∨ k = 3743
  · rw [if_neg (by omega), if_neg b, if_pos c]
    rcases c with rfl | rfl | rfl
    · exact an_Mf_v3.1
    · exact an_Mf_v3.2.1
    · exact an_Mf_v3.2.2
  · rw [if_neg b, if_neg c, an_Mf_e k a b (by omega)]
    by_cases d : (1038 ≤ k ∧ k < 1518) ∨ (1998 ≤ k ∧ k < 2478)
    · rw [if_pos d, if_pos (Or.inr d)]
    · rw [if_neg d, if_neg (by omega)]
theorem an_Mf_37 (k : Nat) : an_Mf.1 37 k = 0 := rfl
theorem an_Mf_t : t_ok (fun k => an_Mf.1 201 (0 + k)) := by
  have d1 : (-1 : Int32).toInt = -1 := rfl
  have d2 : (1000 : Int32).toInt = 1000 := rfl
  have d3 : (10 : Int32).toInt = 10 := rfl
  have d4 : (0 : Int32).toInt = 0 := rfl
  refine ⟨(), fun k hk => ?_⟩
  show t_v k (an_Mf.1 201 (0 + k)).toInt
  rw [Nat.zero_add, an_Mf_v k hk]
  by_cases c1 : (22 ≤ k ∧ k < 34) ∨ (1038 ≤ k ∧ k < 1518) ∨ (1998 ≤ k ∧ k < 2478)
  · rw [if_pos c1, d1]
    rcases c1 with c | c | c
    · exact t_v.m7 c (by decide)
    · exact t_v.m12 (Or.inl c) (by decide)
    · exact t_v.m12 (Or.inr c) (by decide)
  · rw [if_neg c1]
    by_cases c2 : 514 ≤ k ∧ k < 518
    · rw [if_pos c2, d2]
      exact t_v.m9 c2 (by decide)
    · rw [if_neg c2]
      by_cases c3 : k = 3733 ∨ k = 3738 ∨ k = 3743
      · rw [if_pos c3, d3]
        exact t_v.m34 (by omega) (by decide)
      · rw [if_neg c3, d4]
        clear c1 c3 d1 d2 d3 d4 hk
        (unfold t_v; refine ⟨?_, ?_, ?_, ?_, ?_, ?_, ?_, ?_, ?_, ?_, ?_, ?_, ?_, ?_, ?_, ?_, ?_, ?_, ?_, ?_, ?_, ?_, ?_, ?_, ?_, ?_, ?_, ?_, ?_, ?_, ?_, ?_, ?_, ?_, ?_, ?_⟩ <;> intro q <;> omega)
theorem an_Mf_r1 : ∀ q ∈ rl_c, ∀ k, k < q.2.2.2 → an_Mf.1 (20 + q.1) (q.2.1 + k) = an_Mf.1 201 (0 + (q.2.2.1 + k)) := by
  intro q hq
  simp only [rl_c, List.mem_cons, List.not_mem_nil, or_false] at hq
  rcases hq with rfl | rfl | rfl | rfl | rfl | rfl | rfl | rfl | rfl | rfl | rfl | rfl | rfl | rfl | rfl | rfl | rfl | rfl | rfl | rfl | rfl | rfl | rfl | rfl | rfl | rfl | rfl | rfl | rfl | rfl
  · decide +kernel
  · decide +kernel
  · decide +kernel
  · decide +kernel
  · decide +kernel
  · decide +kernel
  · decide +kernel
  · intro k (hk : k < 480)
    show an_Mf.1 24 (0 + k) = an_Mf.1 201 (0 + (34 + k))
    rw [an_Mf_v _ (by omega), if_neg (by omega), if_neg (by omega), if_neg (by omega)]
    rfl
  · decide +kernel
  · intro k (hk : k < 40)
    show an_Mf.1 30 (0 + k) = an_Mf.1 201 (0 + (518 + k))
    rw [an_Mf_v _ (by omega), if_neg (by omega), if_neg (by omega), if_neg (by omega)]
    rfl
  · intro k (hk : k < 480)
    show an_Mf.1 25 (0 + k) = an_Mf.1 201 (0 + (558 + k))
    rw [an_Mf_v _ (by omega), if_neg (by omega), if_neg (by omega), if_neg (by omega)]
    rfl
  · intro k (hk : k < 480)
    show an_Mf.1 26 (0 + k) = an_Mf.1 201 (0 + (1038 + k))
    rw [an_Mf_v _ (by omega), if_pos (by omega)]
    exact if_pos ⟨rfl, by omega, by omega⟩
  · intro k (hk : k < 480)
    show an_Mf.1 27 (0 + k) = an_Mf.1 201 (0 + (1518 + k))
    rw [an_Mf_v _ (by omega), if_neg (by omega), if_neg (by omega), if_neg (by omega)]
    rfl
  · intro k (hk : k < 480)
    show an_Mf.1 28 (0 + k) = an_Mf.1 201 (0 + (1998 + k))
    rw [an_Mf_v _ (by omega), if_pos (by omega)]
    exact if_pos ⟨rfl, by omega, by omega⟩
  · intro k (hk : k < 240)
    show an_Mf.1 34 (0 + k) = an_Mf.1 201 (0 + (2838 + k))
    rw [an_Mf_v _ (by omega), if_neg (by omega), if_neg (by omega), if_neg (by omega)]
    rfl
  · intro k (hk : k < 180)
    show an_Mf.1 36 (0 + k) = an_Mf.1 201 (0 + (3078 + k))
    rw [an_Mf_v _ (by omega), if_neg (by omega), if_neg (by omega), if_neg (by omega)]
    rfl
  · intro k (hk : k < 50)
    show an_Mf.1 40 (0 + k) = an_Mf.1 201 (0 + (3258 + k))
    rw [an_Mf_v _ (by omega), if_neg (by omega), if_neg (by omega), if_neg (by omega)]
    rfl
  · intro k (hk : k < 50)
    show an_Mf.1 43 (0 + k) = an_Mf.1 201 (0 + (3308 + k))
    rw [an_Mf_v _ (by omega), if_neg (by omega), if_neg (by omega), if_neg (by omega)]
    rfl
  · intro k (hk : k < 50)
    show an_Mf.1 46 (0 + k) = an_Mf.1 201 (0 + (3358 + k))
    rw [an_Mf_v _ (by omega), if_neg (by omega), if_neg (by omega), if_neg (by omega)]
    rfl
  · intro k (hk : k < 50)
    show an_Mf.1 49 (0 + k) = an_Mf.1 201 (0 + (3408 + k))
    rw [an_Mf_v _ (by omega), if_neg (by omega), if_neg (by omega), if_neg (by omega)]
    rfl
  · intro k (hk : k < 50)
    show an_Mf.1 52 (0 + k) = an_Mf.1 201 (0 + (3458 + k))
    rw [an_Mf_v _ (by omega), if_neg (by omega), if_neg (by omega), if_neg (by omega)]
    rfl
  · decide +kernel
  · decide +kernel
  · decide +kernel
  · decide +kernel
  · decide +kernel
  · intro k (hk : k < 60)
    show an_Mf.1 55 (0 + k) = an_Mf.1 201 (0 + (3513 + k))
    rw [an_Mf_v _ (by omega), if_neg (by omega), if_neg (by omega), if_neg (by omega)]
    rfl
  · intro k (hk : k < 160)
    show an_Mf.1 56 (0 + k) = an_Mf.1 201 (0 + (3573 + k))
    rw [an_Mf_v _ (by omega), if_neg (by omega), if_neg (by omega), if_neg (by omega)]
    rfl
  · decide +kernel
  · decide +kernel
theorem an_Mf_r : rl 20 201 0 an_Mf an_Mf := by
  have e : (an_Mf.1 (20 + 11) 2).toNatClampNeg = 0 := by decide +kernel
  refine ⟨(), an_Mf_r1, by decide +kernel, fun k hk => ?_⟩
  rw [e] at hk
  exact absurd hk (by omega)
theorem an_Mf_l : t_rel (an_Mf.1 (20 + 17)) (fun k => an_Mf.1 201 (0 + k)) := by
  have e1 : (an_Mf.1 201 (0 + 1)).toInt = 0 := by decide +kernel
  have e3 : (an_Mf.1 201 (0 + 3)).toInt = 0 := by decide +kernel
  refine ⟨(), fun l hl z => ?_, fun m hm z => ?_, by unfold am_isNum; decide +kernel, fun l hl z => ?_⟩
  · dsimp only at z
    rw [e1] at z
    exact absurd z (by omega)
  · dsimp only at z
    rw [e3] at z
    exact absurd z (by omega)
  · dsimp only at z
    rw [e1] at z
    exact absurd z (by omega)
theorem an_Mf_b : lb 20 201 0 an_Mf an_Mf := by
  have hp : ∀ k, k < 1200 → 0 ≤ (an_Mf.1 37 k).toInt ∧ (an_Mf.1 37 k).toInt < ((5 : Nat) : Int) := fun k _ => by rw [an_Mf_37]; decide
  have hc : ∀ t, t < 5 → 0 ≤ (an_Mf.1 (20 + (19 + 3 * t)) 2).toInt ∧ (an_Mf.1 (20 + (19 + 3 * t)) 2).toInt ≤ ((50 : Nat) : Int) := by decide +kernel
  exact ⟨(), an_Mf_r, an_Mf_t, an_Mf_l, fun k hk => hp k hk, fun t ht => ⟨(), hc t ht⟩⟩
theorem an_Mf_L : LI false false an_Mf := by
  have h7 : ∀ k, k < 30 → 0 ≤ (an_Mf.1 7 k).toInt ∧ (an_Mf.1 7 k).toInt < ((30 : Nat) : Int) := by decide +kernel
  have h8 : ∀ k, k < 30 → 0 ≤ (an_Mf.1 8 k).toInt ∧ (an_Mf.1 8 k).toInt < ((30 : Nat) : Int) := by decide +kernel
  have hs : g_sI an_Mf := ⟨(), ⟨(), by decide +kernel, by decide +kernel⟩, fun k hk => h7 k hk, fun k hk => h8 k hk, ⟨by decide +kernel, by decide +kernel⟩, by decide +kernel, Or.inr ⟨by decide +kernel, by decide +kernel⟩, Or.inr ⟨by decide +kernel, by decide +kernel⟩, ⟨by decide +kernel, by decide +kernel⟩, ⟨by decide +kernel, by decide +kernel⟩⟩
  have hr : r_N an_Mf := ⟨by decide +kernel, by decide +kernel⟩
  exact ⟨(), an_Mf_b, ⟨by decide +kernel, by decide +kernel, by decide +kernel, by decide +kernel⟩, ⟨hs, hr⟩, fun z => (by cases z), fun z => (by cases z), by decide +kernel, by decide +kernel⟩
abbrev lawL (i : Int32) : am_L := [(0, .ref 2000), (1, .ref 0), (2, .ref 200), (3, .int i)]
def lawI (Ln : Nat) (i : Int32) (kc kn : Nat) : Prop := ∃ _ : Unit, (0 ≤ i.toInt ∧ i.toInt + 8 ≤ (Ln : Int) ∧ Ln ≤ 4096) ∧ 8 * (kc : Int) ≤ 528 + 39 * i.toInt ∧ 8 * (kn : Int) ≤ 150232 + 5272 * i.toInt
/-- ahead of a call (or of the end) -/
def lawG (Ln : Nat) (i : Int32) (X : am_X) : Prop := ∃ i1 i2 kc kn M, X = ((am_lv i1 i2, am_q i1 i2), kc, kn, M) ∧ LI i1 i2 M ∧ (0 ≤ i.toInt ∧ i.toInt ≤ (Ln : Int) ∧ Ln ≤ 4096) ∧ 8 * (kc : Int) ≤ 528 + 39 * i.toInt ∧ 8 * (kn : Int) ≤ 150232 + 5272 * i.toInt
/-- behind it -/
def lawE (Ln : Nat) (i : Int32) (X : am_X) : Prop := ∃ _ : Unit, ∃ i1 i2 kc kn M, X = ((am_lv i1 i2, am_q i1 i2), kc, kn, M) ∧ LI i1 i2 M ∧ (0 ≤ i.toInt ∧ i.toInt + 8 ≤ (Ln : Int) ∧ Ln ≤ 4096) ∧ 8 * (kc : Int) ≤ 528 + 39 * i.toInt + 312 ∧ 8 * (kn : Int) ≤ 150232 + 5272 * i.toInt + 42176
theorem lawE.mk {Ln kc kn a b : Nat} {i : Int32} {i1 i2 : Bool} {M : am_M} (hi : lawI Ln i kc kn) (h : LI i1 i2 M) (ha : a ≤ kc + 39) (hb : b ≤ kn + 5272) : lawE Ln i ((am_lv i1 i2, am_q i1 i2), a, b, M) := by
  obtain ⟨-, h1, h2, h3⟩ := hi
  exact ⟨(), _, _, _, _, _, rfl, h, h1, by omega, by omega⟩
def lawC (Ln : Nat) (i : Int32) : an_cut := fun pc => match pc with
  | 1841 => some (fun L st X => L = lawL i ∧ st = [] ∧ lawE Ln i X)
  | _ => none
theorem lawI.f {Ln kc kn : Nat} {i : Int32} (h : lawI Ln i kc kn) : (am_in (i + 1) Ln ∧ am_in (i + 2) Ln ∧ am_in (i + 3) Ln ∧ am_in (i + 4) Ln ∧ am_in (i + 5) Ln ∧ am_in (i + 6) Ln ∧ am_in (i + 7) Ln) ∧ Nat.ble (kc + 39) 600000 = true ∧ Nat.ble (kn + 5272) 7302250 = true ∧ Nat.ble (kc + 0) 600000 = true ∧ Nat.ble (kn + 0) 7302250 = true := by
  obtain ⟨-, ⟨h1, h2, h4⟩, h3, h5⟩ := h
  have q : ∀ c : Int32, 1 ≤ c.toInt → c.toInt ≤ 7 → am_in (i + c) Ln := fun c c1 c2 => by
    have e := i_add (x := i) (y := c) (by omega) (by omega)
    exact ⟨by omega, by omega⟩
  exact ⟨⟨q 1 (by decide) (by decide), q 2 (by decide) (by decide), q 3 (by decide) (by decide), q 4 (by decide) (by decide), q 5 (by decide) (by decide), q 6 (by decide) (by decide), q 7 (by decide) (by decide)⟩, Nat.ble_eq.mpr (by omega), Nat.ble_eq.mpr (by omega), Nat.ble_eq.mpr (by omega), Nat.ble_eq.mpr (by omega)⟩
end
-- part 82.law.lean.txt
section
/-! the law: cases 0 to 3 -/
def rwL_c0 : List dz_r := [(196, .aload_n 1, 1), (197, .aload_n 0, 1), (198, .iload_n 3, 1), (199, .iconst 1, 1), (200, .iadd, 1), (201, .iaload, 1), (202, .invokevirtual 13, 3), (205, .pop, 1), (206, .aload_n 2, 1), (207, .aload_n 0, 1), (208, .iload_n 3, 1), (209, .iconst 1, 1), (210, .iadd, 1), (211, .iaload, 1), (212, .invokevirtual 17, 3), (215, .pop, 1), (216, .goto 1625, 3)]
theorem dzL_c0 : dz cL_law rwL_c0 := dz_all 196 (by decide +kernel)
theorem hy_X7_person : yX7_person.cls ≠ "java/lang/invoke/MethodHandle" ∧ yX7_person.cls ≠ "java/lang/invoke/VarHandle" ∧ (parseMethodDescriptor yX7_person.desc).map (fun d => d.parameters.length) = some 1 := ⟨by decide +kernel, by decide +kernel, by decide +kernel⟩
set_option maxRecDepth 100000 in
theorem wd_403 : Cond.methodLink "LearnLoansLaw" 13 yX7_person ∈ am_ws := am_wt2 (List.mem_of_getElem? (i := 106) (by rfl)) (by decide +kernel)
set_option maxRecDepth 100000 in
theorem wd_404 : Cond.instanceMethod yX7_person ∈ am_ws := am_wt2 (List.mem_of_getElem? (i := 107) (by rfl)) (by decide +kernel)
set_option maxRecDepth 100000 in
theorem wd_405 : Cond.selects "LearnLoans" yX7_person yX7_person ∈ am_ws := am_wt2 (List.mem_of_getElem? (i := 108) (by rfl)) (by decide +kernel)
set_option maxRecDepth 100000 in
theorem wd_406 : Cond.code yX7_person cX7_person 3 (some .int) ∈ am_ws := am_wt2 (List.mem_of_getElem? (i := 109) (by rfl)) (by decide +kernel)
theorem hy_X8_person : yX8_person.cls ≠ "java/lang/invoke/MethodHandle" ∧ yX8_person.cls ≠ "java/lang/invoke/VarHandle" ∧ (parseMethodDescriptor yX8_person.desc).map (fun d => d.parameters.length) = some 1 := ⟨by decide +kernel, by decide +kernel, by decide +kernel⟩
set_option maxRecDepth 100000 in
theorem wd_978 : Cond.methodLink "LearnLoansLaw" 17 yX8_person ∈ am_ws := am_wt4 (List.mem_of_getElem? (i := 201) (by rfl)) (by decide +kernel)
set_option maxRecDepth 100000 in
theorem wd_979 : Cond.instanceMethod yX8_person ∈ am_ws := am_wt4 (List.mem_of_getElem? (i := 202) (by rfl)) (by decide +kernel)
set_option maxRecDepth 100000 in
theorem wd_980 : Cond.selects "LearnLoansModel" yX8_person yX8_person ∈ am_ws := am_wt4 (List.mem_of_getElem? (i := 203) (by rfl)) (by decide +kernel)
set_option maxRecDepth 100000 in
theorem wd_981 : Cond.code yX8_person cX8_person 2 (some .int) ∈ am_ws := am_wt4 (List.mem_of_getElem? (i := 204) (by rfl)) (by decide +kernel)
def kL_c0 (Ln : Nat) (xs : Nat → Int32) : an_code := [(196, an_lf (fun live => am_aload 1 197)), (197, an_lf (fun live => am_aload 0 198)), (198, an_lf (fun live => am_iload 3 199)), (199, an_lf (fun live => am_const (.int 1) 200)), (200, an_lf (fun live => am_i2 (fun x y => x + y) 201)), (201, an_sld Ln xs 202), (202, an_lf (fun live => am_callV live 7 1 TW_person 205)), (205, an_lf (fun live => am_pop 206)), (206, an_lf (fun live => am_aload 2 207)), (207, an_lf (fun live => am_aload 0 208)), (208, an_lf (fun live => am_iload 3 209)), (209, an_lf (fun live => am_const (.int 1) 210)), (210, an_lf (fun live => am_i2 (fun x y => x + y) 211)), (211, an_sld Ln xs 212), (212, an_lf (fun live => am_callV live 8 1 TX8_person 215)), (215, an_lf (fun live => am_pop 216)), (216, an_lf (fun live => am_goto 1841))]
theorem koL_c0 (Ln : Nat) (xs : Nat → Int32) : ∀ q ∈ kL_c0 Ln xs, an_ok RL cL_law 4 (some .boolean) 2000 80000 600000 7302250 false (lawP Ln xs) an_noR q.1 q.2 :=
  am_kz dzL_c0 <|
  an_kd (fun d => an_lift (fun live => ak_aload_n d rfl rfl)) <|
  an_kd (fun d => an_lift (fun live => ak_aload_n d rfl rfl)) <|
  an_kd (fun d => an_lift (fun live => ak_iload_n d rfl rfl)) <|
  an_kd (fun d => an_lift (fun live => ak_iconst d (by decide +kernel) rfl)) <|
  an_kd (fun d => an_lift (fun live => ak_iadd d rfl)) <|
  an_kd (fun d => nk_sld d rfl) <|
  an_kd (fun d => an_lift (fun live => ak_callV (C := RX7) (F := TX7) (N := 4) metW_person rfl ⟨rfl, hy_X7_person⟩ (am_w5 wd_403 wd_404 wd_405 wd_58 wd_406) (by decide) d rfl)) <|
  an_kd (fun d => an_lift (fun live => ak_pop d rfl)) <|
  an_kd (fun d => an_lift (fun live => ak_aload_n d rfl rfl)) <|
  an_kd (fun d => an_lift (fun live => ak_aload_n d rfl rfl)) <|
  an_kd (fun d => an_lift (fun live => ak_iload_n d rfl rfl)) <|
  an_kd (fun d => an_lift (fun live => ak_iconst d (by decide +kernel) rfl)) <|
  an_kd (fun d => an_lift (fun live => ak_iadd d rfl)) <|
  an_kd (fun d => nk_sld d rfl) <|
  an_kd (fun d => an_lift (fun live => ak_callV (C := RX8) (F := TX8) (N := 27) metX8_person rfl ⟨rfl, hy_X8_person⟩ (am_w5 wd_978 wd_979 wd_980 wd_67 wd_981) (by decide) d rfl)) <|
  an_kd (fun d => an_lift (fun live => ak_pop d rfl)) <|
  an_kd (fun d => an_lift (fun live => ak_goto d (by decide +kernel))) <| an_kdn
set_option maxRecDepth 100000 in
set_option maxHeartbeats 4000000 in
theorem caseL_c0 {Ln : Nat} (xs : Nat → Int32) {i : Int32} {i1 i2 : Bool} {kc kn : Nat} {M : am_M} (h : LI i1 i2 M) (hi : lawI Ln i kc kn) : an_wp (kL_c0 Ln xs) (lawC Ln i) 200 (an_go (kL_c0 Ln xs) 196) (lawL i) [] ((am_lv i1 i2, am_q i1 i2), kc, kn, M) := by
    obtain ⟨⟨f1, f2, f3, f4, f5, f6, f7⟩, k1, k2, k3, k4⟩ := hi.f
    have hmn : am_mn (am_lv i1 i2, am_q i1 i2) := ⟨_, _, rfl⟩
    repeat' (first | (with_reducible exact f1) | (with_reducible exact f2) | (with_reducible exact f3) | (with_reducible exact f4) | (with_reducible exact f5) | (with_reducible exact f6) | (with_reducible exact f7) | (with_reducible exact hmn) | (with_reducible exact h) | (with_reducible exact k1) | (with_reducible exact k2) | (with_reducible exact k3) | (with_reducible exact k4) | apply And.intro | exact rfl | ((with_reducible change r_I _); (with_reducible assumption)) | (intro hx; exact absurd hx (by decide)) | (intro hx; exact absurd (by decide) hx) | decide | intro hx | (refine Exists.intro _ (And.intro rfl ?_)) | (refine Exists.intro _ (Exists.intro _ (And.intro rfl (And.intro rfl ?_)))) | ((with_reducible change LI _ _ _); (with_reducible assumption)) | ((with_reducible change _ = true); simp only [k1, k2, k3, k4, Bool.true_and]; rfl))
    all_goals try first | (with_reducible change am_tI _ _) | (change Ret _ _) | (change Ret _ _ _) | (change Exists _)
    all_goals try dsimp only at *
    all_goals try (with_reducible exact absurd ‹(1000 : Int64) = 0› am_z1000)
    all_goals first
      | exact ⟨_, _, rfl⟩
      | exact lawE.mk hi (by with_reducible assumption) (by omega) (by omega)
      | skip
def rwL_c1 : List dz_r := [(219, .aload_n 1, 1), (220, .aload_n 0, 1), (221, .iload_n 3, 1), (222, .iconst 1, 1), (223, .iadd, 1), (224, .iaload, 1), (225, .aload_n 0, 1), (226, .iload_n 3, 1), (227, .iconst 2, 1), (228, .iadd, 1), (229, .iaload, 1), (230, .aload_n 0, 1), (231, .iload_n 3, 1), (232, .iconst 3, 1), (233, .iadd, 1), (234, .iaload, 1), (235, .aload_n 0, 1), (236, .iload_n 3, 1), (237, .iconst 4, 1), (238, .iadd, 1), (239, .iaload, 1), (240, .invokevirtual 18, 3), (243, .pop, 1), (244, .aload_n 2, 1), (245, .aload_n 0, 1), (246, .iload_n 3, 1), (247, .iconst 1, 1), (248, .iadd, 1), (249, .iaload, 1), (250, .aload_n 0, 1), (251, .iload_n 3, 1), (252, .iconst 2, 1), (253, .iadd, 1), (254, .iaload, 1), (255, .aload_n 0, 1), (256, .iload_n 3, 1), (257, .iconst 3, 1), (258, .iadd, 1), (259, .iaload, 1), (260, .aload_n 0, 1), (261, .iload_n 3, 1), (262, .iconst 4, 1), (263, .iadd, 1), (264, .iaload, 1), (265, .invokevirtual 22, 3), (268, .pop, 1), (269, .goto 1572, 3)]
theorem dzL_c1 : dz cL_law rwL_c1 := dz_all 219 (by decide +kernel)
theorem hy_X7_land : yX7_land.cls ≠ "java/lang/invoke/MethodHandle" ∧ yX7_land.cls ≠ "java/lang/invoke/VarHandle" ∧ (parseMethodDescriptor yX7_land.desc).map (fun d => d.parameters.length) = some 4 := ⟨by decide +kernel, by decide +kernel, by decide +kernel⟩
set_option maxRecDepth 100000 in
theorem wd_410 : Cond.methodLink "LearnLoansLaw" 18 yX7_land ∈ am_ws := am_wt2 (List.mem_of_getElem? (i := 113) (by rfl)) (by decide +kernel)
set_option maxRecDepth 100000 in
theorem wd_411 : Cond.instanceMethod yX7_land ∈ am_ws := am_wt2 (List.mem_of_getElem? (i := 114) (by rfl)) (by decide +kernel)
set_option maxRecDepth 100000 in
theorem wd_412 : Cond.selects "LearnLoans" yX7_land yX7_land ∈ am_ws := am_wt2 (List.mem_of_getElem? (i := 115) (by rfl)) (by decide +kernel)
set_option maxRecDepth 100000 in
theorem wd_413 : Cond.code yX7_land cX7_land 5 (some .int) ∈ am_ws := am_wt2 (List.mem_of_getElem? (i := 116) (by rfl)) (by decide +kernel)
theorem hy_X8_land : yX8_land.cls ≠ "java/lang/invoke/MethodHandle" ∧ yX8_land.cls ≠ "java/lang/invoke/VarHandle" ∧ (parseMethodDescriptor yX8_land.desc).map (fun d => d.parameters.length) = some 4 := ⟨by decide +kernel, by decide +kernel, by decide +kernel⟩
set_option maxRecDepth 100000 in
theorem wd_989 : Cond.methodLink "LearnLoansLaw" 22 yX8_land ∈ am_ws := am_wt4 (List.mem_of_getElem? (i := 212) (by rfl)) (by decide +kernel)
set_option maxRecDepth 100000 in
theorem wd_990 : Cond.instanceMethod yX8_land ∈ am_ws := am_wt4 (List.mem_of_getElem? (i := 213) (by rfl)) (by decide +kernel)
set_option maxRecDepth 100000 in
theorem wd_991 : Cond.selects "LearnLoansModel" yX8_land yX8_land ∈ am_ws := am_wt4 (List.mem_of_getElem? (i := 214) (by rfl)) (by decide +kernel)
set_option maxRecDepth 100000 in
theorem wd_992 : Cond.code yX8_land cX8_land 6 (some .int) ∈ am_ws := am_wt4 (List.mem_of_getElem? (i := 215) (by rfl)) (by decide +kernel)
def kL_c1 (Ln : Nat) (xs : Nat → Int32) : an_code := [(219, an_lf (fun live => am_aload 1 220)), (220, an_lf (fun live => am_aload 0 221)), (221, an_lf (fun live => am_iload 3 222)), (222, an_lf (fun live => am_const (.int 1) 223)), (223, an_lf (fun live => am_i2 (fun x y => x + y) 224)), (224, an_sld Ln xs 225), (225, an_lf (fun live => am_aload 0 226)), (226, an_lf (fun live => am_iload 3 227)), (227, an_lf (fun live => am_const (.int 2) 228)), (228, an_lf (fun live => am_i2 (fun x y => x + y) 229)), (229, an_sld Ln xs 230), (230, an_lf (fun live => am_aload 0 231)), (231, an_lf (fun live => am_iload 3 232)), (232, an_lf (fun live => am_const (.int 3) 233)), (233, an_lf (fun live => am_i2 (fun x y => x + y) 234)), (234, an_sld Ln xs 235), (235, an_lf (fun live => am_aload 0 236)), (236, an_lf (fun live => am_iload 3 237)), (237, an_lf (fun live => am_const (.int 4) 238)), (238, an_lf (fun live => am_i2 (fun x y => x + y) 239)), (239, an_sld Ln xs 240), (240, an_lf (fun live => am_callV live 7 4 TW_land 243)), (243, an_lf (fun live => am_pop 244)), (244, an_lf (fun live => am_aload 2 245)), (245, an_lf (fun live => am_aload 0 246)), (246, an_lf (fun live => am_iload 3 247)), (247, an_lf (fun live => am_const (.int 1) 248)), (248, an_lf (fun live => am_i2 (fun x y => x + y) 249)), (249, an_sld Ln xs 250), (250, an_lf (fun live => am_aload 0 251)), (251, an_lf (fun live => am_iload 3 252)), (252, an_lf (fun live => am_const (.int 2) 253)), (253, an_lf (fun live => am_i2 (fun x y => x + y) 254)), (254, an_sld Ln xs 255), (255, an_lf (fun live => am_aload 0 256)), (256, an_lf (fun live => am_iload 3 257)), (257, an_lf (fun live => am_const (.int 3) 258)), (258, an_lf (fun live => am_i2 (fun x y => x + y) 259)), (259, an_sld Ln xs 260), (260, an_lf (fun live => am_aload 0 261)), (261, an_lf (fun live => am_iload 3 262)), (262, an_lf (fun live => am_const (.int 4) 263)), (263, an_lf (fun live => am_i2 (fun x y => x + y) 264)), (264, an_sld Ln xs 265), (265, an_lf (fun live => am_callV live 8 4 TX8_land 268)), (268, an_lf (fun live => am_pop 269)), (269, an_lf (fun live => am_goto 1841))]
theorem koL_c1 (Ln : Nat) (xs : Nat → Int32) : ∀ q ∈ kL_c1 Ln xs, an_ok RL cL_law 4 (some .boolean) 2000 80000 600000 7302250 false (lawP Ln xs) an_noR q.1 q.2 :=
  am_kz dzL_c1 <|
  an_kd (fun d => an_lift (fun live => ak_aload_n d rfl rfl)) <|
  an_kd (fun d => an_lift (fun live => ak_aload_n d rfl rfl)) <|
  an_kd (fun d => an_lift (fun live => ak_iload_n d rfl rfl)) <|
  an_kd (fun d => an_lift (fun live => ak_iconst d (by decide +kernel) rfl)) <|
  an_kd (fun d => an_lift (fun live => ak_iadd d rfl)) <|
  an_kd (fun d => nk_sld d rfl) <|
  an_kd (fun d => an_lift (fun live => ak_aload_n d rfl rfl)) <|
  an_kd (fun d => an_lift (fun live => ak_iload_n d rfl rfl)) <|
  an_kd (fun d => an_lift (fun live => ak_iconst d (by decide +kernel) rfl)) <|
  an_kd (fun d => an_lift (fun live => ak_iadd d rfl)) <|
  an_kd (fun d => nk_sld d rfl) <|
  an_kd (fun d => an_lift (fun live => ak_aload_n d rfl rfl)) <|
  an_kd (fun d => an_lift (fun live => ak_iload_n d rfl rfl)) <|
  an_kd (fun d => an_lift (fun live => ak_iconst d (by decide +kernel) rfl)) <|
  an_kd (fun d => an_lift (fun live => ak_iadd d rfl)) <|
  an_kd (fun d => nk_sld d rfl) <|
  an_kd (fun d => an_lift (fun live => ak_aload_n d rfl rfl)) <|
  an_kd (fun d => an_lift (fun live => ak_iload_n d rfl rfl)) <|
  an_kd (fun d => an_lift (fun live => ak_iconst d (by decide +kernel) rfl)) <|
  an_kd (fun d => an_lift (fun live => ak_iadd d rfl)) <|
  an_kd (fun d => nk_sld d rfl) <|
  an_kd (fun d => an_lift (fun live => ak_callV (C := RX7) (F := TX7) (N := 4) metW_land rfl ⟨rfl, hy_X7_land⟩ (am_w5 wd_410 wd_411 wd_412 wd_58 wd_413) (by decide) d rfl)) <|
  an_kd (fun d => an_lift (fun live => ak_pop d rfl)) <|
  an_kd (fun d => an_lift (fun live => ak_aload_n d rfl rfl)) <|
  an_kd (fun d => an_lift (fun live => ak_aload_n d rfl rfl)) <|
  an_kd (fun d => an_lift (fun live => ak_iload_n d rfl rfl)) <|
  an_kd (fun d => an_lift (fun live => ak_iconst d (by decide +kernel) rfl)) <|
  an_kd (fun d => an_lift (fun live => ak_iadd d rfl)) <|
  an_kd (fun d => nk_sld d rfl) <|
  an_kd (fun d => an_lift (fun live => ak_aload_n d rfl rfl)) <|
  an_kd (fun d => an_lift (fun live => ak_iload_n d rfl rfl)) <|
  an_kd (fun d => an_lift (fun live => ak_iconst d (by decide +kernel) rfl)) <|
  an_kd (fun d => an_lift (fun live => ak_iadd d rfl)) <|
  an_kd (fun d => nk_sld d rfl) <|
  an_kd (fun d => an_lift (fun live => ak_aload_n d rfl rfl)) <|
  an_kd (fun d => an_lift (fun live => ak_iload_n d rfl rfl)) <|
  an_kd (fun d => an_lift (fun live => ak_iconst d (by decide +kernel) rfl)) <|
  an_kd (fun d => an_lift (fun live => ak_iadd d rfl)) <|
  an_kd (fun d => nk_sld d rfl) <|
  an_kd (fun d => an_lift (fun live => ak_aload_n d rfl rfl)) <|
  an_kd (fun d => an_lift (fun live => ak_iload_n d rfl rfl)) <|
  an_kd (fun d => an_lift (fun live => ak_iconst d (by decide +kernel) rfl)) <|
  an_kd (fun d => an_lift (fun live => ak_iadd d rfl)) <|
  an_kd (fun d => nk_sld d rfl) <|
  an_kd (fun d => an_lift (fun live => ak_callV (C := RX8) (F := TX8) (N := 27) metX8_land rfl ⟨rfl, hy_X8_land⟩ (am_w5 wd_989 wd_990 wd_991 wd_67 wd_992) (by decide) d rfl)) <|
  an_kd (fun d => an_lift (fun live => ak_pop d rfl)) <|
  an_kd (fun d => an_lift (fun live => ak_goto d (by decide +kernel))) <| an_kdn
set_option maxRecDepth 100000 in
set_option maxHeartbeats 4000000 in
theorem caseL_c1 {Ln : Nat} (xs : Nat → Int32) {i : Int32} {i1 i2 : Bool} {kc kn : Nat} {M : am_M} (h : LI i1 i2 M) (hi : lawI Ln i kc kn) : an_wp (kL_c1 Ln xs) (lawC Ln i) 200 (an_go (kL_c1 Ln xs) 219) (lawL i) [] ((am_lv i1 i2, am_q i1 i2), kc, kn, M) := by
    obtain ⟨⟨f1, f2, f3, f4, f5, f6, f7⟩, k1, k2, k3, k4⟩ := hi.f
    have hmn : am_mn (am_lv i1 i2, am_q i1 i2) := ⟨_, _, rfl⟩
    repeat' (first | (with_reducible exact f1) | (with_reducible exact f2) | (with_reducible exact f3) | (with_reducible exact f4) | (with_reducible exact f5) | (with_reducible exact f6) | (with_reducible exact f7) | (with_reducible exact hmn) | (with_reducible exact h) | (with_reducible exact k1) | (with_reducible exact k2) | (with_reducible exact k3) | (with_reducible exact k4) | apply And.intro | exact rfl | ((with_reducible change r_I _); (with_reducible assumption)) | (intro hx; exact absurd hx (by decide)) | (intro hx; exact absurd (by decide) hx) | decide | intro hx | (refine Exists.intro _ (And.intro rfl ?_)) | (refine Exists.intro _ (Exists.intro _ (And.intro rfl (And.intro rfl ?_)))) | ((with_reducible change LI _ _ _); (with_reducible assumption)) | ((with_reducible change _ = true); simp only [k1, k2, k3, k4, Bool.true_and]; rfl))
    all_goals try first | (with_reducible change am_tI _ _) | (change Ret _ _) | (change Ret _ _ _) | (change Exists _)
    all_goals try dsimp only at *
    all_goals try (with_reducible exact absurd ‹(1000 : Int64) = 0› am_z1000)
    all_goals first
      | exact ⟨_, _, rfl⟩
      | exact lawE.mk hi (by with_reducible assumption) (by omega) (by omega)
      | skip
def rwL_c2 : List dz_r := [(272, .aload_n 1, 1), (273, .aload_n 0, 1), (274, .iload_n 3, 1), (275, .iconst 1, 1), (276, .iadd, 1), (277, .iaload, 1), (278, .aload_n 0, 1), (279, .iload_n 3, 1), (280, .iconst 2, 1), (281, .iadd, 1), (282, .iaload, 1), (283, .invokevirtual 23, 3), (286, .pop, 1), (287, .aload_n 2, 1), (288, .aload_n 0, 1), (289, .iload_n 3, 1), (290, .iconst 1, 1), (291, .iadd, 1), (292, .iaload, 1), (293, .aload_n 0, 1), (294, .iload_n 3, 1), (295, .iconst 2, 1), (296, .iadd, 1), (297, .iaload, 1), (298, .invokevirtual 27, 3), (301, .pop, 1), (302, .goto 1539, 3)]
theorem dzL_c2 : dz cL_law rwL_c2 := dz_all 272 (by decide +kernel)
theorem hy_X7_scale : yX7_scale.cls ≠ "java/lang/invoke/MethodHandle" ∧ yX7_scale.cls ≠ "java/lang/invoke/VarHandle" ∧ (parseMethodDescriptor yX7_scale.desc).map (fun d => d.parameters.length) = some 2 := ⟨by decide +kernel, by decide +kernel, by decide +kernel⟩
set_option maxRecDepth 100000 in
theorem wd_430 : Cond.methodLink "LearnLoansLaw" 23 yX7_scale ∈ am_ws := am_wt2 (List.mem_of_getElem? (i := 133) (by rfl)) (by decide +kernel)
set_option maxRecDepth 100000 in
theorem wd_431 : Cond.instanceMethod yX7_scale ∈ am_ws := am_wt2 (List.mem_of_getElem? (i := 134) (by rfl)) (by decide +kernel)
set_option maxRecDepth 100000 in
theorem wd_432 : Cond.selects "LearnLoans" yX7_scale yX7_scale ∈ am_ws := am_wt2 (List.mem_of_getElem? (i := 135) (by rfl)) (by decide +kernel)
set_option maxRecDepth 100000 in
theorem wd_433 : Cond.code yX7_scale cX7_scale 4 (some .int) ∈ am_ws := am_wt2 (List.mem_of_getElem? (i := 136) (by rfl)) (by decide +kernel)
theorem hy_X8_scale : yX8_scale.cls ≠ "java/lang/invoke/MethodHandle" ∧ yX8_scale.cls ≠ "java/lang/invoke/VarHandle" ∧ (parseMethodDescriptor yX8_scale.desc).map (fun d => d.parameters.length) = some 2 := ⟨by decide +kernel, by decide +kernel, by decide +kernel⟩
set_option maxRecDepth 100000 in
theorem wd_998 : Cond.methodLink "LearnLoansLaw" 27 yX8_scale ∈ am_ws := am_wt4 (List.mem_of_getElem? (i := 221) (by rfl)) (by decide +kernel)
set_option maxRecDepth 100000 in
theorem wd_999 : Cond.instanceMethod yX8_scale ∈ am_ws := am_wt4 (List.mem_of_getElem? (i := 222) (by rfl)) (by decide +kernel)
set_option maxRecDepth 100000 in
theorem wd_1000 : Cond.selects "LearnLoansModel" yX8_scale yX8_scale ∈ am_ws := am_wt4 (List.mem_of_getElem? (i := 223) (by rfl)) (by decide +kernel)
set_option maxRecDepth 100000 in
theorem wd_1001 : Cond.code yX8_scale cX8_scale 4 (some .int) ∈ am_ws := am_wt4 (List.mem_of_getElem? (i := 224) (by rfl)) (by decide +kernel)
def kL_c2 (Ln : Nat) (xs : Nat → Int32) : an_code := [(272, an_lf (fun live => am_aload 1 273)), (273, an_lf (fun live => am_aload 0 274)), (274, an_lf (fun live => am_iload 3 275)), (275, an_lf (fun live => am_const (.int 1) 276)), (276, an_lf (fun live => am_i2 (fun x y => x + y) 277)), (277, an_sld Ln xs 278), (278, an_lf (fun live => am_aload 0 279)), (279, an_lf (fun live => am_iload 3 280)), (280, an_lf (fun live => am_const (.int 2) 281)), (281, an_lf (fun live => am_i2 (fun x y => x + y) 282)), (282, an_sld Ln xs 283), (283, an_lf (fun live => am_callV live 7 2 TW_scale 286)), (286, an_lf (fun live => am_pop 287)), (287, an_lf (fun live => am_aload 2 288)), (288, an_lf (fun live => am_aload 0 289)), (289, an_lf (fun live => am_iload 3 290)), (290, an_lf (fun live => am_const (.int 1) 291)), (291, an_lf (fun live => am_i2 (fun x y => x + y) 292)), (292, an_sld Ln xs 293), (293, an_lf (fun live => am_aload 0 294)), (294, an_lf (fun live => am_iload 3 295)), (295, an_lf (fun live => am_const (.int 2) 296)), (296, an_lf (fun live => am_i2 (fun x y => x + y) 297)), (297, an_sld Ln xs 298), (298, an_lf (fun live => am_callV live 8 2 TX8_scale 301)), (301, an_lf (fun live => am_pop 302)), (302, an_lf (fun live => am_goto 1841))]
theorem koL_c2 (Ln : Nat) (xs : Nat → Int32) : ∀ q ∈ kL_c2 Ln xs, an_ok RL cL_law 4 (some .boolean) 2000 80000 600000 7302250 false (lawP Ln xs) an_noR q.1 q.2 :=
  am_kz dzL_c2 <|
  an_kd (fun d => an_lift (fun live => ak_aload_n d rfl rfl)) <|
  an_kd (fun d => an_lift (fun live => ak_aload_n d rfl rfl)) <|
  an_kd (fun d => an_lift (fun live => ak_iload_n d rfl rfl)) <|
  an_kd (fun d => an_lift (fun live => ak_iconst d (by decide +kernel) rfl)) <|
  an_kd (fun d => an_lift (fun live => ak_iadd d rfl)) <|
  an_kd (fun d => nk_sld d rfl) <|
  an_kd (fun d => an_lift (fun live => ak_aload_n d rfl rfl)) <|
  an_kd (fun d => an_lift (fun live => ak_iload_n d rfl rfl)) <|
  an_kd (fun d => an_lift (fun live => ak_iconst d (by decide +kernel) rfl)) <|
  an_kd (fun d => an_lift (fun live => ak_iadd d rfl)) <|
  an_kd (fun d => nk_sld d rfl) <|
  an_kd (fun d => an_lift (fun live => ak_callV (C := RX7) (F := TX7) (N := 4) metW_scale rfl ⟨rfl, hy_X7_scale⟩ (am_w5 wd_430 wd_431 wd_432 wd_58 wd_433) (by decide) d rfl)) <|
  an_kd (fun d => an_lift (fun live => ak_pop d rfl)) <|
  an_kd (fun d => an_lift (fun live => ak_aload_n d rfl rfl)) <|
  an_kd (fun d => an_lift (fun live => ak_aload_n d rfl rfl)) <|
  an_kd (fun d => an_lift (fun live => ak_iload_n d rfl rfl)) <|
  an_kd (fun d => an_lift (fun live => ak_iconst d (by decide +kernel) rfl)) <|
  an_kd (fun d => an_lift (fun live => ak_iadd d rfl)) <|
  an_kd (fun d => nk_sld d rfl) <|
  an_kd (fun d => an_lift (fun live => ak_aload_n d rfl rfl)) <|
  an_kd (fun d => an_lift (fun live => ak_iload_n d rfl rfl)) <|
  an_kd (fun d => an_lift (fun live => ak_iconst d (by decide +kernel) rfl)) <|
  an_kd (fun d => an_lift (fun live => ak_iadd d rfl)) <|
  an_kd (fun d => nk_sld d rfl) <|
  an_kd (fun d => an_lift (fun live => ak_callV (C := RX8) (F := TX8) (N := 27) metX8_scale rfl ⟨rfl, hy_X8_scale⟩ (am_w5 wd_998 wd_999 wd_1000 wd_67 wd_1001) (by decide) d rfl)) <|
  an_kd (fun d => an_lift (fun live => ak_pop d rfl)) <|
  an_kd (fun d => an_lift (fun live => ak_goto d (by decide +kernel))) <| an_kdn
set_option maxRecDepth 100000 in
set_option maxHeartbeats 4000000 in
theorem caseL_c2 {Ln : Nat} (xs : Nat → Int32) {i : Int32} {i1 i2 : Bool} {kc kn : Nat} {M : am_M} (h : LI i1 i2 M) (hi : lawI Ln i kc kn) : an_wp (kL_c2 Ln xs) (lawC Ln i) 200 (an_go (kL_c2 Ln xs) 272) (lawL i) [] ((am_lv i1 i2, am_q i1 i2), kc, kn, M) := by
    obtain ⟨⟨f1, f2, f3, f4, f5, f6, f7⟩, k1, k2, k3, k4⟩ := hi.f
    have hmn : am_mn (am_lv i1 i2, am_q i1 i2) := ⟨_, _, rfl⟩
    repeat' (first | (with_reducible exact f1) | (with_reducible exact f2) | (with_reducible exact f3) | (with_reducible exact f4) | (with_reducible exact f5) | (with_reducible exact f6) | (with_reducible exact f7) | (with_reducible exact hmn) | (with_reducible exact h) | (with_reducible exact k1) | (with_reducible exact k2) | (with_reducible exact k3) | (with_reducible exact k4) | apply And.intro | exact rfl | ((with_reducible change r_I _); (with_reducible assumption)) | (intro hx; exact absurd hx (by decide)) | (intro hx; exact absurd (by decide) hx) | decide | intro hx | (refine Exists.intro _ (And.intro rfl ?_)) | (refine Exists.intro _ (Exists.intro _ (And.intro rfl (And.intro rfl ?_)))) | ((with_reducible change LI _ _ _); (with_reducible assumption)) | ((with_reducible change _ = true); simp only [k1, k2, k3, k4, Bool.true_and]; rfl))
    all_goals try first | (with_reducible change am_tI _ _) | (change Ret _ _) | (change Ret _ _ _) | (change Exists _)
    all_goals try dsimp only at *
    all_goals try (with_reducible exact absurd ‹(1000 : Int64) = 0› am_z1000)
    all_goals first
      | exact ⟨_, _, rfl⟩
      | exact lawE.mk hi (by with_reducible assumption) (by omega) (by omega)
      | skip
def rwL_c3 : List dz_r := [(305, .aload_n 1, 1), (306, .aload_n 0, 1), (307, .iload_n 3, 1), (308, .iconst 1, 1), (309, .iadd, 1), (310, .iaload, 1), (311, .aload_n 0, 1), (312, .iload_n 3, 1), (313, .iconst 2, 1), (314, .iadd, 1), (315, .iaload, 1), (316, .invokevirtual 28, 3), (319, .pop, 1), (320, .aload_n 2, 1), (321, .aload_n 0, 1), (322, .iload_n 3, 1), (323, .iconst 1, 1), (324, .iadd, 1), (325, .iaload, 1), (326, .aload_n 0, 1), (327, .iload_n 3, 1), (328, .iconst 2, 1), (329, .iadd, 1), (330, .iaload, 1), (331, .invokevirtual 31, 3), (334, .pop, 1), (335, .goto 1506, 3)]
theorem dzL_c3 : dz cL_law rwL_c3 := dz_all 305 (by decide +kernel)
theorem hy_X7_prices : yX7_prices.cls ≠ "java/lang/invoke/MethodHandle" ∧ yX7_prices.cls ≠ "java/lang/invoke/VarHandle" ∧ (parseMethodDescriptor yX7_prices.desc).map (fun d => d.parameters.length) = some 2 := ⟨by decide +kernel, by decide +kernel, by decide +kernel⟩
set_option maxRecDepth 100000 in
theorem wd_434 : Cond.methodLink "LearnLoansLaw" 28 yX7_prices ∈ am_ws := am_wt2 (List.mem_of_getElem? (i := 137) (by rfl)) (by decide +kernel)
set_option maxRecDepth 100000 in
theorem wd_435 : Cond.instanceMethod yX7_prices ∈ am_ws := am_wt2 (List.mem_of_getElem? (i := 138) (by rfl)) (by decide +kernel)
set_option maxRecDepth 100000 in
theorem wd_436 : Cond.selects "LearnLoans" yX7_prices yX7_prices ∈ am_ws := am_wt2 (List.mem_of_getElem? (i := 139) (by rfl)) (by decide +kernel)
set_option maxRecDepth 100000 in
theorem wd_437 : Cond.code yX7_prices cX7_prices 4 (some .int) ∈ am_ws := am_wt2 (List.mem_of_getElem? (i := 140) (by rfl)) (by decide +kernel)
theorem hy_X8_prices : yX8_prices.cls ≠ "java/lang/invoke/MethodHandle" ∧ yX8_prices.cls ≠ "java/lang/invoke/VarHandle" ∧ (parseMethodDescriptor yX8_prices.desc).map (fun d => d.parameters.length) = some 2 := ⟨by decide +kernel, by decide +kernel, by decide +kernel⟩
set_option maxRecDepth 100000 in
theorem wd_1003 : Cond.methodLink "LearnLoansLaw" 31 yX8_prices ∈ am_ws := am_wt4 (List.mem_of_getElem? (i := 226) (by rfl)) (by decide +kernel)
set_option maxRecDepth 100000 in
theorem wd_1004 : Cond.instanceMethod yX8_prices ∈ am_ws := am_wt4 (List.mem_of_getElem? (i := 227) (by rfl)) (by decide +kernel)
set_option maxRecDepth 100000 in
theorem wd_1005 : Cond.selects "LearnLoansModel" yX8_prices yX8_prices ∈ am_ws := am_wt4 (List.mem_of_getElem? (i := 228) (by rfl)) (by decide +kernel)
set_option maxRecDepth 100000 in
theorem wd_1006 : Cond.code yX8_prices cX8_prices 4 (some .int) ∈ am_ws := am_wt4 (List.mem_of_getElem? (i := 229) (by rfl)) (by decide +kernel)
def kL_c3 (Ln : Nat) (xs : Nat → Int32) : an_code := [(305, an_lf (fun live => am_aload 1 306)), (306, an_lf (fun live => am_aload 0 307)), (307, an_lf (fun live => am_iload 3 308)), (308, an_lf (fun live => am_const (.int 1) 309)), (309, an_lf (fun live => am_i2 (fun x y => x + y) 310)), (310, an_sld Ln xs 311), (311, an_lf (fun live => am_aload 0 312)), (312, an_lf (fun live => am_iload 3 313)), (313, an_lf (fun live => am_const (.int 2) 314)), (314, an_lf (fun live => am_i2 (fun x y => x + y) 315)), (315, an_sld Ln xs 316), (316, an_lf (fun live => am_callV live 7 2 TW_prices 319)), (319, an_lf (fun live => am_pop 320)), (320, an_lf (fun live => am_aload 2 321)), (321, an_lf (fun live => am_aload 0 322)), (322, an_lf (fun live => am_iload 3 323)), (323, an_lf (fun live => am_const (.int 1) 324)), (324, an_lf (fun live => am_i2 (fun x y => x + y) 325)), (325, an_sld Ln xs 326), (326, an_lf (fun live => am_aload 0 327)), (327, an_lf (fun live => am_iload 3 328)), (328, an_lf (fun live => am_const (.int 2) 329)), (329, an_lf (fun live => am_i2 (fun x y => x + y) 330)), (330, an_sld Ln xs 331), (331, an_lf (fun live => am_callV live 8 2 TX8_prices 334)), (334, an_lf (fun live => am_pop 335)), (335, an_lf (fun live => am_goto 1841))]
theorem koL_c3 (Ln : Nat) (xs : Nat → Int32) : ∀ q ∈ kL_c3 Ln xs, an_ok RL cL_law 4 (some .boolean) 2000 80000 600000 7302250 false (lawP Ln xs) an_noR q.1 q.2 :=
  am_kz dzL_c3 <|
  an_kd (fun d => an_lift (fun live => ak_aload_n d rfl rfl)) <|
  an_kd (fun d => an_lift (fun live => ak_aload_n d rfl rfl)) <|
  an_kd (fun d => an_lift (fun live => ak_iload_n d rfl rfl)) <|
  an_kd (fun d => an_lift (fun live => ak_iconst d (by decide +kernel) rfl)) <|
  an_kd (fun d => an_lift (fun live => ak_iadd d rfl)) <|
  an_kd (fun d => nk_sld d rfl) <|
  an_kd (fun d => an_lift (fun live => ak_aload_n d rfl rfl)) <|
  an_kd (fun d => an_lift (fun live => ak_iload_n d rfl rfl)) <|
  an_kd (fun d => an_lift (fun live => ak_iconst d (by decide +kernel) rfl)) <|
  an_kd (fun d => an_lift (fun live => ak_iadd d rfl)) <|
  an_kd (fun d => nk_sld d rfl) <|
  an_kd (fun d => an_lift (fun live => ak_callV (C := RX7) (F := TX7) (N := 4) metW_prices rfl ⟨rfl, hy_X7_prices⟩ (am_w5 wd_434 wd_435 wd_436 wd_58 wd_437) (by decide) d rfl)) <|
  an_kd (fun d => an_lift (fun live => ak_pop d rfl)) <|
  an_kd (fun d => an_lift (fun live => ak_aload_n d rfl rfl)) <|
  an_kd (fun d => an_lift (fun live => ak_aload_n d rfl rfl)) <|
  an_kd (fun d => an_lift (fun live => ak_iload_n d rfl rfl)) <|
  an_kd (fun d => an_lift (fun live => ak_iconst d (by decide +kernel) rfl)) <|
  an_kd (fun d => an_lift (fun live => ak_iadd d rfl)) <|
  an_kd (fun d => nk_sld d rfl) <|
  an_kd (fun d => an_lift (fun live => ak_aload_n d rfl rfl)) <|
  an_kd (fun d => an_lift (fun live => ak_iload_n d rfl rfl)) <|
  an_kd (fun d => an_lift (fun live => ak_iconst d (by decide +kernel) rfl)) <|
  an_kd (fun d => an_lift (fun live => ak_iadd d rfl)) <|
  an_kd (fun d => nk_sld d rfl) <|
  an_kd (fun d => an_lift (fun live => ak_callV (C := RX8) (F := TX8) (N := 27) metX8_prices rfl ⟨rfl, hy_X8_prices⟩ (am_w5 wd_1003 wd_1004 wd_1005 wd_67 wd_1006) (by decide) d rfl)) <|
  an_kd (fun d => an_lift (fun live => ak_pop d rfl)) <|
  an_kd (fun d => an_lift (fun live => ak_goto d (by decide +kernel))) <| an_kdn
set_option maxRecDepth 100000 in
set_option maxHeartbeats 4000000 in
theorem caseL_c3 {Ln : Nat} (xs : Nat → Int32) {i : Int32} {i1 i2 : Bool} {kc kn : Nat} {M : am_M} (h : LI i1 i2 M) (hi : lawI Ln i kc kn) : an_wp (kL_c3 Ln xs) (lawC Ln i) 200 (an_go (kL_c3 Ln xs) 305) (lawL i) [] ((am_lv i1 i2, am_q i1 i2), kc, kn, M) := by
    obtain ⟨⟨f1, f2, f3, f4, f5, f6, f7⟩, k1, k2, k3, k4⟩ := hi.f
    have hmn : am_mn (am_lv i1 i2, am_q i1 i2) := ⟨_, _, rfl⟩
    repeat' (first | (with_reducible exact f1) | (with_reducible exact f2) | (with_reducible exact f3) | (with_reducible exact f4) | (with_reducible exact f5) | (with_reducible exact f6) | (with_reducible exact f7) | (with_reducible exact hmn) | (with_reducible exact h) | (with_reducible exact k1) | (with_reducible exact k2) | (with_reducible exact k3) | (with_reducible exact k4) | apply And.intro | exact rfl | ((with_reducible change r_I _); (with_reducible assumption)) | (intro hx; exact absurd hx (by decide)) | (intro hx; exact absurd (by decide) hx) | decide | intro hx | (refine Exists.intro _ (And.intro rfl ?_)) | (refine Exists.intro _ (Exists.intro _ (And.intro rfl (And.intro rfl ?_)))) | ((with_reducible change LI _ _ _); (with_reducible assumption)) | ((with_reducible change _ = true); simp only [k1, k2, k3, k4, Bool.true_and]; rfl))
    all_goals try first | (with_reducible change am_tI _ _) | (change Ret _ _) | (change Ret _ _ _) | (change Exists _)
    all_goals try dsimp only at *
    all_goals try (with_reducible exact absurd ‹(1000 : Int64) = 0› am_z1000)
    all_goals first
      | exact ⟨_, _, rfl⟩
      | exact lawE.mk hi (by with_reducible assumption) (by omega) (by omega)
      | skip
end
