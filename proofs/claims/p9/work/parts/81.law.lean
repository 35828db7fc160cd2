/-! the law: what holds ahead of every call -/
def an_noR : an_R := fun _ _ _ => False
def lawP (Ln : Nat) (xs : Nat → Int32) : State → (Nat → Nat) → Nat → Prop := fun s al B => va_X (al 2000) Ln xs s s.heap ∧ al 2000 < s.heap.size ∧ ¬ B ≤ al 2000
def an_sld (Ln : Nat) (xs : Nat → Int32) (nx : Nat) : an_S := fun L st X K => match st with
  | .int j :: .ref n :: r => am_if (Nat.beq n 2000) (am_in j Ln ∧ K nx L (.int (xs j.toNatClampNeg) :: r) X)
  | _ => False
def an_slen (Ln nx : Nat) : an_S := fun L st X K => match st with
  | .ref n :: r => am_if (Nat.beq n 2000) (K nx L (.int (Int32.ofNat Ln) :: r) X)
  | _ => False
section LAWR
variable {own : String} {cc : ByteArray} {nL : Nat} {rt : Option FieldType} {rf rl mc ms : Nat} {ini : Bool} {Ret : an_R} {pc nx Ln : Nat} {xs : Nat → Int32}
theorem nk_sld (hd : decode cc pc = .ok (.iaload, 1)) (hn : pc + 1 = nx) : an_ok own cc nL rt rf rl mc ms ini (lawP Ln xs) Ret pc (an_sld Ln xs nx) := by
  subst hn
  intro p l e R Q s m args below meth c D cA al0 B live0 hC hR hQ hni hPp L st X K hK h al hal hI hcc hcn H locs ls hP hS hl
  unfold an_sld at h
  split at h
  · next j n r =>
    obtain ⟨hbb, hj, h2⟩ := am_if_mp h
    clear h
    have hn := Nat.eq_of_beq_eq_true hbb
    subst hn
    obtain ⟨hX, hb1, hb2⟩ := hPp
    have e : al 2000 = al0 2000 := hal 2000 (Or.inr (by decide))
    rw [← e] at hX hb1 hb2
    exact va_sld hC.1 hC.2.1 hX hb1 hb2 hS (am_in_vp hj) hd (hK _ _ _ _ h2 al hal hI hcc hcn H locs ls hP hS hl)
  · exact h.elim
theorem nk_slen (hd : decode cc pc = .ok (.arraylength, 1)) (hn : pc + 1 = nx) : an_ok own cc nL rt rf rl mc ms ini (lawP Ln xs) Ret pc (an_slen Ln nx) := by
  subst hn
  intro p l e R Q s m args below meth c D cA al0 B live0 hC hR hQ hni hPp L st X K hK h al hal hI hcc hcn H locs ls hP hS hl
  unfold an_slen at h
  split at h
  · next n r =>
    obtain ⟨hbb, h2⟩ := am_if_mp h
    clear h
    have hn := Nat.eq_of_beq_eq_true hbb
    subst hn
    obtain ⟨hX, hb1, hb2⟩ := hPp
    have e : al 2000 = al0 2000 := hal 2000 (Or.inr (by decide))
    rw [← e] at hX hb1 hb2
    exact va_slen hC.1 hC.2.1 hX hb1 hb2 hS hd (hK _ _ _ _ h2 al hal hI hcc hcn H locs ls hP hS hl)
  · exact h.elim
end LAWR
def an_M0 : am_M := (fun _ _ => 0, fun _ _ => 0)
def an_Mf : am_M := mX8 (an_bM (mX7 (an_bM an_M0 0)) 200)
def an_v0 (k : Nat) : Int32 := if (22 ≤ k ∧ k < 34) ∨ (1038 ≤ k ∧ k < 1518) ∨ (1998 ≤ k ∧ k < 2478) then -1 else if 514 ≤ k ∧ k < 518 then 1000 else if k = 3733 ∨ k = 3738 ∨ k = 3743 then 10 else 0
theorem an_Mf_w : ∀ a, a < 47 → ∀ b, b < 80 → an_Mf.1 201 (80 * a + b) = an_v0 (80 * a + b) := by decide +kernel
theorem an_Mf_v (k : Nat) (hk : k < 3760) : an_Mf.1 201 k = if (22 ≤ k ∧ k < 34) ∨ (1038 ≤ k ∧ k < 1518) ∨ (1998 ≤ k ∧ k < 2478) then -1 else if 514 ≤ k ∧ k < 518 then 1000 else if k = 3733 ∨ k = 3738 ∨ k = 3743 then 10 else 0 := by
  have q := an_Mf_w (k / 80) (by omega) (k % 80) (by omega)
  rw [show 80 * (k / 80) + k % 80 = k by omega] at q
  exact q
theorem an_Mf_t : t_ok (fun k => an_Mf.1 201 (0 + k)) := by
  have d1 : (-1 : Int32).toInt = -1 := rfl
  have d2 : (1000 : Int32).toInt = 1000 := rfl
  have d3 : (10 : Int32).toInt = 10 := rfl
  have d4 : (0 : Int32).toInt = 0 := rfl
  refine ⟨(), fun k hk => ?_⟩
  show t_v k (an_Mf.1 201 (0 + k)).toInt
  rw [Nat.zero_add, an_Mf_v k hk]
  by_cases c1 : (22 ≤ k ∧ k < 34) ∨ (1038 ≤ k ∧ k < 1518) ∨ (1998 ≤ k ∧ k < 2478)
  · rw [if_pos c1, d1]
    rcases c1 with c | c | c
    · exact t_v.m7 c (by decide)
    · exact t_v.m12 (Or.inl c) (by decide)
    · exact t_v.m12 (Or.inr c) (by decide)
  · rw [if_neg c1]
    by_cases c2 : 514 ≤ k ∧ k < 518
    · rw [if_pos c2, d2]
      exact t_v.m9 c2 (by decide)
    · rw [if_neg c2]
      by_cases c3 : k = 3733 ∨ k = 3738 ∨ k = 3743
      · rw [if_pos c3, d3]
        exact t_v.m34 (by omega) (by decide)
      · rw [if_neg c3, d4]
        clear c1 c3 d1 d2 d3 d4 hk
        (unfold t_v; refine ⟨?_, ?_, ?_, ?_, ?_, ?_, ?_, ?_, ?_, ?_, ?_, ?_, ?_, ?_, ?_, ?_, ?_, ?_, ?_, ?_, ?_, ?_, ?_, ?_, ?_, ?_, ?_, ?_, ?_, ?_, ?_, ?_, ?_, ?_, ?_, ?_⟩ <;> intro q <;> omega)
theorem an_Mf_r : rl 20 201 0 an_Mf an_Mf := by
  have e : (an_Mf.1 (20 + 11) 2).toNatClampNeg = 0 := by decide +kernel
  refine ⟨(), by decide +kernel, by decide +kernel, fun k hk => ?_⟩
  rw [e] at hk
  exact absurd hk (by omega)
theorem an_Mf_l : t_rel (an_Mf.1 (20 + 17)) (fun k => an_Mf.1 201 (0 + k)) := by
  have e1 : (an_Mf.1 201 (0 + 1)).toInt = 0 := by decide +kernel
  have e3 : (an_Mf.1 201 (0 + 3)).toInt = 0 := by decide +kernel
  refine ⟨(), fun l hl z => ?_, fun m hm z => ?_, by unfold am_isNum; decide +kernel, fun l hl z => ?_⟩
  · dsimp only at z
    rw [e1] at z
    exact absurd z (by omega)
  · dsimp only at z
    rw [e3] at z
    exact absurd z (by omega)
  · dsimp only at z
    rw [e1] at z
    exact absurd z (by omega)
theorem an_Mf_b : lb 20 201 0 an_Mf an_Mf := by
  have hp : ∀ k, k < 1200 → 0 ≤ (an_Mf.1 37 k).toInt ∧ (an_Mf.1 37 k).toInt < ((5 : Nat) : Int) := by decide +kernel
  have hc : ∀ t, t < 5 → 0 ≤ (an_Mf.1 (20 + (19 + 3 * t)) 2).toInt ∧ (an_Mf.1 (20 + (19 + 3 * t)) 2).toInt ≤ ((50 : Nat) : Int) := by decide +kernel
  exact ⟨(), an_Mf_r, an_Mf_t, an_Mf_l, fun k hk => hp k hk, fun t ht => ⟨(), hc t ht⟩⟩
theorem an_Mf_L : LI false false an_Mf := by
  have h7 : ∀ k, k < 30 → 0 ≤ (an_Mf.1 7 k).toInt ∧ (an_Mf.1 7 k).toInt < ((30 : Nat) : Int) := by decide +kernel
  have h8 : ∀ k, k < 30 → 0 ≤ (an_Mf.1 8 k).toInt ∧ (an_Mf.1 8 k).toInt < ((30 : Nat) : Int) := by decide +kernel
  have hs : g_sI an_Mf := ⟨(), ⟨(), by decide +kernel, by decide +kernel⟩, fun k hk => h7 k hk, fun k hk => h8 k hk, ⟨by decide +kernel, by decide +kernel⟩, by decide +kernel, Or.inr ⟨by decide +kernel, by decide +kernel⟩, Or.inr ⟨by decide +kernel, by decide +kernel⟩, ⟨by decide +kernel, by decide +kernel⟩, ⟨by decide +kernel, by decide +kernel⟩⟩
  have hr : r_N an_Mf := ⟨by decide +kernel, by decide +kernel⟩
  exact ⟨(), an_Mf_b, ⟨by decide +kernel, by decide +kernel, by decide +kernel, by decide +kernel⟩, ⟨hs, hr⟩, fun z => (by cases z), fun z => (by cases z), by decide +kernel, by decide +kernel⟩
abbrev lawL (i : Int32) : am_L := [(0, .ref 2000), (1, .ref 0), (2, .ref 200), (3, .int i)]
def lawI (Ln : Nat) (i : Int32) (kc kn : Nat) : Prop := ∃ _ : Unit, (0 ≤ i.toInt ∧ i.toInt + 8 ≤ (Ln : Int) ∧ Ln ≤ 4096) ∧ 8 * (kc : Int) ≤ 528 + 39 * i.toInt ∧ 8 * (kn : Int) ≤ 150232 + 5272 * i.toInt
/-- ahead of a call (or of the end) -/
def lawG (Ln : Nat) (i : Int32) (X : am_X) : Prop := ∃ i1 i2 kc kn M, X = ((am_lv i1 i2, am_q i1 i2), kc, kn, M) ∧ LI i1 i2 M ∧ (0 ≤ i.toInt ∧ i.toInt ≤ (Ln : Int) ∧ Ln ≤ 4096) ∧ 8 * (kc : Int) ≤ 528 + 39 * i.toInt ∧ 8 * (kn : Int) ≤ 150232 + 5272 * i.toInt
/-- behind it -/
def lawE (Ln : Nat) (i : Int32) (X : am_X) : Prop := ∃ _ : Unit, ∃ i1 i2 kc kn M, X = ((am_lv i1 i2, am_q i1 i2), kc, kn, M) ∧ LI i1 i2 M ∧ (0 ≤ i.toInt ∧ i.toInt + 8 ≤ (Ln : Int) ∧ Ln ≤ 4096) ∧ 8 * (kc : Int) ≤ 528 + 39 * i.toInt + 312 ∧ 8 * (kn : Int) ≤ 150232 + 5272 * i.toInt + 42176
theorem lawE.mk {Ln kc kn a b : Nat} {i : Int32} {i1 i2 : Bool} {M : am_M} (hi : lawI Ln i kc kn) (h : LI i1 i2 M) (ha : a ≤ kc + 39) (hb : b ≤ kn + 5272) : lawE Ln i ((am_lv i1 i2, am_q i1 i2), a, b, M) := by
  obtain ⟨-, h1, h2, h3⟩ := hi
  exact ⟨(), _, _, _, _, _, rfl, h, h1, by omega, by omega⟩
def lawC (Ln : Nat) (i : Int32) : an_cut := fun pc => match pc with
  | 1841 => some (fun L st X => L = lawL i ∧ st = [] ∧ lawE Ln i X)
  | _ => none
theorem lawI.f {Ln kc kn : Nat} {i : Int32} (h : lawI Ln i kc kn) : (am_in (i + 1) Ln ∧ am_in (i + 2) Ln ∧ am_in (i + 3) Ln ∧ am_in (i + 4) Ln ∧ am_in (i + 5) Ln ∧ am_in (i + 6) Ln ∧ am_in (i + 7) Ln) ∧ Nat.ble (kc + 39) 600000 = true ∧ Nat.ble (kn + 5272) 7302250 = true ∧ Nat.ble (kc + 0) 600000 = true ∧ Nat.ble (kn + 0) 7302250 = true := by
  obtain ⟨-, ⟨h1, h2, h4⟩, h3, h5⟩ := h
  have q : ∀ c : Int32, 1 ≤ c.toInt → c.toInt ≤ 7 → am_in (i + c) Ln := fun c c1 c2 => by
    have e := i_add (x := i) (y := c) (by omega) (by omega)
    exact ⟨by omega, by omega⟩
  exact ⟨⟨q 1 (by decide) (by decide), q 2 (by decide) (by decide), q 3 (by decide) (by decide), q 4 (by decide) (by decide), q 5 (by decide) (by decide), q 6 (by decide) (by decide), q 7 (by decide) (by decide)⟩, Nat.ble_eq.mpr (by omega), Nat.ble_eq.mpr (by omega), Nat.ble_eq.mpr (by omega), Nat.ble_eq.mpr (by omega)⟩
