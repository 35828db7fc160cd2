/-! p1: what is live, in closed form -/
/-- how many references a cell holds -/
def am_wq (q : Nat) : Nat := match Nat.beq q 1 with
  | true => 2
  | false => (am_qs q).length
def an_fin (E : am_E) : Prop := (∀ q, 400 ≤ q → E.1 q = false) ∧ (∀ q k, (400 ≤ q ∨ am_wq q ≤ k) → E.2 q k = none)
theorem an_fin0 : an_fin an_E0 := ⟨fun _ _ => rfl, fun _ _ _ => rfl⟩
theorem an_fin.b {E : am_E} {n : Nat} (h : an_fin E) (hn : n < 400) : an_fin (an_bE E n) := by
  refine ⟨fun q hq => ?_, fun q k hq => ?_⟩
  · show (Nat.beq q n || E.1 q) = false
    rw [an_bne (by omega), h.1 q hq]
    rfl
  · by_cases e : q = n
    · subst e; exact an_bE_2n E q k
    · rw [an_bE_2 E k e]; exact h.2 q k hq
theorem an_fin.r {E : am_E} {n j v : Nat} (h : an_fin E) (hn : n < 400) (hj : j < am_wq n) : an_fin (an_rE E n j v) := by
  refine ⟨h.1, fun q k hq => ?_⟩
  by_cases e : q = n
  · subst e
    rw [an_rE_k E q v (by omega)]
    exact h.2 q k hq
  · rw [an_rE_o E j v k e]
    exact h.2 q k hq
theorem am_qs_len : ∀ q, q < 400 → (am_qs q).length ≤ 27 := by decide +kernel
theorem am_lv_hi (i1 i2 : Bool) {q : Nat} (hq : 400 ≤ q) : am_lv i1 i2 q = false := by
  have hb : ∀ b : Nat, b ≤ q → Nat.blt q b = false := fun b h => by
    cases hh : Nat.blt q b with
    | true => exact absurd (Nat.le_of_ble_eq_true hh) (by omega)
    | false => rfl
  unfold am_lv
  rw [hb 20 (by omega), hb 60 (by omega), hb 100 (by omega), hb 140 (by omega), hb am_top (Nat.le_trans (by decide) hq)]
  exact Bool.and_false _
theorem am_fin_lv (i1 i2 : Bool) : an_fin (am_lv i1 i2, am_q i1 i2) := by
  refine ⟨fun q hq => am_lv_hi i1 i2 hq, fun q k hq => ?_⟩
  show am_q i1 i2 q k = none
  unfold am_q
  by_cases h4 : q < 400
  · have hk : am_wq q ≤ k := by omega
    cases am_lv i1 i2 q with
    | false => rfl
    | true =>
      by_cases e : q = 1
      · subst e
        have hk : 2 ≤ k := hk
        match k, hk with
        | k + 2, _ => rfl
      · rw [an_bne e]
        show (am_qs q).getD k none = none
        unfold am_wq at hk
        rw [an_bne e] at hk
        have hk : (am_qs q).length ≤ k := hk
        rw [List.getD_eq_getElem?_getD, List.getElem?_eq_none (by omega)]
        rfl
  · rw [am_lv_hi i1 i2 (by omega)]
theorem an_eq {E F : am_E} (hE : an_fin E) (hF : an_fin F) (h1 : ∀ q, q < 400 → E.1 q = F.1 q) (h2 : ∀ q, q < 400 → ∀ k, k < am_wq q → E.2 q k = F.2 q k) : E = F := by
  refine Prod.ext (funext fun q => ?_) (funext fun q => funext fun k => ?_)
  · by_cases h : q < 400
    · exact h1 q h
    · rw [hE.1 q (by omega), hF.1 q (by omega)]
  · by_cases h : q < 400 ∧ k < am_wq q
    · exact h2 q h.1 k h.2
    · rw [hE.2 q k (by omega), hF.2 q k (by omega)]
def an_Ef : am_E := eX8 (an_bE (eX7 (an_bE an_E0 0)) 200)
set_option maxRecDepth 100000 in
set_option maxHeartbeats 4000000 in
theorem an_Ef_eq : an_Ef = (am_lv false false, am_q false false) := by
  refine an_eq ?_ (am_fin_lv _ _) (by decide +kernel) (by decide +kernel)
  unfold an_Ef eX8 eX7 eX6 eX4 eX0 eX2 eX5
  repeat (first | refine an_fin.b ?_ (by decide) | refine an_fin.r ?_ (by decide) (by decide +kernel) | exact an_fin0)
set_option maxRecDepth 100000 in
set_option maxHeartbeats 4000000 in
theorem an_Ei0 : an_rE (eX0 60 (an_bE (am_lv false false, am_q false false) 60)) 1 0 60 = (am_lv true false, am_q true false) := by
  refine an_eq ?_ (am_fin_lv _ _) (by decide +kernel) (by decide +kernel)
  unfold eX0 eX2 eX5
  repeat (first | refine an_fin.b ?_ (by decide) | refine an_fin.r ?_ (by decide) (by decide +kernel) | exact am_fin_lv _ _)
set_option maxRecDepth 100000 in
set_option maxHeartbeats 4000000 in
theorem an_Ei1 : an_rE (eX0 100 (an_bE (am_lv false false, am_q false false) 100)) 1 1 100 = (am_lv false true, am_q false true) := by
  refine an_eq ?_ (am_fin_lv _ _) (by decide +kernel) (by decide +kernel)
  unfold eX0 eX2 eX5
  repeat (first | refine an_fin.b ?_ (by decide) | refine an_fin.r ?_ (by decide) (by decide +kernel) | exact am_fin_lv _ _)
