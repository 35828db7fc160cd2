/-! texts, pure: what the class's reader makes is what the reference's does -/
def w_nx (σ : Nat → Int32) (n p q : Nat) (c : Int32) : Prop := p ≤ q ∧ q ≤ n ∧ (∀ j, p ≤ j → j < q → σ j = 32) ∧ (q < n → σ q ≠ 32 ∧ c = σ q ∧ c ≠ -1) ∧ (q = n → c = -1)
theorem w_nx.u {σ : Nat → Int32} {n p q q' : Nat} {c c' : Int32} (h : w_nx σ n p q c) (h' : w_nx σ n p q' c') : q = q' ∧ c = c' := by
  obtain ⟨h1, h2, h3, h4, h5⟩ := h
  obtain ⟨g1, g2, g3, g4, g5⟩ := h'
  have e : q = q' := by
    rcases Nat.lt_trichotomy q q' with z | z | z
    · exact absurd (g3 q h1 z) (h4 (by omega)).1
    · exact z
    · exact absurd (h3 q' g1 z) (g4 (by omega)).1
  subst e
  refine ⟨rfl, ?_⟩
  by_cases z : q < n
  · rw [(h4 z).2.1, (g4 z).2.1]
  · rw [h5 (by omega), g5 (by omega)]
theorem w_nx.r {σ : Nat → Int32} {n p q : Nat} {c : Int32} (h : w_nx σ n p q c) {fa : Int32 → Int64} {due : Bool} {W : List Int32} {V : List Int64} : w_res fa σ n p due W V = w_res fa σ n q due W V := by
  obtain ⟨h1, h2, h3, -, -⟩ := h
  have e := w_res_b (fa := fa) (σ := σ) (n := n) (due := due) (W := W) (V := V) (q - p) p (by omega) (fun j a b => h3 j a (by omega))
  rwa [show p + (q - p) = q by omega] at e
theorem w_nx.at {σ : Nat → Int32} {n p q : Nat} {c : Int32} (h : w_nx σ n p q c) (hc : c ≠ -1) : q < n ∧ σ q = c ∧ c ≠ 32 := by
  obtain ⟨h1, h2, h3, h4, h5⟩ := h
  have z : q < n := by
    rcases Nat.lt_or_ge q n with z | z
    · exact z
    · exact absurd (h5 (by omega)) hc
  exact ⟨z, (h4 z).2.1.symm, by rw [(h4 z).2.1]; exact (h4 z).1⟩
theorem w_nx.le {σ : Nat → Int32} {n p q : Nat} {c : Int32} (h : w_nx σ n p q c) : p ≤ q ∧ q ≤ n := ⟨h.1, h.2.1⟩
theorem w_nx.mv {σ : Nat → Int32} {n p q : Nat} {c : Int32} (h : w_nx σ n p q c) : w_nx σ n q q c := ⟨Nat.le_refl _, h.2.1, fun j a b => by omega, h.2.2.2.1, h.2.2.2.2⟩
theorem w_nx.bk {σ : Nat → Int32} {n p q q' : Nat} {c c' : Int32} (h : w_nx σ n p q c) (h' : w_nx σ n q q' c') : w_nx σ n p q' c' := ⟨by have := h.1; have := h'.1; omega, h'.2.1, fun j a b => by
  rcases Nat.lt_or_ge j q with z | z
  · exact h.2.2.1 j a z
  · exact h'.2.2.1 j z b, h'.2.2.2.1, h'.2.2.2.2⟩
/-- a plain thing was read from p to p', it says v -/
def s_pl (fa : Int32 → Int64) (σ : Nat → Int32) (n p p' op : Nat) (v : Int64) : Prop := ∀ (W : List Int32) (V : List Int64), w_opn W = op → w_res fa σ n p true W V = w_res fa σ n p' false (w_lay W v V).1 (w_lay W v V).2
/-- what may follow -/
def s_fin (σ : Nat → Int32) (n p' : Nat) (k : Int) (W' : List Int32) (V' : List Int64) : Prop := ∀ (q : Nat) (c : Int32), w_nx σ n p' q c → k ≤ (r_clo c).toInt → r_clo c = 4 ∧ k ≤ 4 ∧ r_clo (w_hdc (w_red 5 W' V').1) = 4
def s_ch (fa : Int32 → Int64) (σ : Nat → Int32) (n p p' op : Nat) (k : Int32) (v : Int64) : Prop := ∀ (W : List Int32) (V : List Int64), w_opn W = op → w_hd W k.toInt → ∃ W' V', w_res fa σ n p true W V = w_res fa σ n p' false W' V' ∧ w_red k W' V' = (W, v :: V) ∧ s_fin σ n p' k.toInt W' V'
def s_va (fa : Int32 → Int64) (σ : Nat → Int32) (n p p' op : Nat) (v : Int64) : Prop := ∀ (W : List Int32) (V : List Int64), w_opn W = op → w_hd W 1 → ∃ W' V', w_res fa σ n p true W V = w_res fa σ n p' false W' V' ∧ w_chs W' V' = w_cho W (v :: V) ∧ s_fin σ n p' 2 W' V' ∧ ∀ q c, w_nx σ n p' q c → c ≠ 63
def s_bp (fa : Int32 → Int64) (σ : Nat → Int32) (n p op : Nat) (f : Int) : Prop := ∀ (W : List Int32) (V : List Int64), w_opn W = op → w_res fa σ n p true W V = .inr f
def s_bd (fa : Int32 → Int64) (σ : Nat → Int32) (n p op : Nat) (k : Int) (f : Int) : Prop := ∀ (W : List Int32) (V : List Int64), w_opn W = op → w_hd W k → w_res fa σ n p true W V = .inr f
theorem w_clo6 (c : Int32) : r_clo c = 0 ∨ r_clo c = 2 ∨ r_clo c = 3 ∨ r_clo c = 4 ∨ r_clo c = 5 ∨ r_clo c = 6 := by
  unfold r_clo
  repeat' split
  all_goals simp
theorem w_dgt_clo {c : Int32} (h : w_dgt c = true) : c ≠ 32 ∧ c ≠ -1 := by
  have h1 := of_decide_eq_true h
  constructor
  · intro e; subst e; exact absurd h1 (by decide)
  · intro e; subst e; exact absurd h1 (by decide)
theorem s_num {fa : Int32 → Int64} {σ : Nat → Int32} {n p q op j : Nat} {c : Int32} {v : Int} (h : w_nx σ n p q c) (hd : w_dgt c = true) (e : w_dig σ n 8 q 0 0 = some (j, v)) : s_pl fa σ n p j op (Int64.ofInt v) := fun W V _ => by
  have hc := h.at (w_dgt_clo hd).2
  rw [h.r]
  exact w_res_s hc.1 (by
    unfold w_stp
    rw [if_neg (by rw [hc.2.1]; exact (w_dgt_clo hd).1), if_pos ⟨rfl, by rw [hc.2.1]; exact hd⟩, e])
theorem s_numf {fa : Int32 → Int64} {σ : Nat → Int32} {n p q op : Nat} {c : Int32} (h : w_nx σ n p q c) (hd : w_dgt c = true) (e : w_dig σ n 8 q 0 0 = none) : s_bp fa σ n p op (10 * (q : Int) + 2) := fun W V _ => by
  have hc := h.at (w_dgt_clo hd).2
  rw [h.r]
  exact w_res_f hc.1 (by
    unfold w_stp
    rw [if_neg (by rw [hc.2.1]; exact (w_dgt_clo hd).1), if_pos ⟨rfl, by rw [hc.2.1]; exact hd⟩, e])
theorem w_ops_fact {c : Int32} : am_ops c = 0 ↔ 0 ≤ (r_fact c).toInt := by
  unfold am_ops r_fact
  constructor
  · intro h
    split at h
    · next z =>
      rcases z with rfl | rfl | rfl | rfl | rfl | rfl | rfl <;> decide
    · split at h
      · exact absurd h (by decide)
      · split at h <;> exact absurd h (by decide)
  · intro h
    rw [if_pos]
    repeat' (first | (split at h; · next z => simp [z]) | exact absurd h (by decide))
theorem w_fact_no {c : Int32} (h : 0 ≤ (r_fact c).toInt) : c ≠ 32 ∧ c ≠ -1 ∧ w_dgt c = false := by
  have h2 := w_ops_fact.mpr h
  unfold am_ops at h2
  split at h2
  · next z =>
    rcases z with rfl | rfl | rfl | rfl | rfl | rfl | rfl <;> exact ⟨by decide, by decide, by decide⟩
  · split at h2
    · exact absurd h2 (by decide)
    · split at h2 <;> exact absurd h2 (by decide)
theorem s_let {fa : Int32 → Int64} {σ : Nat → Int32} {n p q op : Nat} {c : Int32} (h : w_nx σ n p q c) (hd : am_ops c = 0) : s_pl fa σ n p (q + 1) op (fa c) := fun W V _ => by
  have hf := w_fact_no (w_ops_fact.mp hd)
  have hc := h.at hf.2.1
  rw [h.r]
  exact w_res_s hc.1 (by
    unfold w_stp
    rw [hc.2.1, if_neg hf.1, if_neg (fun z => by rw [hf.2.2] at z; exact absurd z.2 (by decide)), if_pos ⟨rfl, w_ops_fact.mp hd⟩])
/-- nothing begins here -/
theorem s_oth {fa : Int32 → Int64} {σ : Nat → Int32} {n p q op : Nat} {c : Int32} (h : w_nx σ n p q c) (h1 : w_dgt c = false) (h2 : ¬ am_ops c = 0) (h3 : c ≠ 40) (h4 : c ≠ 33) (h5 : c ≠ 45) : s_bp fa σ n p op (10 * (q : Int) + 1) := fun W V _ => by
  rw [h.r]
  by_cases z : c = -1
  · have hn : q = n := by
      have := h.2.1
      rcases Nat.lt_or_ge q n with w | w
      · exact absurd z (h.2.2.2.1 w).2.2
      · omega
    rw [hn, w_res_e (Nat.le_refl _)]
    unfold w_end
    rw [if_pos rfl]
  · have hc := h.at z
    exact w_res_f hc.1 (by
      unfold w_stp
      rw [hc.2.1, if_neg hc.2.2, if_neg (fun y => by rw [h1] at y; exact absurd y.2 (by decide)), if_neg (fun y => h2 (w_ops_fact.mpr y.2)), if_neg (fun y => h3 y.2), if_neg (fun y => y.2.elim h4 h5), if_neg (by decide)])
theorem w_opsx {c : Int32} (h : 0 < (r_clo c).toInt) : c ≠ 63 ∧ c ≠ 58 ∧ c ≠ 41 ∧ c ≠ 40 ∧ c ≠ 32 ∧ c ≠ -1 ∧ c ≠ 1 ∧ c ≠ 2 := by
  refine ⟨?_, ?_, ?_, ?_, ?_, ?_, ?_, ?_⟩ <;> (intro e; subst e; exact absurd h (by decide))
theorem w_beh_no {c : Int32} {W : List Int32} {V : List Int64} (h1 : 0 < (r_clo c).toInt → r_clo c = 4 ∧ r_clo (w_hdc (w_red 5 W V).1) = 4) (h2 : c ≠ 63) (h3 : c = 58 → w_hdc (w_chs W V).1 ≠ 63) (h4 : c = 41 → w_hdc (w_chs W V).1 ≠ 40) : w_beh c W V = none := by
  unfold w_beh
  by_cases z : 0 < (r_clo c).toInt
  · have h := h1 z
    rw [if_neg (by rw [h.1]; decide), if_pos h.1, if_pos h.2]
  · rw [if_neg (by omega), if_neg (fun q => z (by rw [q]; decide)), if_neg z, if_neg h2]
    by_cases z3 : c = 58
    · rw [if_pos z3, if_neg (h3 z3)]
    · rw [if_neg z3]
      by_cases z4 : c = 41
      · rw [if_pos z4, if_neg (h4 z4)]
      · rw [if_neg z4]
/-- a value stands, what follows isn't what must follow -/
theorem s_stop {fa : Int32 → Int64} {σ : Nat → Int32} {n p' q : Nat} {c g : Int32} {W' W0 : List Int32} {V' V0 : List Int64} (hx : w_nx σ n p' q c) (hf : s_fin σ n p' 2 W' V') (h6 : c ≠ 63) (hc : w_chs W' V' = (W0, V0)) (hg : c ≠ g) (h8 : g = 41 ∨ g = 58 ∨ g = -1) (h0 : w_hdc W0 = (if g = 41 then 40 else if g = 58 then 63 else 0)) : w_res fa σ n p' false W' V' = .inr (10 * (q : Int) + 1) := by
  rw [hx.r]
  by_cases z : q = n
  · subst z
    rw [w_res_e (Nat.le_refl _)]
    unfold w_end
    rw [if_neg (by decide), hc]
    have e : c = -1 := hx.2.2.2.2 rfl
    rw [e] at hg
    split
    · next v r e2 =>
      cases e2
      rcases h8 with rfl | rfl | rfl
      · exact absurd h0 (by decide)
      · exact absurd h0 (by decide)
      · exact absurd rfl hg
    · rfl
  · have hq : q < n := by have := hx.2.1; omega
    obtain ⟨a1, a2, a3⟩ := hx.2.2.2.1 hq
    have hb : w_beh (σ q) W' V' = none := by
      rw [← a2]
      refine w_beh_no (fun w => ?_) h6 (fun w => ?_) (fun w => ?_)
      · rcases w_clo6 c with e | e | e | e | e | e
        · rw [e] at w; exact absurd w (by decide)
        all_goals
          have y := hf q c hx (by rw [e]; decide)
          exact ⟨y.1, y.2.2⟩
      · rw [hc, h0]
        subst w
        rcases h8 with rfl | rfl | rfl
        · decide
        · exact absurd rfl hg
        · decide
      · rw [hc, h0]
        subst w
        rcases h8 with rfl | rfl | rfl
        · exact absurd rfl hg
        · decide
        · decide
    exact w_res_f hq (by
      unfold w_stp
      rw [if_neg a1, if_neg (by simp), if_neg (by simp), if_neg (by simp), if_neg (by simp), if_pos rfl, hb])
theorem w_hd_p {W : List Int32} : w_hd (40 :: W) 1 := ⟨by decide, by decide, by decide⟩
theorem w_hd_q {W : List Int32} : w_hd (63 :: W) 1 := ⟨by decide, by decide, by decide⟩
theorem w_hd_c {W : List Int32} : w_hd (58 :: W) 1 := ⟨by decide, by decide, by decide⟩
theorem w_hd_up {W : List Int32} {k m : Int} (h : w_hd W k) (hk : k ≤ m) : w_hd W m := by
  unfold w_hd at h ⊢
  split
  · trivial
  · next c r => exact ⟨by have := h.1; omega, h.2⟩
/-- an opening: the step into it -/
theorem s_open {fa : Int32 → Int64} {σ : Nat → Int32} {n p q : Nat} (h : w_nx σ n p q 40) {W : List Int32} {V : List Int64} (h8 : w_opn W ≠ 8) : w_res fa σ n p true W V = w_res fa σ n (q + 1) true (40 :: W) V := by
  have hc := h.at (by decide)
  rw [h.r]
  exact w_res_s hc.1 (by
    unfold w_stp
    rw [hc.2.1, if_neg (by decide), if_neg (by decide), if_neg (by decide), if_pos ⟨rfl, rfl⟩, if_neg h8])
theorem s_full {fa : Int32 → Int64} {σ : Nat → Int32} {n p q : Nat} (h : w_nx σ n p q 40) : s_bp fa σ n p 8 (10 * (q : Int) + 3) := fun W V h8 => by
  have hc := h.at (by decide)
  rw [h.r]
  exact w_res_f hc.1 (by
    unfold w_stp
    rw [hc.2.1, if_neg (by decide), if_neg (by decide), if_neg (by decide), if_pos ⟨rfl, rfl⟩, if_pos h8])
theorem s_par {fa : Int32 → Int64} {σ : Nat → Int32} {n p q p2 q2 op : Nat} {v : Int64} (h : w_nx σ n p q 40) (ho : op ≠ 8) (hv : s_va fa σ n (q + 1) p2 (op + 1) v) (h2 : w_nx σ n p2 q2 41) : s_pl fa σ n p (q2 + 1) op v := fun W V hW => by
  rw [s_open h (by rw [hW]; exact ho)]
  obtain ⟨W', V', e1, e2, -, -⟩ := hv (40 :: W) V (by rw [w_opn_p, hW]) w_hd_p
  rw [e1, h2.r]
  have hc := h2.at (by decide)
  have e3 : w_chs W' V' = (40 :: W, v :: V) := by rw [e2]; exact w_cho_hd (show (40 : Int32) ≠ 58 by decide)
  exact w_res_s hc.1 (by
    unfold w_stp
    rw [hc.2.1, if_neg (by decide), if_neg (by simp), if_neg (by simp), if_neg (by simp), if_neg (by simp), if_pos rfl]
    have e4 : w_beh 41 W' V' = some (w_lay W v V) := by
      unfold w_beh
      rw [if_neg (by decide), if_neg (by decide), if_neg (by decide), if_neg (by decide), if_neg (by decide), if_pos rfl, e3]
      rfl
    rw [e4]
    rfl)
theorem s_parb {fa : Int32 → Int64} {σ : Nat → Int32} {n p q op : Nat} {f : Int} (h : w_nx σ n p q 40) (ho : op ≠ 8) (hv : s_bd fa σ n (q + 1) (op + 1) 1 f) : s_bp fa σ n p op f := fun W V hW => by
  rw [s_open h (by rw [hW]; exact ho)]
  exact hv (40 :: W) V (by rw [w_opn_p, hW]) w_hd_p
theorem s_parm {fa : Int32 → Int64} {σ : Nat → Int32} {n p q p2 q2 op : Nat} {v : Int64} {c : Int32} (h : w_nx σ n p q 40) (ho : op ≠ 8) (hv : s_va fa σ n (q + 1) p2 (op + 1) v) (h2 : w_nx σ n p2 q2 c) (hc : c ≠ 41) : s_bp fa σ n p op (10 * (q2 : Int) + 1) := fun W V hW => by
  rw [s_open h (by rw [hW]; exact ho)]
  obtain ⟨W', V', e1, e2, e3, e4⟩ := hv (40 :: W) V (by rw [w_opn_p, hW]) w_hd_p
  rw [e1]
  have e5 : w_chs W' V' = (40 :: W, v :: V) := by rw [e2]; exact w_cho_hd (show (40 : Int32) ≠ 58 by decide)
  exact s_stop (g := 41) h2 e3 (e4 q2 c h2) e5 hc (Or.inl rfl) rfl
/-- signs ahead, one by one -/
theorem s_sign {fa : Int32 → Int64} {σ : Nat → Int32} {n p q : Nat} {c : Int32} (h : w_nx σ n p q c) (hc : c = 33 ∨ c = 45) {W : List Int32} {V : List Int64} : w_res fa σ n p true W V = w_res fa σ n (q + 1) true ((if c = 33 then 1 else 2) :: W) V := by
  have ha := h.at (by rcases hc with rfl | rfl <;> decide)
  rw [h.r]
  exact w_res_s ha.1 (by
    unfold w_stp
    rw [ha.2.1, if_neg ha.2.2, if_neg (by rcases hc with rfl | rfl <;> decide), if_neg (by rcases hc with rfl | rfl <;> decide), if_neg (by rcases hc with rfl | rfl <;> decide), if_pos ⟨rfl, hc⟩])
theorem w_un_add {σ : Nat → Int32} {b : Nat} : ∀ {k m : Nat}, w_un σ b (k + m) = w_un σ (b + k) m ++ w_un σ b k
  | k, 0 => rfl
  | k, m + 1 => by
    have e : w_un σ b (k + (m + 1)) = if σ (b + (k + m)) = 33 then 1 :: w_un σ b (k + m) else if σ (b + (k + m)) = 45 then 2 :: w_un σ b (k + m) else w_un σ b (k + m) := rfl
    have e2 : w_un σ (b + k) (m + 1) = if σ (b + k + m) = 33 then 1 :: w_un σ (b + k) m else if σ (b + k + m) = 45 then 2 :: w_un σ (b + k) m else w_un σ (b + k) m := rfl
    rw [e, e2, ← Nat.add_assoc b k m, w_un_add]
    by_cases z1 : σ (b + k + m) = 33
    · rw [if_pos z1, if_pos z1]; rfl
    · rw [if_neg z1, if_neg z1]
      by_cases z2 : σ (b + k + m) = 45
      · rw [if_pos z2, if_pos z2]; rfl
      · rw [if_neg z2, if_neg z2]
theorem w_un_b {σ : Nat → Int32} {b : Nat} : ∀ {k : Nat}, (∀ j, b ≤ j → j < b + k → σ j = 32) → w_un σ b k = []
  | 0, _ => rfl
  | k + 1, h => by
    unfold w_un
    have e := h (b + k) (by omega) (by omega)
    rw [if_neg (by rw [e]; decide), if_neg (by rw [e]; decide)]
    exact w_un_b (fun j a c => h j a (by omega))
/-- a unit: the signs, then the plain thing -/
theorem s_unit {fa : Int32 → Int64} {σ : Nat → Int32} {n p b p' op : Nat} {v : Int64} (h1 : ∀ (W : List Int32) (V : List Int64), w_res fa σ n p true W V = w_res fa σ n b true (w_un σ p (b - p) ++ W) V) (h2 : s_pl fa σ n b p' op v) : s_ch fa σ n p p' op 7 (w_ap (w_un σ p (b - p)) v) := fun W V hW hd => by
  refine ⟨W, w_ap (w_un σ p (b - p)) v :: V, ?_, w_red_hd hd, fun q c _ w => ?_⟩
  · rw [h1, h2 _ _ (by rw [w_opn_un (fun c hc => w_un_in c hc), hW]), w_lay_un (fun c hc => w_un_in c hc), w_lay_hd hd]
  · rcases w_clo6 c with e | e | e | e | e | e <;> (rw [e] at w; exact absurd w (by decide))
theorem s_unitb {fa : Int32 → Int64} {σ : Nat → Int32} {n p b op : Nat} {f : Int} (h1 : ∀ (W : List Int32) (V : List Int64), w_res fa σ n p true W V = w_res fa σ n b true (w_un σ p (b - p) ++ W) V) (h2 : s_bp fa σ n b op f) {k : Int} : s_bd fa σ n p op k f := fun W V hW _ => by
  rw [h1]
  exact h2 _ _ (by rw [w_opn_un (fun c hc => w_un_in c hc), hW])
/-- codes of the signs ahead, the nearest first -/
theorem w_ev_un {fa : Int32 → Int64} {σ : Nat → Int32} {b : Nat} : ∀ (k : Nat) (x : Int64) (st : List Int64), ((w_un σ b k).map (fun c => if c = 1 then (-33 : Int32) else -126)).foldl (fun s c => w_ex fa c s) (x :: st) = w_ap (w_un σ b k) x :: st := by
  intro k
  have g : ∀ (U : List Int32) (x : Int64) (st : List Int64), (∀ c ∈ U, c = 1 ∨ c = 2) → (U.map (fun c => if c = 1 then (-33 : Int32) else -126)).foldl (fun s c => w_ex fa c s) (x :: st) = w_ap U x :: st := by
    intro U
    induction U with
    | nil => intro x st _; rfl
    | cons c U ih =>
      intro x st h
      have h1 := h c List.mem_cons_self
      have e : w_ex fa (if c = 1 then (-33 : Int32) else -126) (x :: st) = (if c = 1 then (if x = 0 then 1 else 0) else -x) :: st := by
        rcases h1 with rfl | rfl
        · rw [if_pos rfl, if_pos rfl]
          rfl
        · rw [if_neg (by decide), if_neg (by decide)]
          rfl
      show List.foldl _ (w_ex fa _ (x :: st)) (U.map _) = _
      rw [e, ih _ _ (fun d hd => h d (List.mem_cons_of_mem _ hd))]
      rfl
  exact fun x st => g _ x st (fun c hc => w_un_in c hc)
/-! a chain of signs of one level -/
def s_cl (fa : Int32 → Int64) (σ : Nat → Int32) (n p p' op : Nat) (k : Int32) (v : Int64) : Prop := ∀ (W : List Int32) (V : List Int64), w_opn W = op → w_hd W k.toInt → ∃ W' V', w_res fa σ n p true W V = w_res fa σ n p' false W' V' ∧ w_red k W' V' = (W, v :: V) ∧ (k = 4 → w_red 5 W' V' = (W, v :: V)) ∧ s_fin σ n p' (k.toInt + 1) W' V'
theorem s_cl.of {fa : Int32 → Int64} {σ : Nat → Int32} {n p p' op : Nat} {k k1 : Int32} {v : Int64} (h : s_ch fa σ n p p' op k1 v) (hk : k1.toInt = k.toInt + 1) : s_cl fa σ n p p' op k v := fun W V hW hd => by
  obtain ⟨W', V', e1, e2, e3⟩ := h W V hW (w_hd_up hd (by omega))
  refine ⟨W', V', e1, ?_, fun q => ?_, ?_⟩
  · rw [w_red_to e2 (by omega)]
    exact w_red_hd hd
  · subst q
    have e : k1 = 5 := by rw [i_eq, hk]; decide
    rw [← e]; exact e2
  · rw [← hk]; exact e3
theorem w_beh_op {c k : Int32} {W W' : List Int32} {V V' : List Int64} {v : Int64} (hk : r_clo c = k) (h2 : 2 ≤ k.toInt) (e : w_red k W' V' = (W, v :: V)) (e4 : k = 4 → w_red 5 W' V' = (W, v :: V)) (hd : w_hd W k.toInt) : w_beh c W' V' = some (c :: W, v :: V) := by
  unfold w_beh
  by_cases z : 4 < (r_clo c).toInt
  · rw [if_pos z, hk, e]
  · rw [if_neg z]
    by_cases z4 : r_clo c = 4
    · have k4 : k = 4 := hk ▸ z4
      rw [if_pos z4, e4 k4, if_neg (fun q => ?_)]
      subst k4
      cases W with
      | nil => exact absurd (show r_clo 0 = 4 from q) (by decide)
      | cons c' r =>
        have y := hd.1
        rw [show r_clo c' = 4 from q] at y
        exact absurd y (by decide)
    · rw [if_neg z4, if_pos (by rw [hk]; omega), hk, e]
theorem s_op {fa : Int32 → Int64} {σ : Nat → Int32} {n p p1 q1 op : Nat} {k c : Int32} {v1 : Int64} (h : s_cl fa σ n p p1 op k v1) (hx : w_nx σ n p1 q1 c) (hk : r_clo c = k) (h2 : 2 ≤ k.toInt) {W : List Int32} {V : List Int64} (hW : w_opn W = op) (hd : w_hd W k.toInt) : w_res fa σ n p true W V = w_res fa σ n (q1 + 1) true (c :: W) (v1 :: V) := by
  obtain ⟨W', V', e1, e2, e4, -⟩ := h W V hW hd
  have hc := w_opsx (c := c) (by rw [hk]; omega)
  have ha := hx.at hc.2.2.2.2.2.1
  rw [e1, hx.r]
  exact w_res_s ha.1 (by
    unfold w_stp
    rw [ha.2.1, if_neg ha.2.2, if_neg (by simp), if_neg (by simp), if_neg (by simp), if_neg (by simp), if_pos rfl, w_beh_op hk h2 e2 e4 hd, show decide (c = 41) = false from decide_eq_false hc.2.2.1]
    rfl)
theorem w_hd_op {c k : Int32} {W : List Int32} (hk : r_clo c = k) (h2 : 2 ≤ k.toInt) {m : Int} (hm : k.toInt < m) : w_hd (c :: W) m := by
  have hc := w_opsx (c := c) (by rw [hk]; omega)
  exact ⟨by rw [hk]; exact hm, hc.2.2.2.2.2.2.1, hc.2.2.2.2.2.2.2⟩
theorem s_cl.s {fa : Int32 → Int64} {σ : Nat → Int32} {n p p1 q1 p2 op : Nat} {k k1 c : Int32} {v1 v2 : Int64} (h : s_cl fa σ n p p1 op k v1) (hx : w_nx σ n p1 q1 c) (hk : r_clo c = k) (h2 : 2 ≤ k.toInt) (hk1 : k1.toInt = k.toInt + 1) (h3 : s_ch fa σ n (q1 + 1) p2 op k1 v2) (hn : k ≠ 4) : s_cl fa σ n p p2 op k (am_join c v1 v2) := fun W V hW hd => by
  have hc := w_opsx (c := c) (by rw [hk]; omega)
  obtain ⟨W', V', e1, e2, e3⟩ := h3 (c :: W) (v1 :: V) (by rw [w_opn_c hc.2.2.2.1, hW]) (w_hd_op hk h2 (by omega))
  refine ⟨W', V', by rw [s_op h hx hk h2 hW hd, e1], ?_, fun q => absurd q hn, by rw [← hk1]; exact e3⟩
  rw [w_red_to e2 (by omega), w_red_y (by rw [hk]; exact Int32.le_refl _)]
  exact w_red_hd hd
theorem s_cl.h {fa : Int32 → Int64} {σ : Nat → Int32} {n p p1 q1 p2 op : Nat} {c : Int32} {v1 v2 : Int64} (h : s_cl fa σ n p p1 op 4 v1) (hx : w_nx σ n p1 q1 c) (hk : r_clo c = 4) (h3 : s_ch fa σ n (q1 + 1) p2 op 5 v2) : s_ch fa σ n p p2 op 4 (am_join c v1 v2) := fun W V hW hd => by
  have hc := w_opsx (c := c) (by rw [hk]; decide)
  obtain ⟨W', V', e1, e2, e3⟩ := h3 (c :: W) (v1 :: V) (by rw [w_opn_c hc.2.2.2.1, hW]) (w_hd_op hk (by decide) (by decide))
  refine ⟨W', V', by rw [s_op h hx hk (by decide) hW hd, e1], ?_, fun q c' hq hc' => ?_⟩
  · rw [w_red_to e2 (by decide), w_red_y (by rw [hk]; decide)]
    exact w_red_hd hd
  · have h4 : r_clo c' = 4 := by
      rcases w_clo6 c' with e | e | e | e | e | e
      · rw [e] at hc'; exact absurd hc' (by decide)
      · rw [e] at hc'; exact absurd hc' (by decide)
      · rw [e] at hc'; exact absurd hc' (by decide)
      · exact e
      · have y := e3 q c' hq (by rw [e]; decide)
        exact y.1
      · have y := e3 q c' hq (by rw [e]; decide)
        exact y.1
    exact ⟨h4, by decide, by rw [e2]; exact hk⟩
theorem s_cl.e {fa : Int32 → Int64} {σ : Nat → Int32} {n p p1 q1 op : Nat} {k c : Int32} {v1 : Int64} (h : s_cl fa σ n p p1 op k v1) (hx : w_nx σ n p1 q1 c) (hk : r_clo c ≠ k) : s_ch fa σ n p q1 op k v1 := fun W V hW hd => by
  obtain ⟨W', V', e1, e2, -, e3⟩ := h W V hW hd
  refine ⟨W', V', by rw [e1, hx.r], e2, fun q c' hq hc' => ?_⟩
  have hu := (hx.bk hq).u hx
  have e : r_clo c' ≠ k := by rw [hu.2]; exact hk
  have ne : (r_clo c').toInt ≠ k.toInt := fun w => e (by rw [i_eq]; exact w)
  have y := e3 q c' (hx.bk hq) (by omega)
  exact ⟨y.1, by omega, y.2.2⟩
theorem s_bd.up {fa : Int32 → Int64} {σ : Nat → Int32} {n p op : Nat} {k m : Int} {f : Int} (h : s_bd fa σ n p op m f) (hk : k ≤ m) : s_bd fa σ n p op k f := fun W V hW hd => h W V hW (w_hd_up hd hk)
theorem s_bp.d {fa : Int32 → Int64} {σ : Nat → Int32} {n p op : Nat} {k : Int} {f : Int} (h : s_bp fa σ n p op f) : s_bd fa σ n p op k f := fun W V hW _ => h W V hW
theorem s_cl.b {fa : Int32 → Int64} {σ : Nat → Int32} {n p p1 q1 op : Nat} {k c : Int32} {v1 : Int64} {m f : Int} (h : s_cl fa σ n p p1 op k v1) (hx : w_nx σ n p1 q1 c) (hk : r_clo c = k) (h2 : 2 ≤ k.toInt) (hm : k.toInt < m) (h3 : s_bd fa σ n (q1 + 1) op m f) : s_bd fa σ n p op k.toInt f := fun W V hW hd => by
  have hc := w_opsx (c := c) (by rw [hk]; omega)
  rw [s_op h hx hk h2 hW hd]
  exact h3 _ _ (by rw [w_opn_c hc.2.2.2.1, hW]) (w_hd_op hk h2 hm)
/-! a value: a chain, or a choice -/
theorem s_va.of {fa : Int32 → Int64} {σ : Nat → Int32} {n p p1 q1 op : Nat} {c : Int32} {v : Int64} (h : s_ch fa σ n p p1 op 2 v) (hx : w_nx σ n p1 q1 c) (hc : c ≠ 63) : s_va fa σ n p q1 op v := fun W V hW hd => by
  obtain ⟨W', V', e1, e2, e3⟩ := h W V hW (w_hd_up hd (by decide))
  refine ⟨W', V', by rw [e1, hx.r], by unfold w_chs; rw [e2], fun q c' hq => e3 q c' (hx.bk hq), fun q c' hq => ?_⟩
  rw [((hx.bk hq).u hx).2]
  exact hc
theorem s_ask {fa : Int32 → Int64} {σ : Nat → Int32} {n p p1 q1 op : Nat} {v : Int64} (h : s_ch fa σ n p p1 op 2 v) (hx : w_nx σ n p1 q1 63) {W : List Int32} {V : List Int64} (hW : w_opn W = op) (hd : w_hd W 1) : w_res fa σ n p true W V = w_res fa σ n (q1 + 1) true (63 :: W) (v :: V) := by
  obtain ⟨W', V', e1, e2, -⟩ := h W V hW (w_hd_up hd (by decide))
  have ha := hx.at (by decide)
  rw [e1, hx.r]
  exact w_res_s ha.1 (by
    unfold w_stp
    have e : w_beh 63 W' V' = some (63 :: W, v :: V) := by
      unfold w_beh
      rw [if_neg (by decide), if_neg (by decide), if_neg (by decide), if_pos rfl, e2]
    rw [ha.2.1, if_neg ha.2.2, if_neg (by simp), if_neg (by simp), if_neg (by simp), if_neg (by simp), if_pos rfl, e]
    rfl)
theorem s_els {fa : Int32 → Int64} {σ : Nat → Int32} {n p p1 q1 p2 q2 op : Nat} {v1 v2 : Int64} (h : s_ch fa σ n p p1 op 2 v1) (hx : w_nx σ n p1 q1 63) (h2 : s_va fa σ n (q1 + 1) p2 op v2) (hx2 : w_nx σ n p2 q2 58) {W : List Int32} {V : List Int64} (hW : w_opn W = op) (hd : w_hd W 1) : w_res fa σ n p true W V = w_res fa σ n (q2 + 1) true (58 :: W) (v2 :: v1 :: V) := by
  rw [s_ask h hx hW hd]
  obtain ⟨W', V', e1, e2, -, -⟩ := h2 (63 :: W) (v1 :: V) (by rw [w_opn_c (by decide), hW]) w_hd_q
  have e3 : w_chs W' V' = (63 :: W, v2 :: v1 :: V) := by rw [e2]; exact w_cho_hd (show (63 : Int32) ≠ 58 by decide)
  have ha := hx2.at (by decide)
  rw [e1, hx2.r]
  exact w_res_s ha.1 (by
    unfold w_stp
    have e : w_beh 58 W' V' = some (58 :: W, v2 :: v1 :: V) := by
      unfold w_beh
      rw [if_neg (by decide), if_neg (by decide), if_neg (by decide), if_neg (by decide), if_pos rfl, e3]
      rfl
    rw [ha.2.1, if_neg ha.2.2, if_neg (by simp), if_neg (by simp), if_neg (by simp), if_neg (by simp), if_pos rfl, e]
    rfl)
theorem s_va.c {fa : Int32 → Int64} {σ : Nat → Int32} {n p p1 q1 p2 q2 p3 op : Nat} {v1 v2 v3 : Int64} (h : s_ch fa σ n p p1 op 2 v1) (hx : w_nx σ n p1 q1 63) (h2 : s_va fa σ n (q1 + 1) p2 op v2) (hx2 : w_nx σ n p2 q2 58) (h3 : s_va fa σ n (q2 + 1) p3 op v3) : s_va fa σ n p p3 op (if v1 ≠ 0 then v2 else v3) := fun W V hW hd => by
  rw [s_els h hx h2 hx2 hW hd]
  obtain ⟨W', V', e1, e2, e3, e4⟩ := h3 (58 :: W) (v2 :: v1 :: V) (by rw [w_opn_c (by decide), hW]) w_hd_c
  exact ⟨W', V', e1, by rw [e2, w_cho_y], e3, e4⟩
theorem s_bd.v {fa : Int32 → Int64} {σ : Nat → Int32} {n p p1 q1 op : Nat} {v1 : Int64} {f : Int} (h : s_ch fa σ n p p1 op 2 v1) (hx : w_nx σ n p1 q1 63) (h2 : s_bd fa σ n (q1 + 1) op 1 f) : s_bd fa σ n p op 1 f := fun W V hW hd => by
  rw [s_ask h hx hW hd]
  exact h2 _ _ (by rw [w_opn_c (by decide), hW]) w_hd_q
theorem s_bd.m {fa : Int32 → Int64} {σ : Nat → Int32} {n p p1 q1 p2 q2 op : Nat} {v1 v2 : Int64} {c : Int32} (h : s_ch fa σ n p p1 op 2 v1) (hx : w_nx σ n p1 q1 63) (h2 : s_va fa σ n (q1 + 1) p2 op v2) (hx2 : w_nx σ n p2 q2 c) (hc : c ≠ 58) : s_bd fa σ n p op 1 (10 * (q2 : Int) + 1) := fun W V hW hd => by
  rw [s_ask h hx hW hd]
  obtain ⟨W', V', e1, e2, e3, e4⟩ := h2 (63 :: W) (v1 :: V) (by rw [w_opn_c (by decide), hW]) w_hd_q
  rw [e1]
  have e5 : w_chs W' V' = (63 :: W, v2 :: v1 :: V) := by rw [e2]; exact w_cho_hd (show (63 : Int32) ≠ 58 by decide)
  exact s_stop (g := 58) hx2 e3 (e4 q2 c hx2) e5 hc (Or.inr (Or.inl rfl)) rfl
theorem s_bd.e {fa : Int32 → Int64} {σ : Nat → Int32} {n p p1 q1 p2 q2 op : Nat} {v1 v2 : Int64} {f : Int} (h : s_ch fa σ n p p1 op 2 v1) (hx : w_nx σ n p1 q1 63) (h2 : s_va fa σ n (q1 + 1) p2 op v2) (hx2 : w_nx σ n p2 q2 58) (h3 : s_bd fa σ n (q2 + 1) op 1 f) : s_bd fa σ n p op 1 f := fun W V hW hd => by
  rw [s_els h hx h2 hx2 hW hd]
  exact h3 _ _ (by rw [w_opn_c (by decide), hW]) w_hd_c
/-! the whole text -/
theorem s_all {fa : Int32 → Int64} {σ : Nat → Int32} {n p q : Nat} {c : Int32} {v : Int64} (h : s_va fa σ n 0 p 0 v) (hx : w_nx σ n p q c) : w_res fa σ n 0 true [] [] = (if c = -1 then .inl v else .inr (10 * (q : Int) + 1)) := by
  obtain ⟨W', V', e1, e2, e3, e4⟩ := h [] [] rfl trivial
  have e5 : w_chs W' V' = ([], [v]) := by rw [e2]; exact w_cho_hd (by decide)
  rw [e1]
  by_cases z : c = -1
  · rw [if_pos z, hx.r]
    have hn : q = n := by
      rcases Nat.lt_or_ge q n with w | w
      · exact absurd z (hx.2.2.2.1 w).2.2
      · have := hx.2.1; omega
    rw [hn, w_res_e (Nat.le_refl _)]
    unfold w_end
    rw [if_neg (by decide), e5]
  · rw [if_neg z]
    exact s_stop (g := -1) hx e3 (e4 q c hx) e5 z (Or.inr (Or.inr rfl)) rfl
theorem s_allb {fa : Int32 → Int64} {σ : Nat → Int32} {n : Nat} {f : Int} (h : s_bd fa σ n 0 0 1 f) : w_res fa σ n 0 true [] [] = .inr f := h [] [] rfl trivial
