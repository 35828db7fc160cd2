/-! what holds between calls, of both -/
/-- what may stand at a place of the reference's numbers -/
def t_v (k : Nat) (v : Int) : Prop := (k = 0 → 0 ≤ v ∧ v ≤ 12) ∧ (k = 1 → 0 ≤ v ∧ v ≤ 30) ∧ (k = 2 → 0 ≤ v ∧ v ≤ 60) ∧ (k = 3 → 0 ≤ v ∧ v ≤ 60) ∧ (k = 4 → 0 ≤ v ∧ v ≤ 20) ∧ (k = 5 → 0 ≤ v ∧ v ≤ 9) ∧ (10 ≤ k ∧ k < 22 → 0 ≤ v ∧ v ≤ 39) ∧ (22 ≤ k ∧ k < 34 → -1 ≤ v ∧ v ≤ 39) ∧ (34 ≤ k ∧ k < 514 → 0 ≤ v ∧ v ≤ 3) ∧ (514 ≤ k ∧ k < 518 → 1 ≤ v ∧ v ≤ 5000) ∧ (518 ≤ k ∧ k < 558 → -100 ≤ v ∧ v ≤ 500) ∧ ((558 ≤ k ∧ k < 1038) ∨ (1518 ≤ k ∧ k < 1998) → 0 ≤ v ∧ v ≤ 10000000) ∧ ((1038 ≤ k ∧ k < 1518) ∨ (1998 ≤ k ∧ k < 2478) → -1 ≤ v ∧ v ≤ 39) ∧ (2478 ≤ k ∧ k < 2838 ∧ k % 6 = 0 → 0 ≤ v ∧ v ≤ 4) ∧ (2478 ≤ k ∧ k < 2838 ∧ k % 6 = 1 → 0 ≤ v ∧ v ≤ 5) ∧ (2478 ≤ k ∧ k < 2838 ∧ k % 6 = 2 → 0 ≤ v ∧ v ≤ 10000000) ∧ (2478 ≤ k ∧ k < 2838 ∧ 3 ≤ k % 6 → 0 ≤ v ∧ v ≤ 39) ∧ (2838 ≤ k ∧ k < 3078 ∧ (k + 2) % 8 = 0 → 0 ≤ v ∧ v ≤ 11) ∧ (2838 ≤ k ∧ k < 3078 ∧ (k + 2) % 8 = 1 → 0 ≤ v ∧ v ≤ 4) ∧ (2838 ≤ k ∧ k < 3078 ∧ (k + 2) % 8 = 2 → 0 ≤ v ∧ v ≤ 39) ∧ (2838 ≤ k ∧ k < 3078 ∧ (k + 2) % 8 = 3 → 0 ≤ v ∧ v ≤ 10000000) ∧ (2838 ≤ k ∧ k < 3078 ∧ (k + 2) % 8 = 4 → 0 ≤ v ∧ v ≤ 1) ∧ (2838 ≤ k ∧ k < 3078 ∧ (k + 2) % 8 = 5 → -1 ≤ v ∧ v ≤ 39) ∧ (2838 ≤ k ∧ k < 3078 ∧ (k + 2) % 8 = 6 → -1 ≤ v ∧ v ≤ 3) ∧ (2838 ≤ k ∧ k < 3078 ∧ (k + 2) % 8 = 7 → -1 ≤ v ∧ v ≤ 39) ∧ (3078 ≤ k ∧ k < 3258 ∧ k % 3 = 0 → 0 ≤ v ∧ v ≤ 29) ∧ (3078 ≤ k ∧ k < 3258 ∧ k % 3 = 1 → 0 ≤ v ∧ v ≤ 4) ∧ (3078 ≤ k ∧ k < 3258 ∧ k % 3 = 2 → 0 ≤ v ∧ v ≤ 39) ∧ (3258 ≤ k ∧ k < 3508 → 0 ≤ v ∧ v ≤ 127) ∧ (3508 ≤ k ∧ k < 3513 → 0 ≤ v ∧ v ≤ 50) ∧ (3513 ≤ k ∧ k < 3573 ∧ k % 3 = 0 → 0 ≤ v ∧ v ≤ 3) ∧ (3513 ≤ k ∧ k < 3573 ∧ k % 3 = 1 → 0 ≤ v ∧ v ≤ 39) ∧ (3513 ≤ k ∧ k < 3573 ∧ k % 3 = 2 → 0 ≤ v ∧ v ≤ 1000000000) ∧ (3573 ≤ k ∧ k < 3733 → 0 ≤ v ∧ v ≤ 10000000) ∧ (3733 ≤ k ∧ k < 3745 → 0 ≤ v ∧ v ≤ 10) ∧ (3745 ≤ k ∧ k < 3754 → 0 ≤ v ∧ v ≤ 10000000)
def t_ok (f : Nat → Int32) : Prop := ∃ _ : Unit, ∀ k, k < 3760 → t_v k (f k).toInt
theorem t_ok.v {f : Nat → Int32} (h : t_ok f) {k : Nat} (hk : k < 3760) : t_v k (f k).toInt := by obtain ⟨-, h⟩ := h; exact h k hk
theorem t_v.a0 {k : Nat} {v : Int} (h : t_v k v) (q : k = 0) : 0 ≤ v ∧ v ≤ 12 := by obtain ⟨h, -⟩ := h; exact h q
theorem t_v.a1 {k : Nat} {v : Int} (h : t_v k v) (q : k = 1) : 0 ≤ v ∧ v ≤ 30 := by obtain ⟨-, h, -⟩ := h; exact h q
theorem t_v.a2 {k : Nat} {v : Int} (h : t_v k v) (q : k = 2) : 0 ≤ v ∧ v ≤ 60 := by obtain ⟨-, -, h, -⟩ := h; exact h q
theorem t_v.a3 {k : Nat} {v : Int} (h : t_v k v) (q : k = 3) : 0 ≤ v ∧ v ≤ 60 := by obtain ⟨-, -, -, h, -⟩ := h; exact h q
theorem t_v.a4 {k : Nat} {v : Int} (h : t_v k v) (q : k = 4) : 0 ≤ v ∧ v ≤ 20 := by obtain ⟨-, -, -, -, h, -⟩ := h; exact h q
theorem t_v.a5 {k : Nat} {v : Int} (h : t_v k v) (q : k = 5) : 0 ≤ v ∧ v ≤ 9 := by obtain ⟨-, -, -, -, -, h, -⟩ := h; exact h q
theorem t_v.a6 {k : Nat} {v : Int} (h : t_v k v) (q : 10 ≤ k ∧ k < 22) : 0 ≤ v ∧ v ≤ 39 := by obtain ⟨-, -, -, -, -, -, h, -⟩ := h; exact h q
theorem t_v.a7 {k : Nat} {v : Int} (h : t_v k v) (q : 22 ≤ k ∧ k < 34) : -1 ≤ v ∧ v ≤ 39 := by obtain ⟨-, -, -, -, -, -, -, h, -⟩ := h; exact h q
theorem t_v.a8 {k : Nat} {v : Int} (h : t_v k v) (q : 34 ≤ k ∧ k < 514) : 0 ≤ v ∧ v ≤ 3 := by obtain ⟨-, -, -, -, -, -, -, -, h, -⟩ := h; exact h q
theorem t_v.a9 {k : Nat} {v : Int} (h : t_v k v) (q : 514 ≤ k ∧ k < 518) : 1 ≤ v ∧ v ≤ 5000 := by obtain ⟨-, -, -, -, -, -, -, -, -, h, -⟩ := h; exact h q
theorem t_v.a10 {k : Nat} {v : Int} (h : t_v k v) (q : 518 ≤ k ∧ k < 558) : -100 ≤ v ∧ v ≤ 500 := by obtain ⟨-, -, -, -, -, -, -, -, -, -, h, -⟩ := h; exact h q
theorem t_v.a11 {k : Nat} {v : Int} (h : t_v k v) (q : (558 ≤ k ∧ k < 1038) ∨ (1518 ≤ k ∧ k < 1998)) : 0 ≤ v ∧ v ≤ 10000000 := by obtain ⟨-, -, -, -, -, -, -, -, -, -, -, h, -⟩ := h; exact h q
theorem t_v.a12 {k : Nat} {v : Int} (h : t_v k v) (q : (1038 ≤ k ∧ k < 1518) ∨ (1998 ≤ k ∧ k < 2478)) : -1 ≤ v ∧ v ≤ 39 := by obtain ⟨-, -, -, -, -, -, -, -, -, -, -, -, h, -⟩ := h; exact h q
theorem t_v.a13 {k : Nat} {v : Int} (h : t_v k v) (q : 2478 ≤ k ∧ k < 2838 ∧ k % 6 = 0) : 0 ≤ v ∧ v ≤ 4 := by obtain ⟨-, -, -, -, -, -, -, -, -, -, -, -, -, h, -⟩ := h; exact h q
theorem t_v.a14 {k : Nat} {v : Int} (h : t_v k v) (q : 2478 ≤ k ∧ k < 2838 ∧ k % 6 = 1) : 0 ≤ v ∧ v ≤ 5 := by obtain ⟨-, -, -, -, -, -, -, -, -, -, -, -, -, -, h, -⟩ := h; exact h q
theorem t_v.a15 {k : Nat} {v : Int} (h : t_v k v) (q : 2478 ≤ k ∧ k < 2838 ∧ k % 6 = 2) : 0 ≤ v ∧ v ≤ 10000000 := by obtain ⟨-, -, -, -, -, -, -, -, -, -, -, -, -, -, -, h, -⟩ := h; exact h q
theorem t_v.a16 {k : Nat} {v : Int} (h : t_v k v) (q : 2478 ≤ k ∧ k < 2838 ∧ 3 ≤ k % 6) : 0 ≤ v ∧ v ≤ 39 := by obtain ⟨-, -, -, -, -, -, -, -, -, -, -, -, -, -, -, -, h, -⟩ := h; exact h q
theorem t_v.a17 {k : Nat} {v : Int} (h : t_v k v) (q : 2838 ≤ k ∧ k < 3078 ∧ (k + 2) % 8 = 0) : 0 ≤ v ∧ v ≤ 11 := by obtain ⟨-, -, -, -, -, -, -, -, -, -, -, -, -, -, -, -, -, h, -⟩ := h; exact h q
theorem t_v.a18 {k : Nat} {v : Int} (h : t_v k v) (q : 2838 ≤ k ∧ k < 3078 ∧ (k + 2) % 8 = 1) : 0 ≤ v ∧ v ≤ 4 := by obtain ⟨-, -, -, -, -, -, -, -, -, -, -, -, -, -, -, -, -, -, h, -⟩ := h; exact h q
theorem t_v.a19 {k : Nat} {v : Int} (h : t_v k v) (q : 2838 ≤ k ∧ k < 3078 ∧ (k + 2) % 8 = 2) : 0 ≤ v ∧ v ≤ 39 := by obtain ⟨-, -, -, -, -, -, -, -, -, -, -, -, -, -, -, -, -, -, -, h, -⟩ := h; exact h q
theorem t_v.a20 {k : Nat} {v : Int} (h : t_v k v) (q : 2838 ≤ k ∧ k < 3078 ∧ (k + 2) % 8 = 3) : 0 ≤ v ∧ v ≤ 10000000 := by obtain ⟨-, -, -, -, -, -, -, -, -, -, -, -, -, -, -, -, -, -, -, -, h, -⟩ := h; exact h q
theorem t_v.a21 {k : Nat} {v : Int} (h : t_v k v) (q : 2838 ≤ k ∧ k < 3078 ∧ (k + 2) % 8 = 4) : 0 ≤ v ∧ v ≤ 1 := by obtain ⟨-, -, -, -, -, -, -, -, -, -, -, -, -, -, -, -, -, -, -, -, -, h, -⟩ := h; exact h q
theorem t_v.a22 {k : Nat} {v : Int} (h : t_v k v) (q : 2838 ≤ k ∧ k < 3078 ∧ (k + 2) % 8 = 5) : -1 ≤ v ∧ v ≤ 39 := by obtain ⟨-, -, -, -, -, -, -, -, -, -, -, -, -, -, -, -, -, -, -, -, -, -, h, -⟩ := h; exact h q
theorem t_v.a23 {k : Nat} {v : Int} (h : t_v k v) (q : 2838 ≤ k ∧ k < 3078 ∧ (k + 2) % 8 = 6) : -1 ≤ v ∧ v ≤ 3 := by obtain ⟨-, -, -, -, -, -, -, -, -, -, -, -, -, -, -, -, -, -, -, -, -, -, -, h, -⟩ := h; exact h q
theorem t_v.a24 {k : Nat} {v : Int} (h : t_v k v) (q : 2838 ≤ k ∧ k < 3078 ∧ (k + 2) % 8 = 7) : -1 ≤ v ∧ v ≤ 39 := by obtain ⟨-, -, -, -, -, -, -, -, -, -, -, -, -, -, -, -, -, -, -, -, -, -, -, -, h, -⟩ := h; exact h q
theorem t_v.a25 {k : Nat} {v : Int} (h : t_v k v) (q : 3078 ≤ k ∧ k < 3258 ∧ k % 3 = 0) : 0 ≤ v ∧ v ≤ 29 := by obtain ⟨-, -, -, -, -, -, -, -, -, -, -, -, -, -, -, -, -, -, -, -, -, -, -, -, -, h, -⟩ := h; exact h q
theorem t_v.a26 {k : Nat} {v : Int} (h : t_v k v) (q : 3078 ≤ k ∧ k < 3258 ∧ k % 3 = 1) : 0 ≤ v ∧ v ≤ 4 := by obtain ⟨-, -, -, -, -, -, -, -, -, -, -, -, -, -, -, -, -, -, -, -, -, -, -, -, -, -, h, -⟩ := h; exact h q
theorem t_v.a27 {k : Nat} {v : Int} (h : t_v k v) (q : 3078 ≤ k ∧ k < 3258 ∧ k % 3 = 2) : 0 ≤ v ∧ v ≤ 39 := by obtain ⟨-, -, -, -, -, -, -, -, -, -, -, -, -, -, -, -, -, -, -, -, -, -, -, -, -, -, -, h, -⟩ := h; exact h q
theorem t_v.a28 {k : Nat} {v : Int} (h : t_v k v) (q : 3258 ≤ k ∧ k < 3508) : 0 ≤ v ∧ v ≤ 127 := by obtain ⟨-, -, -, -, -, -, -, -, -, -, -, -, -, -, -, -, -, -, -, -, -, -, -, -, -, -, -, -, h, -⟩ := h; exact h q
theorem t_v.a29 {k : Nat} {v : Int} (h : t_v k v) (q : 3508 ≤ k ∧ k < 3513) : 0 ≤ v ∧ v ≤ 50 := by obtain ⟨-, -, -, -, -, -, -, -, -, -, -, -, -, -, -, -, -, -, -, -, -, -, -, -, -, -, -, -, -, h, -⟩ := h; exact h q
theorem t_v.a30 {k : Nat} {v : Int} (h : t_v k v) (q : 3513 ≤ k ∧ k < 3573 ∧ k % 3 = 0) : 0 ≤ v ∧ v ≤ 3 := by obtain ⟨-, -, -, -, -, -, -, -, -, -, -, -, -, -, -, -, -, -, -, -, -, -, -, -, -, -, -, -, -, -, h, -⟩ := h; exact h q
theorem t_v.a31 {k : Nat} {v : Int} (h : t_v k v) (q : 3513 ≤ k ∧ k < 3573 ∧ k % 3 = 1) : 0 ≤ v ∧ v ≤ 39 := by obtain ⟨-, -, -, -, -, -, -, -, -, -, -, -, -, -, -, -, -, -, -, -, -, -, -, -, -, -, -, -, -, -, -, h, -⟩ := h; exact h q
theorem t_v.a32 {k : Nat} {v : Int} (h : t_v k v) (q : 3513 ≤ k ∧ k < 3573 ∧ k % 3 = 2) : 0 ≤ v ∧ v ≤ 1000000000 := by obtain ⟨-, -, -, -, -, -, -, -, -, -, -, -, -, -, -, -, -, -, -, -, -, -, -, -, -, -, -, -, -, -, -, -, h, -⟩ := h; exact h q
theorem t_v.a33 {k : Nat} {v : Int} (h : t_v k v) (q : 3573 ≤ k ∧ k < 3733) : 0 ≤ v ∧ v ≤ 10000000 := by obtain ⟨-, -, -, -, -, -, -, -, -, -, -, -, -, -, -, -, -, -, -, -, -, -, -, -, -, -, -, -, -, -, -, -, -, h, -⟩ := h; exact h q
theorem t_v.a34 {k : Nat} {v : Int} (h : t_v k v) (q : 3733 ≤ k ∧ k < 3745) : 0 ≤ v ∧ v ≤ 10 := by obtain ⟨-, -, -, -, -, -, -, -, -, -, -, -, -, -, -, -, -, -, -, -, -, -, -, -, -, -, -, -, -, -, -, -, -, -, h, -⟩ := h; exact h q
theorem t_v.a35 {k : Nat} {v : Int} (h : t_v k v) (q : 3745 ≤ k ∧ k < 3754) : 0 ≤ v ∧ v ≤ 10000000 := by obtain ⟨-, -, -, -, -, -, -, -, -, -, -, -, -, -, -, -, -, -, -, -, -, -, -, -, -, -, -, -, -, -, -, -, -, -, -, h⟩ := h; exact h q
theorem t_v.ba {k : Nat} {v : Int} (z : k < 10) (w : (k = 0 → 0 ≤ v ∧ v ≤ 12) ∧ (k = 1 → 0 ≤ v ∧ v ≤ 30) ∧ (k = 2 → 0 ≤ v ∧ v ≤ 60) ∧ (k = 3 → 0 ≤ v ∧ v ≤ 60) ∧ (k = 4 → 0 ≤ v ∧ v ≤ 20) ∧ (k = 5 → 0 ≤ v ∧ v ≤ 9)) : t_v k v := by
  obtain ⟨h0, h1, h2, h3, h4, h5⟩ := w
  exact ⟨h0, h1, h2, h3, h4, h5, fun q => absurd q (by omega), fun q => absurd q (by omega), fun q => absurd q (by omega), fun q => absurd q (by omega), fun q => absurd q (by omega), fun q => absurd q (by omega), fun q => absurd q (by omega), fun q => absurd q (by omega), fun q => absurd q (by omega), fun q => absurd q (by omega), fun q => absurd q (by omega), fun q => absurd q (by omega), fun q => absurd q (by omega), fun q => absurd q (by omega), fun q => absurd q (by omega), fun q => absurd q (by omega), fun q => absurd q (by omega), fun q => absurd q (by omega), fun q => absurd q (by omega), fun q => absurd q (by omega), fun q => absurd q (by omega), fun q => absurd q (by omega), fun q => absurd q (by omega), fun q => absurd q (by omega), fun q => absurd q (by omega), fun q => absurd q (by omega), fun q => absurd q (by omega), fun q => absurd q (by omega), fun q => absurd q (by omega), fun q => absurd q (by omega)⟩
theorem t_v.m0 {k : Nat} {v : Int} (z : k = 0) (w : 0 ≤ v ∧ v ≤ 12) : t_v k v := t_v.ba (by omega) ⟨fun _ => w, fun q => absurd q (by omega), fun q => absurd q (by omega), fun q => absurd q (by omega), fun q => absurd q (by omega), fun q => absurd q (by omega)⟩
theorem t_v.m1 {k : Nat} {v : Int} (z : k = 1) (w : 0 ≤ v ∧ v ≤ 30) : t_v k v := t_v.ba (by omega) ⟨fun q => absurd q (by omega), fun _ => w, fun q => absurd q (by omega), fun q => absurd q (by omega), fun q => absurd q (by omega), fun q => absurd q (by omega)⟩
theorem t_v.m2 {k : Nat} {v : Int} (z : k = 2) (w : 0 ≤ v ∧ v ≤ 60) : t_v k v := t_v.ba (by omega) ⟨fun q => absurd q (by omega), fun q => absurd q (by omega), fun _ => w, fun q => absurd q (by omega), fun q => absurd q (by omega), fun q => absurd q (by omega)⟩
theorem t_v.m3 {k : Nat} {v : Int} (z : k = 3) (w : 0 ≤ v ∧ v ≤ 60) : t_v k v := t_v.ba (by omega) ⟨fun q => absurd q (by omega), fun q => absurd q (by omega), fun q => absurd q (by omega), fun _ => w, fun q => absurd q (by omega), fun q => absurd q (by omega)⟩
theorem t_v.m4 {k : Nat} {v : Int} (z : k = 4) (w : 0 ≤ v ∧ v ≤ 20) : t_v k v := t_v.ba (by omega) ⟨fun q => absurd q (by omega), fun q => absurd q (by omega), fun q => absurd q (by omega), fun q => absurd q (by omega), fun _ => w, fun q => absurd q (by omega)⟩
theorem t_v.m5 {k : Nat} {v : Int} (z : k = 5) (w : 0 ≤ v ∧ v ≤ 9) : t_v k v := t_v.ba (by omega) ⟨fun q => absurd q (by omega), fun q => absurd q (by omega), fun q => absurd q (by omega), fun q => absurd q (by omega), fun q => absurd q (by omega), fun _ => w⟩
theorem t_v.bb {k : Nat} {v : Int} (z : 10 ≤ k ∧ k < 558) (w : (10 ≤ k ∧ k < 22 → 0 ≤ v ∧ v ≤ 39) ∧ (22 ≤ k ∧ k < 34 → -1 ≤ v ∧ v ≤ 39) ∧ (34 ≤ k ∧ k < 514 → 0 ≤ v ∧ v ≤ 3) ∧ (514 ≤ k ∧ k < 518 → 1 ≤ v ∧ v ≤ 5000) ∧ (518 ≤ k ∧ k < 558 → -100 ≤ v ∧ v ≤ 500)) : t_v k v := by
  obtain ⟨h6, h7, h8, h9, h10⟩ := w
  exact ⟨fun q => absurd q (by omega), fun q => absurd q (by omega), fun q => absurd q (by omega), fun q => absurd q (by omega), fun q => absurd q (by omega), fun q => absurd q (by omega), h6, h7, h8, h9, h10, fun q => absurd q (by omega), fun q => absurd q (by omega), fun q => absurd q (by omega), fun q => absurd q (by omega), fun q => absurd q (by omega), fun q => absurd q (by omega), fun q => absurd q (by omega), fun q => absurd q (by omega), fun q => absurd q (by omega), fun q => absurd q (by omega), fun q => absurd q (by omega), fun q => absurd q (by omega), fun q => absurd q (by omega), fun q => absurd q (by omega), fun q => absurd q (by omega), fun q => absurd q (by omega), fun q => absurd q (by omega), fun q => absurd q (by omega), fun q => absurd q (by omega), fun q => absurd q (by omega), fun q => absurd q (by omega), fun q => absurd q (by omega), fun q => absurd q (by omega), fun q => absurd q (by omega), fun q => absurd q (by omega)⟩
theorem t_v.m6 {k : Nat} {v : Int} (z : 10 ≤ k ∧ k < 22) (w : 0 ≤ v ∧ v ≤ 39) : t_v k v := t_v.bb (by omega) ⟨fun _ => w, fun q => absurd q (by omega), fun q => absurd q (by omega), fun q => absurd q (by omega), fun q => absurd q (by omega)⟩
theorem t_v.m7 {k : Nat} {v : Int} (z : 22 ≤ k ∧ k < 34) (w : -1 ≤ v ∧ v ≤ 39) : t_v k v := t_v.bb (by omega) ⟨fun q => absurd q (by omega), fun _ => w, fun q => absurd q (by omega), fun q => absurd q (by omega), fun q => absurd q (by omega)⟩
theorem t_v.m8 {k : Nat} {v : Int} (z : 34 ≤ k ∧ k < 514) (w : 0 ≤ v ∧ v ≤ 3) : t_v k v := t_v.bb (by omega) ⟨fun q => absurd q (by omega), fun q => absurd q (by omega), fun _ => w, fun q => absurd q (by omega), fun q => absurd q (by omega)⟩
theorem t_v.m9 {k : Nat} {v : Int} (z : 514 ≤ k ∧ k < 518) (w : 1 ≤ v ∧ v ≤ 5000) : t_v k v := t_v.bb (by omega) ⟨fun q => absurd q (by omega), fun q => absurd q (by omega), fun q => absurd q (by omega), fun _ => w, fun q => absurd q (by omega)⟩
theorem t_v.m10 {k : Nat} {v : Int} (z : 518 ≤ k ∧ k < 558) (w : -100 ≤ v ∧ v ≤ 500) : t_v k v := t_v.bb (by omega) ⟨fun q => absurd q (by omega), fun q => absurd q (by omega), fun q => absurd q (by omega), fun q => absurd q (by omega), fun _ => w⟩
theorem t_v.bc {k : Nat} {v : Int} (z : 558 ≤ k ∧ k < 2478) (w : ((558 ≤ k ∧ k < 1038) ∨ (1518 ≤ k ∧ k < 1998) → 0 ≤ v ∧ v ≤ 10000000) ∧ ((1038 ≤ k ∧ k < 1518) ∨ (1998 ≤ k ∧ k < 2478) → -1 ≤ v ∧ v ≤ 39)) : t_v k v := by
  obtain ⟨h11, h12⟩ := w
  exact ⟨fun q => absurd q (by omega), fun q => absurd q (by omega), fun q => absurd q (by omega), fun q => absurd q (by omega), fun q => absurd q (by omega), fun q => absurd q (by omega), fun q => absurd q (by omega), fun q => absurd q (by omega), fun q => absurd q (by omega), fun q => absurd q (by omega), fun q => absurd q (by omega), h11, h12, fun q => absurd q (by omega), fun q => absurd q (by omega), fun q => absurd q (by omega), fun q => absurd q (by omega), fun q => absurd q (by omega), fun q => absurd q (by omega), fun q => absurd q (by omega), fun q => absurd q (by omega), fun q => absurd q (by omega), fun q => absurd q (by omega), fun q => absurd q (by omega), fun q => absurd q (by omega), fun q => absurd q (by omega), fun q => absurd q (by omega), fun q => absurd q (by omega), fun q => absurd q (by omega), fun q => absurd q (by omega), fun q => absurd q (by omega), fun q => absurd q (by omega), fun q => absurd q (by omega), fun q => absurd q (by omega), fun q => absurd q (by omega), fun q => absurd q (by omega)⟩
theorem t_v.m11 {k : Nat} {v : Int} (z : (558 ≤ k ∧ k < 1038) ∨ (1518 ≤ k ∧ k < 1998)) (w : 0 ≤ v ∧ v ≤ 10000000) : t_v k v := t_v.bc (by omega) ⟨fun _ => w, fun q => absurd q (by omega)⟩
theorem t_v.m12 {k : Nat} {v : Int} (z : (1038 ≤ k ∧ k < 1518) ∨ (1998 ≤ k ∧ k < 2478)) (w : -1 ≤ v ∧ v ≤ 39) : t_v k v := t_v.bc (by omega) ⟨fun q => absurd q (by omega), fun _ => w⟩
theorem t_v.bd {k : Nat} {v : Int} (z : 2478 ≤ k ∧ k < 2838) (w : (2478 ≤ k ∧ k < 2838 ∧ k % 6 = 0 → 0 ≤ v ∧ v ≤ 4) ∧ (2478 ≤ k ∧ k < 2838 ∧ k % 6 = 1 → 0 ≤ v ∧ v ≤ 5) ∧ (2478 ≤ k ∧ k < 2838 ∧ k % 6 = 2 → 0 ≤ v ∧ v ≤ 10000000) ∧ (2478 ≤ k ∧ k < 2838 ∧ 3 ≤ k % 6 → 0 ≤ v ∧ v ≤ 39)) : t_v k v := by
  obtain ⟨h13, h14, h15, h16⟩ := w
  exact ⟨fun q => absurd q (by omega), fun q => absurd q (by omega), fun q => absurd q (by omega), fun q => absurd q (by omega), fun q => absurd q (by omega), fun q => absurd q (by omega), fun q => absurd q (by omega), fun q => absurd q (by omega), fun q => absurd q (by omega), fun q => absurd q (by omega), fun q => absurd q (by omega), fun q => absurd q (by omega), fun q => absurd q (by omega), h13, h14, h15, h16, fun q => absurd q (by omega), fun q => absurd q (by omega), fun q => absurd q (by omega), fun q => absurd q (by omega), fun q => absurd q (by omega), fun q => absurd q (by omega), fun q => absurd q (by omega), fun q => absurd q (by omega), fun q => absurd q (by omega), fun q => absurd q (by omega), fun q => absurd q (by omega), fun q => absurd q (by omega), fun q => absurd q (by omega), fun q => absurd q (by omega), fun q => absurd q (by omega), fun q => absurd q (by omega), fun q => absurd q (by omega), fun q => absurd q (by omega), fun q => absurd q (by omega)⟩
theorem t_v.m13 {k : Nat} {v : Int} (z : 2478 ≤ k ∧ k < 2838 ∧ k % 6 = 0) (w : 0 ≤ v ∧ v ≤ 4) : t_v k v := t_v.bd (by omega) ⟨fun _ => w, fun q => absurd q (by omega), fun q => absurd q (by omega), fun q => absurd q (by omega)⟩
theorem t_v.m14 {k : Nat} {v : Int} (z : 2478 ≤ k ∧ k < 2838 ∧ k % 6 = 1) (w : 0 ≤ v ∧ v ≤ 5) : t_v k v := t_v.bd (by omega) ⟨fun q => absurd q (by omega), fun _ => w, fun q => absurd q (by omega), fun q => absurd q (by omega)⟩
theorem t_v.m15 {k : Nat} {v : Int} (z : 2478 ≤ k ∧ k < 2838 ∧ k % 6 = 2) (w : 0 ≤ v ∧ v ≤ 10000000) : t_v k v := t_v.bd (by omega) ⟨fun q => absurd q (by omega), fun q => absurd q (by omega), fun _ => w, fun q => absurd q (by omega)⟩
theorem t_v.m16 {k : Nat} {v : Int} (z : 2478 ≤ k ∧ k < 2838 ∧ 3 ≤ k % 6) (w : 0 ≤ v ∧ v ≤ 39) : t_v k v := t_v.bd (by omega) ⟨fun q => absurd q (by omega), fun q => absurd q (by omega), fun q => absurd q (by omega), fun _ => w⟩
theorem t_v.be {k : Nat} {v : Int} (z : 2838 ≤ k ∧ k < 3078) (w : (2838 ≤ k ∧ k < 3078 ∧ (k + 2) % 8 = 0 → 0 ≤ v ∧ v ≤ 11) ∧ (2838 ≤ k ∧ k < 3078 ∧ (k + 2) % 8 = 1 → 0 ≤ v ∧ v ≤ 4) ∧ (2838 ≤ k ∧ k < 3078 ∧ (k + 2) % 8 = 2 → 0 ≤ v ∧ v ≤ 39) ∧ (2838 ≤ k ∧ k < 3078 ∧ (k + 2) % 8 = 3 → 0 ≤ v ∧ v ≤ 10000000) ∧ (2838 ≤ k ∧ k < 3078 ∧ (k + 2) % 8 = 4 → 0 ≤ v ∧ v ≤ 1) ∧ (2838 ≤ k ∧ k < 3078 ∧ (k + 2) % 8 = 5 → -1 ≤ v ∧ v ≤ 39) ∧ (2838 ≤ k ∧ k < 3078 ∧ (k + 2) % 8 = 6 → -1 ≤ v ∧ v ≤ 3) ∧ (2838 ≤ k ∧ k < 3078 ∧ (k + 2) % 8 = 7 → -1 ≤ v ∧ v ≤ 39)) : t_v k v := by
  obtain ⟨h17, h18, h19, h20, h21, h22, h23, h24⟩ := w
  exact ⟨fun q => absurd q (by omega), fun q => absurd q (by omega), fun q => absurd q (by omega), fun q => absurd q (by omega), fun q => absurd q (by omega), fun q => absurd q (by omega), fun q => absurd q (by omega), fun q => absurd q (by omega), fun q => absurd q (by omega), fun q => absurd q (by omega), fun q => absurd q (by omega), fun q => absurd q (by omega), fun q => absurd q (by omega), fun q => absurd q (by omega), fun q => absurd q (by omega), fun q => absurd q (by omega), fun q => absurd q (by omega), h17, h18, h19, h20, h21, h22, h23, h24, fun q => absurd q (by omega), fun q => absurd q (by omega), fun q => absurd q (by omega), fun q => absurd q (by omega), fun q => absurd q (by omega), fun q => absurd q (by omega), fun q => absurd q (by omega), fun q => absurd q (by omega), fun q => absurd q (by omega), fun q => absurd q (by omega), fun q => absurd q (by omega)⟩
theorem t_v.m17 {k : Nat} {v : Int} (z : 2838 ≤ k ∧ k < 3078 ∧ (k + 2) % 8 = 0) (w : 0 ≤ v ∧ v ≤ 11) : t_v k v := t_v.be (by omega) ⟨fun _ => w, fun q => absurd q (by omega), fun q => absurd q (by omega), fun q => absurd q (by omega), fun q => absurd q (by omega), fun q => absurd q (by omega), fun q => absurd q (by omega), fun q => absurd q (by omega)⟩
theorem t_v.m18 {k : Nat} {v : Int} (z : 2838 ≤ k ∧ k < 3078 ∧ (k + 2) % 8 = 1) (w : 0 ≤ v ∧ v ≤ 4) : t_v k v := t_v.be (by omega) ⟨fun q => absurd q (by omega), fun _ => w, fun q => absurd q (by omega), fun q => absurd q (by omega), fun q => absurd q (by omega), fun q => absurd q (by omega), fun q => absurd q (by omega), fun q => absurd q (by omega)⟩
theorem t_v.m19 {k : Nat} {v : Int} (z : 2838 ≤ k ∧ k < 3078 ∧ (k + 2) % 8 = 2) (w : 0 ≤ v ∧ v ≤ 39) : t_v k v := t_v.be (by omega) ⟨fun q => absurd q (by omega), fun q => absurd q (by omega), fun _ => w, fun q => absurd q (by omega), fun q => absurd q (by omega), fun q => absurd q (by omega), fun q => absurd q (by omega), fun q => absurd q (by omega)⟩
theorem t_v.m20 {k : Nat} {v : Int} (z : 2838 ≤ k ∧ k < 3078 ∧ (k + 2) % 8 = 3) (w : 0 ≤ v ∧ v ≤ 10000000) : t_v k v := t_v.be (by omega) ⟨fun q => absurd q (by omega), fun q => absurd q (by omega), fun q => absurd q (by omega), fun _ => w, fun q => absurd q (by omega), fun q => absurd q (by omega), fun q => absurd q (by omega), fun q => absurd q (by omega)⟩
theorem t_v.m21 {k : Nat} {v : Int} (z : 2838 ≤ k ∧ k < 3078 ∧ (k + 2) % 8 = 4) (w : 0 ≤ v ∧ v ≤ 1) : t_v k v := t_v.be (by omega) ⟨fun q => absurd q (by omega), fun q => absurd q (by omega), fun q => absurd q (by omega), fun q => absurd q (by omega), fun _ => w, fun q => absurd q (by omega), fun q => absurd q (by omega), fun q => absurd q (by omega)⟩
theorem t_v.m22 {k : Nat} {v : Int} (z : 2838 ≤ k ∧ k < 3078 ∧ (k + 2) % 8 = 5) (w : -1 ≤ v ∧ v ≤ 39) : t_v k v := t_v.be (by omega) ⟨fun q => absurd q (by omega), fun q => absurd q (by omega), fun q => absurd q (by omega), fun q => absurd q (by omega), fun q => absurd q (by omega), fun _ => w, fun q => absurd q (by omega), fun q => absurd q (by omega)⟩
theorem t_v.m23 {k : Nat} {v : Int} (z : 2838 ≤ k ∧ k < 3078 ∧ (k + 2) % 8 = 6) (w : -1 ≤ v ∧ v ≤ 3) : t_v k v := t_v.be (by omega) ⟨fun q => absurd q (by omega), fun q => absurd q (by omega), fun q => absurd q (by omega), fun q => absurd q (by omega), fun q => absurd q (by omega), fun q => absurd q (by omega), fun _ => w, fun q => absurd q (by omega)⟩
theorem t_v.m24 {k : Nat} {v : Int} (z : 2838 ≤ k ∧ k < 3078 ∧ (k + 2) % 8 = 7) (w : -1 ≤ v ∧ v ≤ 39) : t_v k v := t_v.be (by omega) ⟨fun q => absurd q (by omega), fun q => absurd q (by omega), fun q => absurd q (by omega), fun q => absurd q (by omega), fun q => absurd q (by omega), fun q => absurd q (by omega), fun q => absurd q (by omega), fun _ => w⟩
theorem t_v.bf {k : Nat} {v : Int} (z : 3078 ≤ k ∧ k < 3258) (w : (3078 ≤ k ∧ k < 3258 ∧ k % 3 = 0 → 0 ≤ v ∧ v ≤ 29) ∧ (3078 ≤ k ∧ k < 3258 ∧ k % 3 = 1 → 0 ≤ v ∧ v ≤ 4) ∧ (3078 ≤ k ∧ k < 3258 ∧ k % 3 = 2 → 0 ≤ v ∧ v ≤ 39)) : t_v k v := by
  obtain ⟨h25, h26, h27⟩ := w
  exact ⟨fun q => absurd q (by omega), fun q => absurd q (by omega), fun q => absurd q (by omega), fun q => absurd q (by omega), fun q => absurd q (by omega), fun q => absurd q (by omega), fun q => absurd q (by omega), fun q => absurd q (by omega), fun q => absurd q (by omega), fun q => absurd q (by omega), fun q => absurd q (by omega), fun q => absurd q (by omega), fun q => absurd q (by omega), fun q => absurd q (by omega), fun q => absurd q (by omega), fun q => absurd q (by omega), fun q => absurd q (by omega), fun q => absurd q (by omega), fun q => absurd q (by omega), fun q => absurd q (by omega), fun q => absurd q (by omega), fun q => absurd q (by omega), fun q => absurd q (by omega), fun q => absurd q (by omega), fun q => absurd q (by omega), h25, h26, h27, fun q => absurd q (by omega), fun q => absurd q (by omega), fun q => absurd q (by omega), fun q => absurd q (by omega), fun q => absurd q (by omega), fun q => absurd q (by omega), fun q => absurd q (by omega), fun q => absurd q (by omega)⟩
theorem t_v.m25 {k : Nat} {v : Int} (z : 3078 ≤ k ∧ k < 3258 ∧ k % 3 = 0) (w : 0 ≤ v ∧ v ≤ 29) : t_v k v := t_v.bf (by omega) ⟨fun _ => w, fun q => absurd q (by omega), fun q => absurd q (by omega)⟩
theorem t_v.m26 {k : Nat} {v : Int} (z : 3078 ≤ k ∧ k < 3258 ∧ k % 3 = 1) (w : 0 ≤ v ∧ v ≤ 4) : t_v k v := t_v.bf (by omega) ⟨fun q => absurd q (by omega), fun _ => w, fun q => absurd q (by omega)⟩
theorem t_v.m27 {k : Nat} {v : Int} (z : 3078 ≤ k ∧ k < 3258 ∧ k % 3 = 2) (w : 0 ≤ v ∧ v ≤ 39) : t_v k v := t_v.bf (by omega) ⟨fun q => absurd q (by omega), fun q => absurd q (by omega), fun _ => w⟩
theorem t_v.bg {k : Nat} {v : Int} (z : 3258 ≤ k ∧ k < 3513) (w : (3258 ≤ k ∧ k < 3508 → 0 ≤ v ∧ v ≤ 127) ∧ (3508 ≤ k ∧ k < 3513 → 0 ≤ v ∧ v ≤ 50)) : t_v k v := by
  obtain ⟨h28, h29⟩ := w
  exact ⟨fun q => absurd q (by omega), fun q => absurd q (by omega), fun q => absurd q (by omega), fun q => absurd q (by omega), fun q => absurd q (by omega), fun q => absurd q (by omega), fun q => absurd q (by omega), fun q => absurd q (by omega), fun q => absurd q (by omega), fun q => absurd q (by omega), fun q => absurd q (by omega), fun q => absurd q (by omega), fun q => absurd q (by omega), fun q => absurd q (by omega), fun q => absurd q (by omega), fun q => absurd q (by omega), fun q => absurd q (by omega), fun q => absurd q (by omega), fun q => absurd q (by omega), fun q => absurd q (by omega), fun q => absurd q (by omega), fun q => absurd q (by omega), fun q => absurd q (by omega), fun q => absurd q (by omega), fun q => absurd q (by omega), fun q => absurd q (by omega), fun q => absurd q (by omega), fun q => absurd q (by omega), h28, h29, fun q => absurd q (by omega), fun q => absurd q (by omega), fun q => absurd q (by omega), fun q => absurd q (by omega), fun q => absurd q (by omega), fun q => absurd q (by omega)⟩
theorem t_v.m28 {k : Nat} {v : Int} (z : 3258 ≤ k ∧ k < 3508) (w : 0 ≤ v ∧ v ≤ 127) : t_v k v := t_v.bg (by omega) ⟨fun _ => w, fun q => absurd q (by omega)⟩
theorem t_v.m29 {k : Nat} {v : Int} (z : 3508 ≤ k ∧ k < 3513) (w : 0 ≤ v ∧ v ≤ 50) : t_v k v := t_v.bg (by omega) ⟨fun q => absurd q (by omega), fun _ => w⟩
theorem t_v.bh {k : Nat} {v : Int} (z : 3513 ≤ k ∧ k < 3573) (w : (3513 ≤ k ∧ k < 3573 ∧ k % 3 = 0 → 0 ≤ v ∧ v ≤ 3) ∧ (3513 ≤ k ∧ k < 3573 ∧ k % 3 = 1 → 0 ≤ v ∧ v ≤ 39) ∧ (3513 ≤ k ∧ k < 3573 ∧ k % 3 = 2 → 0 ≤ v ∧ v ≤ 1000000000)) : t_v k v := by
  obtain ⟨h30, h31, h32⟩ := w
  exact ⟨fun q => absurd q (by omega), fun q => absurd q (by omega), fun q => absurd q (by omega), fun q => absurd q (by omega), fun q => absurd q (by omega), fun q => absurd q (by omega), fun q => absurd q (by omega), fun q => absurd q (by omega), fun q => absurd q (by omega), fun q => absurd q (by omega), fun q => absurd q (by omega), fun q => absurd q (by omega), fun q => absurd q (by omega), fun q => absurd q (by omega), fun q => absurd q (by omega), fun q => absurd q (by omega), fun q => absurd q (by omega), fun q => absurd q (by omega), fun q => absurd q (by omega), fun q => absurd q (by omega), fun q => absurd q (by omega), fun q => absurd q (by omega), fun q => absurd q (by omega), fun q => absurd q (by omega), fun q => absurd q (by omega), fun q => absurd q (by omega), fun q => absurd q (by omega), fun q => absurd q (by omega), fun q => absurd q (by omega), fun q => absurd q (by omega), h30, h31, h32, fun q => absurd q (by omega), fun q => absurd q (by omega), fun q => absurd q (by omega)⟩
theorem t_v.m30 {k : Nat} {v : Int} (z : 3513 ≤ k ∧ k < 3573 ∧ k % 3 = 0) (w : 0 ≤ v ∧ v ≤ 3) : t_v k v := t_v.bh (by omega) ⟨fun _ => w, fun q => absurd q (by omega), fun q => absurd q (by omega)⟩
theorem t_v.m31 {k : Nat} {v : Int} (z : 3513 ≤ k ∧ k < 3573 ∧ k % 3 = 1) (w : 0 ≤ v ∧ v ≤ 39) : t_v k v := t_v.bh (by omega) ⟨fun q => absurd q (by omega), fun _ => w, fun q => absurd q (by omega)⟩
theorem t_v.m32 {k : Nat} {v : Int} (z : 3513 ≤ k ∧ k < 3573 ∧ k % 3 = 2) (w : 0 ≤ v ∧ v ≤ 1000000000) : t_v k v := t_v.bh (by omega) ⟨fun q => absurd q (by omega), fun q => absurd q (by omega), fun _ => w⟩
theorem t_v.bi {k : Nat} {v : Int} (z : 3573 ≤ k) (w : (3573 ≤ k ∧ k < 3733 → 0 ≤ v ∧ v ≤ 10000000) ∧ (3733 ≤ k ∧ k < 3745 → 0 ≤ v ∧ v ≤ 10) ∧ (3745 ≤ k ∧ k < 3754 → 0 ≤ v ∧ v ≤ 10000000)) : t_v k v := by
  obtain ⟨h33, h34, h35⟩ := w
  exact ⟨fun q => absurd q (by omega), fun q => absurd q (by omega), fun q => absurd q (by omega), fun q => absurd q (by omega), fun q => absurd q (by omega), fun q => absurd q (by omega), fun q => absurd q (by omega), fun q => absurd q (by omega), fun q => absurd q (by omega), fun q => absurd q (by omega), fun q => absurd q (by omega), fun q => absurd q (by omega), fun q => absurd q (by omega), fun q => absurd q (by omega), fun q => absurd q (by omega), fun q => absurd q (by omega), fun q => absurd q (by omega), fun q => absurd q (by omega), fun q => absurd q (by omega), fun q => absurd q (by omega), fun q => absurd q (by omega), fun q => absurd q (by omega), fun q => absurd q (by omega), fun q => absurd q (by omega), fun q => absurd q (by omega), fun q => absurd q (by omega), fun q => absurd q (by omega), fun q => absurd q (by omega), fun q => absurd q (by omega), fun q => absurd q (by omega), fun q => absurd q (by omega), fun q => absurd q (by omega), fun q => absurd q (by omega), h33, h34, h35⟩
theorem t_v.m33 {k : Nat} {v : Int} (z : 3573 ≤ k ∧ k < 3733) (w : 0 ≤ v ∧ v ≤ 10000000) : t_v k v := t_v.bi (by omega) ⟨fun _ => w, fun q => absurd q (by omega), fun q => absurd q (by omega)⟩
theorem t_v.m34 {k : Nat} {v : Int} (z : 3733 ≤ k ∧ k < 3745) (w : 0 ≤ v ∧ v ≤ 10) : t_v k v := t_v.bi (by omega) ⟨fun q => absurd q (by omega), fun _ => w, fun q => absurd q (by omega)⟩
theorem t_v.m35 {k : Nat} {v : Int} (z : 3745 ≤ k ∧ k < 3754) (w : 0 ≤ v ∧ v ≤ 10000000) : t_v k v := t_v.bi (by omega) ⟨fun q => absurd q (by omega), fun q => absurd q (by omega), fun _ => w⟩
theorem t_ok.up {f f' : Nat → Int32} (h : t_ok f) (e : ∀ k, k < 3760 → f' k = f k ∨ t_v k (f' k).toInt) : t_ok f' := ⟨(), fun k hk => by
  rcases e k hk with q | q
  · rw [q]; exact h.v hk
  · exact q⟩
/-- the plan of a loan in a year, as the reference finds it -/
def r_plm (f : Nat → Int32) (l y : Nat) : Nat → Int32
  | 0 => f (2839 + 8 * l)
  | m + 1 => if (f (3078 + 3 * m)).toInt = (l : Int) ∧ (f (3080 + 3 * m)).toInt ≤ (y : Int) then f (3079 + 3 * m) else r_plm f l y m
theorem r_plm_cg {f f' : Nat → Int32} {l y : Nat} (h0 : f' (2839 + 8 * l) = f (2839 + 8 * l)) : ∀ m, (∀ k, 3078 ≤ k → k < 3078 + 3 * m → f' k = f k) → r_plm f' l y m = r_plm f l y m
  | 0, _ => h0
  | m + 1, h => by
    unfold r_plm
    rw [h (3078 + 3 * m) (by omega) (by omega), h (3079 + 3 * m) (by omega) (by omega), h (3080 + 3 * m) (by omega) (by omega), r_plm_cg h0 m (fun k z1 z2 => h k z1 (by omega))]
def t_rel (g f : Nat → Int32) : Prop := ∃ _ : Unit, (∀ l : Nat, l < 30 → (l : Int) < (f 1).toInt → (f (2838 + 8 * l)).toInt < (f 0).toInt) ∧ (∀ m : Nat, m < 60 → (m : Int) < (f 3).toInt → (f (3078 + 3 * m)).toInt < (f 1).toInt) ∧ (∀ a : Nat, a < 60 → am_isNum (f (2479 + 6 * a)) (f (2480 + 6 * a))) ∧ ∀ l : Nat, l < 30 → (l : Int) < (f 1).toInt → ∀ y : Nat, y < 40 → g (40 * l + y) = r_plm f l y (f 3).toNatClampNeg
/-- places that tell of each other -/
def t_dep (k : Nat) : Prop := k = 0 ∨ k = 1 ∨ k = 3 ∨ (2478 ≤ k ∧ k < 2838) ∨ (2838 ≤ k ∧ k < 3078 ∧ (k + 2) % 8 ≤ 1) ∨ (3078 ≤ k ∧ k < 3258)
theorem t_rel.cg {g g' f f' : Nat → Int32} (h : t_rel g f) (ok : t_ok f) (hg : ∀ k, k < 1200 → g' k = g k) (hf : ∀ k, k < 3760 → t_dep k → f' k = f k) : t_rel g' f' := by
  obtain ⟨-, h1, h2, h3, h4⟩ := h
  have e0 : f' 0 = f 0 := hf 0 (by decide) (Or.inl rfl)
  have e1 : f' 1 = f 1 := hf 1 (by decide) (Or.inr (Or.inl rfl))
  have e3 : f' 3 = f 3 := hf 3 (by decide) (Or.inr (Or.inr (Or.inl rfl)))
  have b3 := (ok.v (k := 3) (by decide)).a3 rfl
  have c3 := i_clamp b3.1
  refine ⟨(), fun l hl z => ?_, fun m hm z => ?_, fun a ha => ?_, fun l hl z y hy => ?_⟩
  · rw [e1] at z
    rw [e0, hf (2838 + 8 * l) (by omega) (by unfold t_dep; omega)]
    exact h1 l hl z
  · rw [e3] at z
    rw [e1, hf (3078 + 3 * m) (by omega) (by unfold t_dep; omega)]
    exact h2 m hm z
  · rw [hf (2479 + 6 * a) (by omega) (by unfold t_dep; omega), hf (2480 + 6 * a) (by omega) (by unfold t_dep; omega)]
    exact h3 a ha
  · rw [e1] at z
    rw [e3, hg _ (by omega), h4 l hl z y hy]
    exact (r_plm_cg (hf _ (by omega) (by unfold t_dep; omega)) _ (fun k z1 z2 => hf k (by omega) (by unfold t_dep; omega))).symm
/-- what is told: the class's block b in A, the reference's array r from o on in B -/
def lb (b r o : Nat) (A B : am_M) : Prop := ∃ _ : Unit, rl b r o A B ∧ t_ok (fun k => B.1 r (o + k)) ∧ t_rel (A.1 (b + 17)) (fun k => B.1 r (o + k)) ∧ (∀ k, k < 1200 → am_in (A.1 (b + 17) k) 5) ∧ ∀ t, t < 5 → am_rg (A.1 (b + (19 + 3 * t)) 2) 50
theorem lb.r {b r o : Nat} {A B : am_M} (h : lb b r o A B) : rl b r o A B := by obtain ⟨-, h, -⟩ := h; exact h
theorem lb.t {b r o : Nat} {A B : am_M} (h : lb b r o A B) : t_ok (fun k => B.1 r (o + k)) := by obtain ⟨-, -, h, -⟩ := h; exact h
theorem lb.l {b r o : Nat} {A B : am_M} (h : lb b r o A B) : t_rel (A.1 (b + 17)) (fun k => B.1 r (o + k)) := by obtain ⟨-, -, -, h, -⟩ := h; exact h
theorem lb.p {b r o : Nat} {A B : am_M} (h : lb b r o A B) {k : Nat} (hk : k < 1200) : am_in (A.1 (b + 17) k) 5 := by obtain ⟨-, -, -, -, h, -⟩ := h; exact h k hk
theorem lb.c {b r o : Nat} {A B : am_M} (h : lb b r o A B) {t : Nat} (ht : t < 5) : am_rg (A.1 (b + (19 + 3 * t)) 2) 50 := by obtain ⟨-, -, -, -, -, h⟩ := h; exact h t ht
theorem lb.a {b r o : Nat} {A B : am_M} (h : lb b r o A B) : (A.1 (b + 11) 2).toNatClampNeg ≤ 60 := by
  have q := (h.t.v (k := 2) (by decide)).a2 rfl
  have e : A.1 (b + 11) 2 = B.1 r (o + 2) := by obtain ⟨-, -, e, -⟩ := h.r; exact e
  rw [e]
  have c := i_clamp q.1
  omega
theorem lb.cg {b r o : Nat} {A B A' B' : am_M} (h : lb b r o A B) (h1 : ∀ a k, b ≤ a → a < b + 39 → A'.1 a k = A.1 a k) (h2 : ∀ k, k < 3760 → B'.1 r (o + k) = B.1 r (o + k)) : lb b r o A' B' := by
  have h17 : A'.1 (b + 17) = A.1 (b + 17) := funext fun k => h1 _ k (by omega) (by omega)
  refine ⟨(), h.r.cg h1 (fun k z1 z2 => ?_) h.a, h.t.up (fun k hk => Or.inl (h2 k hk)), h.l.cg h.t (fun k _ => by rw [h17]) (fun k hk _ => h2 k hk), fun k hk => ?_, fun t ht => ?_⟩
  · have e := h2 (k - o) (by omega)
    rwa [show o + (k - o) = k by omega] at e
  · rw [h17]; exact h.p hk
  · rw [h1 _ _ (by omega) (by omega)]; exact h.c ht
/-- a house taken over on both sides -/
theorem lb.cpy {b m r o r' o' : Nat} {A A' B B' : am_M} (h : lb m r o A B) (h1 : ∀ u k, g_hit g_sh0 u k = true → A'.1 (b + u) k = A.1 (m + u) k) (h2 : ∀ k, k < 3760 → B'.1 r' (o' + k) = B.1 r (o + k)) : lb b r' o' A' B' := by
  have hit : ∀ s ∈ g_sh0, ∀ k, s.2.1 ≤ k → k < s.2.1 + s.2.2 → g_hit g_sh0 s.1 k = true := fun s hs k k1 k2 => by
    unfold g_hit
    exact List.any_eq_true.mpr ⟨s, hs, by rw [Bool.and_eq_true, Bool.and_eq_true]; exact ⟨⟨Nat.beq_refl _, Nat.ble_eq.mpr k1⟩, Nat.ble_eq.mpr k2⟩⟩
  have h17 : ∀ k, k < 1200 → A'.1 (b + 17) k = A.1 (m + 17) k := fun k hk => h1 17 k (hit (17, 0, 1200) (by decide) k (Nat.zero_le _) (by show k < 0 + 1200; omega))
  have ht2 : ∀ t, t < 5 → (19 + 3 * t, 2, 1) ∈ g_sh0 := by decide
  refine ⟨(), h.r.cpy h1 h2 h.a, h.t.up (fun k hk => Or.inl (h2 k hk)), h.l.cg h.t h17 (fun k hk _ => h2 k hk), fun k hk => ?_, fun t ht => ?_⟩
  · rw [h17 k hk]; exact h.p hk
  · rw [h1 (19 + 3 * t) 2 (hit (19 + 3 * t, 2, 1) (ht2 t ht) 2 (Nat.le_refl _) (by show 2 < 2 + 1; omega))]; exact h.c ht
/-- a number put on both sides, of which no other tells -/
theorem lb.put {b r o : Nat} {A B : am_M} (h : lb b r o A B) {u k0 b0 n k n1 k1 k2 : Nat} (hq : (u, k0, b0, n) ∈ rl_c) (hk : k < n) (e1 : n1 = b + u) (e2 : k1 = k0 + k) (e3 : k2 = o + (b0 + k)) (v : Int32) (hv : t_v (b0 + k) v.toInt) (hd : ¬ t_dep (b0 + k)) : lb b r o (am_wI A n1 k1 v) (am_wI B r k2 v) := by
  subst e1 e2 e3
  have hn : u ≠ 17 ∧ ∀ t, t < 5 → u = 19 + 3 * t → k0 = 5 := (show ∀ q ∈ rl_c, q.1 ≠ 17 ∧ ∀ t, t < 5 → q.1 = 19 + 3 * t → q.2.1 = 5 by decide) (u, k0, b0, n) hq
  have h17 : (am_wI A (b + u) (k0 + k) v).1 (b + 17) = A.1 (b + 17) := funext fun j => by rw [am_wI_1, if_neg (fun z => hn.1 (by omega))]
  have hB : ∀ j, (am_wI B r (o + (b0 + k)) v).1 r (o + j) = if j = b0 + k then v else B.1 r (o + j) := fun j => by
    rw [am_wI_1]
    by_cases z : j = b0 + k
    · rw [if_pos ⟨rfl, by omega⟩, if_pos z]
    · rw [if_neg (fun q => z (by omega)), if_neg z]
  refine ⟨(), h.r.put hq hk v h.a, h.t.up (fun j hj => ?_), h.l.cg h.t (fun j _ => by rw [h17]) (fun j hj hdj => ?_), fun j hj => ?_, fun t ht => ?_⟩
  · (try dsimp only)
    rw [hB]
    by_cases z : j = b0 + k
    · subst z; rw [if_pos rfl]; exact Or.inr hv
    · rw [if_neg z]; exact Or.inl rfl
  · (try dsimp only)
    rw [hB, if_neg (show ¬ j = b0 + k from fun z => hd (z ▸ hdj))]
  · rw [h17]; exact h.p hj
  · rw [am_wI_1, if_neg (fun z => ?_)]
    · exact h.c ht
    · have := hn.2 t ht (by omega)
      omega
/-- a stretch laid on both sides, of which no other tells -/
theorem lb.lay {b r o : Nat} {A B : am_M} (h : lb b r o A B) {u b0 n n1 : Nat} {lo hi l1 h1 l2 h2 : Int} (hq : (u, 0, b0, n) ∈ rl_c) (h0 : 0 ≤ lo) (hh : hi < (n : Int)) (e1 : n1 = b + u) (e2 : ∀ j : Nat, (l1 ≤ (j : Int) ∧ (j : Int) ≤ h1) ↔ (lo ≤ (j : Int) ∧ (j : Int) ≤ hi)) (e3 : ∀ j : Nat, (l2 ≤ (j : Int) ∧ (j : Int) ≤ h2) ↔ (((o + b0 : Nat) : Int) + lo ≤ (j : Int) ∧ (j : Int) ≤ ((o + b0 : Nat) : Int) + hi)) (v : Int32) (hv : ∀ j : Nat, lo ≤ (j : Int) → (j : Int) ≤ hi → t_v (b0 + j) v.toInt) (hd : ∀ j : Nat, lo ≤ (j : Int) → (j : Int) ≤ hi → ¬ t_dep (b0 + j)) : lb b r o (am_lay A n1 l1 h1 v) (am_lay B r l2 h2 v) := by
  subst e1
  rw [am_lay_eq e2, am_lay_eq e3]
  have hn : u ≠ 17 ∧ ∀ t, t < 5 → u ≠ 19 + 3 * t := (show ∀ q ∈ rl_c, q.2.1 = 0 → q.1 ≠ 17 ∧ ∀ t, t < 5 → q.1 ≠ 19 + 3 * t by decide) (u, 0, b0, n) hq rfl
  have h17 : (am_lay A (b + u) lo hi v).1 (b + 17) = A.1 (b + 17) := funext fun j => by rw [am_lay_1, if_neg (fun z => hn.1 (by omega))]
  have hB : ∀ j : Nat, (am_lay B r (((o + b0 : Nat) : Int) + lo) (((o + b0 : Nat) : Int) + hi) v).1 r (o + j) = if ((b0 : Int) + lo ≤ (j : Int) ∧ (j : Int) ≤ (b0 : Int) + hi) then v else B.1 r (o + j) := fun j => by
    rw [am_lay_1]
    by_cases z : ((b0 : Int) + lo ≤ (j : Int) ∧ (j : Int) ≤ (b0 : Int) + hi)
    · rw [if_pos ⟨rfl, by omega, by omega⟩, if_pos z]
    · rw [if_neg (fun q => z (by omega)), if_neg z]
  have hr := h.r.lay hq lo hi v h0 hh h.a
  rw [show (((u, 0, b0, n) : Nat × Nat × Nat × Nat).2.1 : Int) = 0 from rfl, Int.zero_add, Int.zero_add] at hr
  refine ⟨(), hr, h.t.up (fun j hj => ?_), h.l.cg h.t (fun j _ => by rw [h17]) (fun j hj hdj => ?_), fun j hj => ?_, fun t ht => ?_⟩
  · (try dsimp only)
    rw [hB]
    by_cases z : ((b0 : Int) + lo ≤ (j : Int) ∧ (j : Int) ≤ (b0 : Int) + hi)
    · rw [if_pos z]
      have q := hv (j - b0) (by omega) (by omega)
      rw [show b0 + (j - b0) = j by omega] at q
      exact Or.inr q
    · rw [if_neg z]; exact Or.inl rfl
  · (try dsimp only)
    rw [hB, if_neg (fun z => ?_)]
    have q := hd (j - b0) (by omega) (by omega)
    rw [show b0 + (j - b0) = j by omega] at q
    exact q hdj
  · rw [h17]; exact h.p hj
  · rw [am_lay_1, if_neg (fun z => hn.2 t ht (by omega))]
    exact h.c ht
theorem rl.e {A B : am_M} (h : rl 20 201 0 A B) {o k0 b0 n : Nat} (hq : (o, k0, b0, n) ∈ rl_c) {k : Nat} (hk : k < n) : A.1 (20 + o) (k0 + k) = B.1 201 (b0 + k) := by
  have q := h.c hq hk
  rw [Nat.zero_add] at q
  exact q
/-- the reference's own between calls: nothing is tried, no plan leads -/
def r_N (M : am_M) : Prop := M.1 200 3 = -1 ∧ M.1 200 7 = -1
/-- between calls -/
def LI (i1 i2 : Bool) (M : am_M) : Prop := ∃ _ : Unit, lb 20 201 0 M M ∧ (M.1 31 1 = 6 ∧ M.1 33 1 = 8 ∧ M.1 35 1 = 3 ∧ M.1 54 1 = 3) ∧ (g_sI M ∧ r_N M) ∧ (i1 = true → lb 60 202 0 M M) ∧ (i2 = true → lb 100 202 3760 M M) ∧ M.1 203 0 = (if i1 then 1 else 0) ∧ M.1 203 1 = (if i2 then 1 else 0)
section LIS
variable {i1 i2 : Bool} {M : am_M}
theorem LI.b (h : LI i1 i2 M) : lb 20 201 0 M M := by obtain ⟨-, h, -⟩ := h; exact h
theorem LI.w (h : LI i1 i2 M) : M.1 31 1 = 6 ∧ M.1 33 1 = 8 ∧ M.1 35 1 = 3 ∧ M.1 54 1 = 3 := by obtain ⟨-, -, h, -⟩ := h; exact h
theorem LI.s (h : LI i1 i2 M) : g_sI M := by obtain ⟨-, -, -, ⟨h, -⟩, -⟩ := h; exact h
theorem LI.rn (h : LI i1 i2 M) : r_N M := by obtain ⟨-, -, -, ⟨-, h⟩, -⟩ := h; exact h
theorem LI.n7 (h : LI i1 i2 M) : M.1 200 7 = -1 := h.rn.2
theorem LI.n3t (h : LI i1 i2 M) : M.1 200 3 = -1 := h.rn.1
theorem LI.rs (h : LI i1 i2 M) : r_S M := Or.inl h.rn.2
theorem LI.im (h : LI i1 i2 M) : (i1 = true → lb 60 202 0 M M) ∧ (i2 = true → lb 100 202 3760 M M) ∧ M.1 203 0 = (if i1 then 1 else 0) ∧ M.1 203 1 = (if i2 then 1 else 0) := by obtain ⟨-, -, -, -, h1, h2, h3, h4⟩ := h; exact ⟨h1, h2, h3, h4⟩
theorem LI.v (h : LI i1 i2 M) {k : Nat} (hk : k < 3760) : t_v k (M.1 201 k).toInt := by
  have q := h.b.t.v hk
  (try dsimp only at q)
  rwa [Nat.zero_add] at q
theorem LI.e (h : LI i1 i2 M) {o k0 b0 n : Nat} (hq : (o, k0, b0, n) ∈ rl_c) {k : Nat} (hk : k < n) : M.1 (20 + o) (k0 + k) = M.1 201 (b0 + k) := h.b.r.e hq hk
theorem LI.e0 (h : LI i1 i2 M) : M.1 21 7 = M.1 201 0 := h.e (o := 1) (k0 := 7) (b0 := 0) (n := 1) (by decide) (k := 0) (by decide)
theorem LI.e1 (h : LI i1 i2 M) : M.1 33 2 = M.1 201 1 := h.e (o := 13) (k0 := 2) (b0 := 1) (n := 1) (by decide) (k := 0) (by decide)
theorem LI.e2 (h : LI i1 i2 M) : M.1 31 2 = M.1 201 2 := by
  obtain ⟨-, -, e, -⟩ := h.b.r
  exact e
theorem LI.e3 (h : LI i1 i2 M) : M.1 35 2 = M.1 201 3 := h.e (o := 15) (k0 := 2) (b0 := 3) (n := 1) (by decide) (k := 0) (by decide)
theorem LI.e4 (h : LI i1 i2 M) : M.1 54 2 = M.1 201 4 := h.e (o := 34) (k0 := 2) (b0 := 4) (n := 1) (by decide) (k := 0) (by decide)
theorem LI.e5 (h : LI i1 i2 M) : M.1 20 12 = M.1 201 5 := h.e (o := 0) (k0 := 12) (b0 := 5) (n := 1) (by decide) (k := 0) (by decide)
theorem LI.n0 (h : LI i1 i2 M) : 0 ≤ (M.1 201 0).toInt ∧ (M.1 201 0).toInt ≤ 12 := (h.v (k := 0) (by decide)).a0 rfl
theorem LI.n1 (h : LI i1 i2 M) : 0 ≤ (M.1 201 1).toInt ∧ (M.1 201 1).toInt ≤ 30 := (h.v (k := 1) (by decide)).a1 rfl
theorem LI.n2 (h : LI i1 i2 M) : 0 ≤ (M.1 201 2).toInt ∧ (M.1 201 2).toInt ≤ 60 := (h.v (k := 2) (by decide)).a2 rfl
theorem LI.n3 (h : LI i1 i2 M) : 0 ≤ (M.1 201 3).toInt ∧ (M.1 201 3).toInt ≤ 60 := (h.v (k := 3) (by decide)).a3 rfl
theorem LI.n4 (h : LI i1 i2 M) : 0 ≤ (M.1 201 4).toInt ∧ (M.1 201 4).toInt ≤ 20 := (h.v (k := 4) (by decide)).a4 rfl
theorem LI.n5 (h : LI i1 i2 M) : 0 ≤ (M.1 201 5).toInt ∧ (M.1 201 5).toInt ≤ 9 := (h.v (k := 5) (by decide)).a5 rfl
theorem LI.T (h : LI i1 i2 M) : r_T M := by
  refine ⟨(), ⟨am_rg.o h.n0.1 h.n0.2, am_rg.o h.n1.1 h.n1.2, am_rg.o h.n2.1 h.n2.2, am_rg.o h.n3.1 h.n3.2, am_rg.o h.n4.1 h.n4.2, am_rg.o h.n5.1 h.n5.2⟩, fun k hk => ?_, fun l hl => ⟨?_, ?_⟩, fun m hm => ?_, fun t ht => ?_⟩
  · have q := (h.v (k := 34 + k) (by omega)).a8 ⟨by omega, by omega⟩
    exact ⟨q.1, by omega⟩
  · have q := (h.v (k := 2838 + 8 * l) (by omega)).a17 ⟨by omega, by omega, by omega⟩
    exact ⟨q.1, by omega⟩
  · have q := (h.v (k := 2839 + 8 * l) (by omega)).a18 ⟨by omega, by omega, by omega⟩
    exact ⟨q.1, by omega⟩
  · have q := (h.v (k := 3079 + 3 * m) (by omega)).a26 ⟨by omega, by omega, by omega⟩
    exact ⟨q.1, by omega⟩
  · have q := (h.v (k := 3508 + t) (by omega)).a29 ⟨by omega, by omega⟩
    exact am_rg.o q.1 q.2
theorem LI.i (h : LI i1 i2 M) : r_I M := ⟨(), h.T, h.rs⟩
theorem LI.h (h : LI i1 i2 M) : g_hI M := by
  have hw := h.w
  refine ⟨(), ?_, ⟨hw.1, ?_⟩, ⟨hw.2.1, ?_⟩, ⟨hw.2.2.1, ?_⟩, ⟨hw.2.2.2, ?_⟩, ?_, fun l hl => ?_⟩
  · rw [h.e0]; exact am_rg.o h.n0.1 h.n0.2
  · rw [h.e2]; exact am_rg.o h.n2.1 h.n2.2
  · rw [h.e1]; exact am_rg.o h.n1.1 h.n1.2
  · rw [h.e3]; exact am_rg.o h.n3.1 h.n3.2
  · rw [h.e4]; exact am_rg.o h.n4.1 h.n4.2
  · rw [h.e5]; exact am_rg.o h.n5.1 h.n5.2
  · have e := h.e (o := 14) (k0 := 0) (b0 := 2838) (n := 240) (by decide) (k := 8 * l) (by omega)
    rw [Nat.zero_add] at e
    rw [show M.1 34 (8 * l) = M.1 201 (2838 + 8 * l) from e]
    exact (h.i.lo hl).1
theorem LI.g (h : LI i1 i2 M) : g_rI M := by
  have hi := h.i
  have tx : ∀ t, t < 5 → (19 + 3 * t, 5, 3508 + t, 1) ∈ rl_c → am_t0 M (39 + 3 * t) := fun t ht hq => by
    have e := h.e hq (k := 0) (by decide)
    have n : 20 + (19 + 3 * t) = 39 + 3 * t := by omega
    have e' : M.1 (39 + 3 * t) 5 = M.1 201 (3508 + t) := by rw [← n]; exact e
    have c := h.b.c ht
    rw [n] at c
    have q := hi.tx ht
    rw [← e'] at q
    exact ⟨(), c.i, q⟩
  refine ⟨(), ⟨(), fun k hk => h.b.p hk, fun k hk => ?_, tx 0 (by decide) (by decide), tx 1 (by decide) (by decide), tx 2 (by decide) (by decide), tx 3 (by decide) (by decide), tx 4 (by decide) (by decide)⟩, h.s⟩
  have e := h.e (o := 4) (k0 := 0) (b0 := 34) (n := 480) (by decide) (k := k) hk
  rw [Nat.zero_add] at e
  rw [show M.1 24 k = M.1 201 (34 + k) from e]
  exact hi.ld hk
/-- the class's half of a call done, the reference still as it was -/
theorem LI.ri (h : LI i1 i2 M) {N : am_M} (e : ∀ a k, 200 ≤ a → N.1 a k = M.1 a k) : r_I N := by
  refine ⟨(), h.T.cg (fun k => e 201 k (by decide)), ?_⟩
  have q := h.rs
  unfold r_S at q ⊢
  rw [e 200 7 (by decide)]
  exact q
theorem LI.up (h : LI i1 i2 M) {F : am_M} (hl : lb 20 201 0 F F) (hw : ∀ a, a = 31 ∨ a = 33 ∨ a = 35 ∨ a = 54 → F.1 a 1 = M.1 a 1) (hs : g_sI F) (hr : r_N F) (hi : ∀ a k, (59 ≤ a ∧ a < 140) ∨ a = 202 ∨ a = 203 → F.1 a k = M.1 a k) : LI i1 i2 F := by
  obtain ⟨m1, m2, m3, m4⟩ := h.im
  obtain ⟨w1, w2, w3, w4⟩ := h.w
  refine ⟨(), hl, ⟨?_, ?_, ?_, ?_⟩, ⟨hs, hr⟩, fun z => (m1 z).cg (fun a k z1 z2 => hi a k (by omega)) (fun k hk => hi 202 _ (by omega)), fun z => (m2 z).cg (fun a k z1 z2 => hi a k (by omega)) (fun k hk => hi 202 _ (by omega)), ?_, ?_⟩
  · rw [hw 31 (by omega)]; exact w1
  · rw [hw 33 (by omega)]; exact w2
  · rw [hw 35 (by omega)]; exact w3
  · rw [hw 54 (by omega)]; exact w4
  · rw [hi 203 0 (by omega)]; exact m3
  · rw [hi 203 1 (by omega)]; exact m4
theorem g_sI.cg {M M' : am_M} (h : g_sI M) (e : ∀ a k, 4 ≤ a → a ≤ 8 → M'.1 a k = M.1 a k) : g_sI M' := by
  obtain ⟨-, b1, b2, b3, b4, b5, b6, b7, b8, b9⟩ := h
  refine ⟨(), ?_, fun k hk => ?_, fun k hk => ?_, ?_, ?_, ?_, ?_, ?_, ?_⟩
  all_goals rw [e _ _ (by decide) (by decide)]
  · exact b1
  · exact b2 k hk
  · exact b3 k hk
  · exact b4
  · exact b5
  · exact b6
  · exact b7
  · exact b8
  · exact b9
/-- told on both sides: what is put stands in A and in B -/
theorem LI.told (h : LI i1 i2 M) {F A B : am_M} (hl : lb 20 201 0 A B) (hA : ∀ a k, 20 ≤ a → a < 59 → F.1 a k = A.1 a k) (hB : ∀ k, F.1 201 k = B.1 201 k) (ho : ∀ a k, (a < 20 ∨ 59 ≤ a) → a ≠ 201 → F.1 a k = M.1 a k) (hw : ∀ a, a = 31 ∨ a = 33 ∨ a = 35 ∨ a = 54 → F.1 a 1 = M.1 a 1) : LI i1 i2 F := by
  refine h.up (hl.cg (fun a k z1 z2 => hA a k z1 (by omega)) (fun k _ => hB _)) hw (h.s.cg (fun a k z1 z2 => ho a k (by omega) (by omega))) ?_ (fun a k z => ho a k (by omega) (by omega))
  exact ⟨(ho 200 3 (by omega) (by omega)).trans h.rn.1, (ho 200 7 (by omega) (by omega)).trans h.rn.2⟩
/-- asked: the class's own has changed -/
theorem LI.sv (h : LI i1 i2 M) {N : am_M} (c : ∀ a k, 11 ≤ a → N.1 a k = M.1 a k) (hg : g_rI N) : LI i1 i2 N := by
  refine h.up (h.b.cg (fun a k z1 z2 => c a k (by omega)) (fun k _ => c 201 _ (by decide))) (fun a z => c a 1 (by omega)) hg.s ?_ (fun a k z => c a k (by omega))
  exact ⟨(c 200 3 (by decide)).trans h.rn.1, (c 200 7 (by decide)).trans h.rn.2⟩
theorem LI.sc (h : LI i1 i2 M) {N : am_M} (c : g_sc M N) (hg : g_rI N) : LI i1 i2 N := h.sv (fun _ k z => c.i k z) hg
theorem LI.gv (h : LI i1 i2 M) {N : am_M} (c : g_sv M N) (hg : g_rI N) : LI i1 i2 N := by
  obtain ⟨-, c⟩ := c
  exact h.sv (fun a k z => (c a k z).1) hg
/-- asked: the act that was tried stands behind the acts -/
theorem LI.sa (h : LI i1 i2 M) {N : am_M} (c : g_sa M N) (hg : g_rI N) : LI i1 i2 N := by
  obtain ⟨-, c⟩ := c
  have cc : ∀ a k, 11 ≤ a → a ≠ 32 → N.1 a k = M.1 a k := fun a k z1 z2 => (c a k z1 (fun q => absurd q z2)).1
  have hb := h.b
  have e2 : N.1 31 2 = M.1 31 2 := cc 31 2 (by decide) (by decide)
  refine h.up ⟨(), ?_, hb.t.up (fun k hk => Or.inl (cc 201 _ (by decide) (by decide))), hb.l.cg hb.t (fun k _ => cc 37 k (by decide) (by decide)) (fun k hk _ => cc 201 _ (by decide) (by decide)), fun k hk => ?_, fun t ht => ?_⟩ (fun a z => cc a 1 (by omega) (by omega)) hg.s ?_ (fun a k z => cc a k (by omega) (by omega))
  · obtain ⟨-, a1, a2, a3⟩ := hb.r
    refine ⟨(), fun q hq k hk => ?_, ?_, fun k hk => ?_⟩
    · rw [cc (20 + q.1) _ (by omega) (fun z => (rl_c_off q hq).2.1 (by omega)), cc 201 _ (by decide) (by decide)]
      exact a1 q hq k hk
    · rw [e2, cc 201 _ (by decide) (by decide)]
      exact a2
    · rw [e2] at hk
      rw [cc 201 _ (by decide) (by decide), (c 32 k (by decide) (fun _ => hk)).1]
      exact a3 k hk
  · rw [cc 37 k (by decide) (by decide)]; exact hb.p hk
  · rw [cc _ _ (by omega) (by omega)]; exact hb.c ht
  · exact ⟨(cc 200 3 (by decide) (by decide)).trans h.rn.1, (cc 200 7 (by decide) (by decide)).trans h.rn.2⟩
/-- asked: the reference's own has changed -/
theorem LI.rc (h : LI i1 i2 M) {N : am_M} (c : r_sc M N) : LI i1 i2 N := by
  have e : ∀ a k, (a < 200 ∨ (201 ≤ a ∧ a ≤ 203)) → N.1 a k = M.1 a k := fun a k z => (c.g a k z).1
  exact h.up (h.b.cg (fun a k z1 z2 => e a k (by omega)) (fun k _ => e 201 _ (by omega))) (fun a z => e a 1 (by omega)) (h.s.cg (fun a k z1 z2 => e a k (by omega))) ⟨c.f3.trans h.rn.1, c.f7.trans h.rn.2⟩ (fun a k z => e a k (by omega))
end LIS
