/-! words by their places; helpers -/
theorem am_in_r (ws : List Cond) (ps : List Nat) (hp : ws = ps.filterMap (fun i => lw_tbl[i]?)) (h : ws.all goodWord = true) : ∀ w ∈ ws, w ∈ am_ws := by
  intro w hw
  have h1 := List.all_eq_true.mp h w hw
  rw [hp] at hw
  obtain ⟨i, -, hi⟩ := List.mem_filterMap.mp hw
  exact am_wsi (List.mem_of_getElem? hi) h1
theorem am_w4 {a b c d : Cond} (h1 : a ∈ am_ws) (h2 : b ∈ am_ws) (h3 : c ∈ am_ws) (h4 : d ∈ am_ws) : ∀ w ∈ ([a, b, c, d] : List Cond), w ∈ am_ws := by
  intro w hw
  simp only [List.mem_cons, List.not_mem_nil, or_false] at hw
  rcases hw with rfl | rfl | rfl | rfl <;> assumption
theorem am_w5 {a b c d e : Cond} (h1 : a ∈ am_ws) (h2 : b ∈ am_ws) (h3 : c ∈ am_ws) (h4 : d ∈ am_ws) (h5 : e ∈ am_ws) : ∀ w ∈ ([a, b, c, d, e] : List Cond), w ∈ am_ws := by
  intro w hw
  simp only [List.mem_cons, List.not_mem_nil, or_false] at hw
  rcases hw with rfl | rfl | rfl | rfl | rfl <;> assumption
theorem am_kc {P : Nat × am_S → Prop} {a : Nat × am_S} {l : am_code} (h : P a) (hl : ∀ q ∈ l, P q) : ∀ q ∈ a :: l, P q := fun q hq => by
  rcases List.mem_cons.mp hq with rfl | h2
  · exact h
  · exact hl q h2
theorem am_wt1 {w : Cond} (h : w ∈ tables_1_1) (hg : goodWord w = true) : w ∈ am_ws := by
  refine am_wsi ?_ hg
  show w ∈ k2_sels lw_privs ++ (tables_1_1 ++ (tables_1_2 ++ (tables_1_3 ++ (tables_1_4 ++ (tables_1_5 ++ (tables_1_6))))))
  exact List.mem_append_right _ (List.mem_append_left _ h)
theorem am_wt2 {w : Cond} (h : w ∈ tables_1_2) (hg : goodWord w = true) : w ∈ am_ws := by
  refine am_wsi ?_ hg
  show w ∈ k2_sels lw_privs ++ (tables_1_1 ++ (tables_1_2 ++ (tables_1_3 ++ (tables_1_4 ++ (tables_1_5 ++ (tables_1_6))))))
  exact List.mem_append_right _ (List.mem_append_right _ (List.mem_append_left _ h))
theorem am_wt3 {w : Cond} (h : w ∈ tables_1_3) (hg : goodWord w = true) : w ∈ am_ws := by
  refine am_wsi ?_ hg
  show w ∈ k2_sels lw_privs ++ (tables_1_1 ++ (tables_1_2 ++ (tables_1_3 ++ (tables_1_4 ++ (tables_1_5 ++ (tables_1_6))))))
  exact List.mem_append_right _ (List.mem_append_right _ (List.mem_append_right _ (List.mem_append_left _ h)))
theorem am_wt4 {w : Cond} (h : w ∈ tables_1_4) (hg : goodWord w = true) : w ∈ am_ws := by
  refine am_wsi ?_ hg
  show w ∈ k2_sels lw_privs ++ (tables_1_1 ++ (tables_1_2 ++ (tables_1_3 ++ (tables_1_4 ++ (tables_1_5 ++ (tables_1_6))))))
  exact List.mem_append_right _ (List.mem_append_right _ (List.mem_append_right _ (List.mem_append_right _ (List.mem_append_left _ h))))
theorem am_wt5 {w : Cond} (h : w ∈ tables_1_5) (hg : goodWord w = true) : w ∈ am_ws := by
  refine am_wsi ?_ hg
  show w ∈ k2_sels lw_privs ++ (tables_1_1 ++ (tables_1_2 ++ (tables_1_3 ++ (tables_1_4 ++ (tables_1_5 ++ (tables_1_6))))))
  exact List.mem_append_right _ (List.mem_append_right _ (List.mem_append_right _ (List.mem_append_right _ (List.mem_append_right _ (List.mem_append_left _ h)))))
theorem am_wt6 {w : Cond} (h : w ∈ tables_1_6) (hg : goodWord w = true) : w ∈ am_ws := by
  refine am_wsi ?_ hg
  show w ∈ k2_sels lw_privs ++ (tables_1_1 ++ (tables_1_2 ++ (tables_1_3 ++ (tables_1_4 ++ (tables_1_5 ++ (tables_1_6))))))
  exact List.mem_append_right _ (List.mem_append_right _ (List.mem_append_right _ (List.mem_append_right _ (List.mem_append_right _ (List.mem_append_right _ (h))))))
theorem am_kn {P : Nat × am_S → Prop} : ∀ q ∈ ([] : am_code), P q := fun _ h => absurd h List.not_mem_nil
theorem inX0w : ∀ w ∈ u_ws RX0 TX0 13, w ∈ am_ws := am_in_r _ [228, 230, 232, 234, 236, 238, 240, 242, 244, 246, 248, 250, 252] (by decide +kernel) (by decide +kernel)
theorem inX1w : ∀ w ∈ u_ws RX1 TX1 7, w ∈ am_ws := am_in_r _ [275, 277, 279, 281, 283, 285, 287] (by decide +kernel) (by decide +kernel)
theorem inX2w : ∀ w ∈ u_ws RX2 TX2 8, w ∈ am_ws := am_in_r _ [123, 125, 127, 129, 131, 133, 135, 137] (by decide +kernel) (by decide +kernel)
theorem inX3w : ∀ w ∈ u_ws RX3 TX3 3, w ∈ am_ws := am_in_r _ [153, 155, 157] (by decide +kernel) (by decide +kernel)
theorem inX4w : ∀ w ∈ u_ws RX4 TX4 19, w ∈ am_ws := am_in_r _ [316, 318, 320, 322, 324, 326, 328, 330, 332, 334, 336, 338, 340, 342, 344, 346, 348, 350, 352] (by decide +kernel) (by decide +kernel)
theorem inX5w : ∀ w ∈ u_ws RX5 TX5 7, w ∈ am_ws := am_in_r _ [178, 180, 182, 184, 186, 188, 190] (by decide +kernel) (by decide +kernel)
theorem inX6w : ∀ w ∈ u_ws RX6 TX6 9, w ∈ am_ws := am_in_r _ [369, 371, 373, 375, 377, 379, 381, 383, 385] (by decide +kernel) (by decide +kernel)
theorem inX7w : ∀ w ∈ u_ws RX7 TX7 4, w ∈ am_ws := am_in_r _ [394, 396, 398, 400] (by decide +kernel) (by decide +kernel)
theorem inX8w : ∀ w ∈ u_ws RX8 TX8 27, w ∈ am_ws := am_in_r _ [922, 924, 926, 928, 930, 932, 934, 936, 938, 940, 942, 944, 946, 948, 950, 952, 954, 956, 958, 960, 962, 964, 966, 968, 970, 972, 974] (by decide +kernel) (by decide +kernel)
theorem am_z1000 : ¬ (1000 : Int64) = 0 := by decide
