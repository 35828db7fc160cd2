/-! the law: the calls as the law sees them -/
theorem am_Met.imp {y : MethodName} {cc : ByteArray} {nL : Nat} {rt : Option FieldType} {rf rl : Nat} {T T' : am_T} (h : am_Met y cc nL rt rf rl T) (e : ∀ live as M R, T' live as M R → T live as M R) : am_Met y cc nL rt rf rl T' := fun l D cA al B live as M R q => h l D cA al B live as M R (e _ _ _ _ q)
theorem an_Met.imp {y : MethodName} {cc : ByteArray} {nL : Nat} {rt : Option FieldType} {rf rl mc ms : Nat} {T T' : an_T} (h : an_Met y cc nL rt rf rl mc ms T) (e : ∀ live as M R, T' live as M R → T live as M R) : an_Met y cc nL rt rf rl mc ms T' := fun l D cA al B live as M R hc q => h l D cA al B live as M R hc (e _ _ _ _ q)
def TW_person : am_T := fun live as M R => match as with
  | [.ref n, .int a] => ∃ i1 i2, live = (am_lv i1 i2, am_q i1 i2) ∧ n = 0 ∧ LI i1 i2 M ∧ ∀ v N, v = (r_person N a).1 → LI i1 i2 (r_person N a).2 → r_I N → R (some (.int v)) N
  | _ => False
theorem metW_person : am_Met yX7_person cX7_person 3 (some .int) (1) (20) TW_person := metX7_person.imp (fun live as M R q => by
  unfold TW_person at q
  split at q
  · next n a =>
    obtain ⟨i1, i2, rfl, rfl, h, q⟩ := q
    have hs := st_person h a
    exact ⟨⟨_, _, rfl⟩, rfl, ⟨h.h, h.g⟩, q _ _ hs.e hs.l (h.ri hs.c)⟩
  · exact q.elim)
def TW_land : am_T := fun live as M R => match as with
  | [.ref n, .int a, .int b, .int c, .int d] => ∃ i1 i2, live = (am_lv i1 i2, am_q i1 i2) ∧ n = 0 ∧ LI i1 i2 M ∧ ∀ v N, v = (r_land N a b c d).1 → LI i1 i2 (r_land N a b c d).2 → r_I N → R (some (.int v)) N
  | _ => False
theorem metW_land : am_Met yX7_land cX7_land 5 (some .int) (2) (47) TW_land := metX7_land.imp (fun live as M R q => by
  unfold TW_land at q
  split at q
  · next n a b c d =>
    obtain ⟨i1, i2, rfl, rfl, h, q⟩ := q
    have hs := st_land h a b c d
    exact ⟨⟨_, _, rfl⟩, rfl, ⟨h.h, h.g⟩, q _ _ hs.e hs.l (h.ri hs.c)⟩
  · exact q.elim)
def TW_scale : am_T := fun live as M R => match as with
  | [.ref n, .int a, .int b] => ∃ i1 i2, live = (am_lv i1 i2, am_q i1 i2) ∧ n = 0 ∧ LI i1 i2 M ∧ ∀ v N, v = (r_scale N a b).1 → LI i1 i2 (r_scale N a b).2 → r_I N → R (some (.int v)) N
  | _ => False
theorem metW_scale : am_Met yX7_scale cX7_scale 4 (some .int) (1) (22) TW_scale := metX7_scale.imp (fun live as M R q => by
  unfold TW_scale at q
  split at q
  · next n a b =>
    obtain ⟨i1, i2, rfl, rfl, h, q⟩ := q
    have hs := st_scale h a b
    exact ⟨⟨_, _, rfl⟩, rfl, ⟨h.h, h.g⟩, q _ _ hs.e hs.l (h.ri hs.c)⟩
  · exact q.elim)
def TW_prices : am_T := fun live as M R => match as with
  | [.ref n, .int a, .int b] => ∃ i1 i2, live = (am_lv i1 i2, am_q i1 i2) ∧ n = 0 ∧ LI i1 i2 M ∧ ∀ v N, v = (r_prices N a b).1 → LI i1 i2 (r_prices N a b).2 → r_I N → R (some (.int v)) N
  | _ => False
theorem metW_prices : am_Met yX7_prices cX7_prices 4 (some .int) (1) (22) TW_prices := metX7_prices.imp (fun live as M R q => by
  unfold TW_prices at q
  split at q
  · next n a b =>
    obtain ⟨i1, i2, rfl, rfl, h, q⟩ := q
    have hs := st_prices h a b
    exact ⟨⟨_, _, rfl⟩, rfl, ⟨h.h, h.g⟩, q _ _ hs.e hs.l (h.ri hs.c)⟩
  · exact q.elim)
def TW_dies : am_T := fun live as M R => match as with
  | [.ref n, .int a, .int b] => ∃ i1 i2, live = (am_lv i1 i2, am_q i1 i2) ∧ n = 0 ∧ LI i1 i2 M ∧ ∀ v N, v = (r_dies N a b).1 → LI i1 i2 (r_dies N a b).2 → r_I N → R (some (.int v)) N
  | _ => False
theorem metW_dies : am_Met yX7_dies cX7_dies 3 (some .int) (1) (21) TW_dies := metX7_dies.imp (fun live as M R q => by
  unfold TW_dies at q
  split at q
  · next n a b =>
    obtain ⟨i1, i2, rfl, rfl, h, q⟩ := q
    have hs := st_dies h a b
    exact ⟨⟨_, _, rfl⟩, rfl, ⟨h.h, h.g⟩, q _ _ hs.e hs.l (h.ri hs.c)⟩
  · exact q.elim)
def TW_earn : am_T := fun live as M R => match as with
  | [.ref n, .int a, .int b, .int c, .int d] => ∃ i1 i2, live = (am_lv i1 i2, am_q i1 i2) ∧ n = 0 ∧ LI i1 i2 M ∧ ∀ v N, v = (r_earn N a b c d).1 → LI i1 i2 (r_earn N a b c d).2 → r_I N → R (some (.int v)) N
  | _ => False
theorem metW_earn : am_Met yX7_earn cX7_earn 7 (some .int) (1) (21) TW_earn := metX7_earn.imp (fun live as M R q => by
  unfold TW_earn at q
  split at q
  · next n a b c d =>
    obtain ⟨i1, i2, rfl, rfl, h, q⟩ := q
    have hs := st_earn h a b c d
    exact ⟨⟨_, _, rfl⟩, rfl, ⟨h.h, h.g⟩, q _ _ hs.e hs.l (h.ri hs.c)⟩
  · exact q.elim)
def TW_right : am_T := fun live as M R => match as with
  | [.ref n, .int a, .int b, .int c, .int d] => ∃ i1 i2, live = (am_lv i1 i2, am_q i1 i2) ∧ n = 0 ∧ LI i1 i2 M ∧ ∀ v N, v = (r_right N a b c d).1 → LI i1 i2 (r_right N a b c d).2 → r_I N → R (some (.int v)) N
  | _ => False
theorem metW_right : am_Met yX7_right cX7_right 7 (some .int) (1) (21) TW_right := metX7_right.imp (fun live as M R q => by
  unfold TW_right at q
  split at q
  · next n a b c d =>
    obtain ⟨i1, i2, rfl, rfl, h, q⟩ := q
    have hs := st_right h a b c d
    exact ⟨⟨_, _, rfl⟩, rfl, ⟨h.h, h.g⟩, q _ _ hs.e hs.l (h.ri hs.c)⟩
  · exact q.elim)
def TW_earnings : am_T := fun live as M R => match as with
  | [.ref n, .int a, .int b, .int c] => ∃ i1 i2, live = (am_lv i1 i2, am_q i1 i2) ∧ n = 0 ∧ LI i1 i2 M ∧ ∀ v N, v = (r_earnings N a b c).1 → LI i1 i2 (r_earnings N a b c).2 → r_I N → R (some (.int v)) N
  | _ => False
theorem metW_earnings : am_Met yX7_earnings cX7_earnings 4 (some .int) (1) (24) TW_earnings := metX7_earnings.imp (fun live as M R q => by
  unfold TW_earnings at q
  split at q
  · next n a b c =>
    obtain ⟨i1, i2, rfl, rfl, h, q⟩ := q
    have hs := st_earnings h a b c
    exact ⟨⟨_, _, rfl⟩, rfl, ⟨h.h, h.g⟩, q _ _ hs.e hs.l (h.ri hs.c)⟩
  · exact q.elim)
def TW_act : am_T := fun live as M R => match as with
  | [.ref n, .int a, .int b, .int c, .int d, .int e, .int f] => ∃ i1 i2, live = (am_lv i1 i2, am_q i1 i2) ∧ n = 0 ∧ LI i1 i2 M ∧ ∀ v N, v = (r_act N a b c d e f).1 → LI i1 i2 (r_act N a b c d e f).2 → r_I N → R (some (.int v)) N
  | _ => False
theorem metW_act : am_Met yX7_act cX7_act 7 (some .int) (3) (74) TW_act := metX7_act.imp (fun live as M R q => by
  unfold TW_act at q
  split at q
  · next n a b c d e f =>
    obtain ⟨i1, i2, rfl, rfl, h, q⟩ := q
    have hs := st_act h a b c d e f
    exact ⟨⟨_, _, rfl⟩, rfl, ⟨h.h, h.g⟩, q _ _ hs.e hs.l (h.ri hs.c)⟩
  · exact q.elim)
def TW_force : am_T := fun live as M R => match as with
  | [.ref n, .int a, .int b, .int c, .int d] => ∃ i1 i2, live = (am_lv i1 i2, am_q i1 i2) ∧ n = 0 ∧ LI i1 i2 M ∧ ∀ v N, v = (r_force N a b c d).1 → LI i1 i2 N → r_I N → R (some (.int v)) N
  | _ => False
theorem metW_force : am_Met yX7_force cX7_force 5 (some .int) (3) (72) TW_force := metX7_forceE.imp (fun live as M R q => by
  unfold TW_force at q
  split at q
  · next n a b c d =>
    obtain ⟨i1, i2, rfl, rfl, h, q⟩ := q
    refine ⟨⟨_, _, rfl⟩, rfl, ⟨h.h, h.g⟩, h.cA, fun N e hg => ?_⟩
    have l := h.sc e.sc hg
    exact q _ _ (by rw [← c_forceV_cg e]; exact (l.force a b c d).1) l l.i
  · exact q.elim)
def TV_force : am_T := fun live as M R => match as with
  | [.ref n, .int a, .int b, .int c, .int d] => ∃ i1 i2, live = (am_lv i1 i2, am_q i1 i2) ∧ n = 200 ∧ LI i1 i2 M ∧ R (some (.int (r_force M a b c d).1)) M
  | _ => False
theorem metV_force : am_Met yX8_force cX8_force 5 (some .int) (2) (53) TV_force := metX8_forceE.imp (fun live as M R q => by
  unfold TV_force at q
  split at q
  · next n a b c d =>
    obtain ⟨i1, i2, rfl, rfl, h, q⟩ := q
    refine ⟨⟨_, _, rfl⟩, rfl, h.i, ?_⟩
    rw [(h.force a b c d).2]
    exact q
  · exact q.elim)
def TW_loan : am_T := fun live as M R => match as with
  | [.ref n, .int a, .int b, .int c, .int d, .int e] => ∃ i1 i2, live = (am_lv i1 i2, am_q i1 i2) ∧ n = 0 ∧ LI i1 i2 M ∧ (e = 0 ∨ e = 1) ∧ ∀ v N, v = (r_loan N a b c d e).1 → LI i1 i2 (r_loan N a b c d e).2 → r_I N → R (some (.int v)) N
  | _ => False
theorem metW_loan : am_Met yX7_loan cX7_loan 8 (some .int) (2) (47) TW_loan := metX7_loan.imp (fun live as M R q => by
  unfold TW_loan at q
  split at q
  · next n a b c d e =>
    obtain ⟨i1, i2, rfl, rfl, h, hfe, q⟩ := q
    have hs := st_loan h a b c d e hfe
    exact ⟨⟨_, _, rfl⟩, rfl, ⟨h.h, h.g⟩, hfe, q _ _ hs.e hs.l (h.ri hs.c)⟩
  · exact q.elim)
def TW_leave : am_T := fun live as M R => match as with
  | [.ref n, .int a, .int b] => ∃ i1 i2, live = (am_lv i1 i2, am_q i1 i2) ∧ n = 0 ∧ LI i1 i2 M ∧ ∀ v N, v = (r_leave N a b).1 → LI i1 i2 (r_leave N a b).2 → r_I N → R (some (.int v)) N
  | _ => False
theorem metW_leave : am_Met yX7_leave cX7_leave 4 (some .int) (2) (47) TW_leave := metX7_leave.imp (fun live as M R q => by
  unfold TW_leave at q
  split at q
  · next n a b =>
    obtain ⟨i1, i2, rfl, rfl, h, q⟩ := q
    have hs := st_leave h a b
    exact ⟨⟨_, _, rfl⟩, rfl, ⟨h.h, h.g⟩, q _ _ hs.e hs.l (h.ri hs.c)⟩
  · exact q.elim)
def TW_move : am_T := fun live as M R => match as with
  | [.ref n, .int a, .int b, .int c] => ∃ i1 i2, live = (am_lv i1 i2, am_q i1 i2) ∧ n = 0 ∧ LI i1 i2 M ∧ ∀ v N, v = (r_move N a b c).1 → LI i1 i2 (r_move N a b c).2 → r_I N → R (some (.int v)) N
  | _ => False
theorem metW_move : am_Met yX7_move cX7_move 4 (some .int) (2) (47) TW_move := metX7_move.imp (fun live as M R q => by
  unfold TW_move at q
  split at q
  · next n a b c =>
    obtain ⟨i1, i2, rfl, rfl, h, q⟩ := q
    have hs := st_move h a b c
    exact ⟨⟨_, _, rfl⟩, rfl, ⟨h.h, h.g⟩, q _ _ hs.e hs.l (h.ri hs.c)⟩
  · exact q.elim)
def TW_planOf : am_T := fun live as M R => match as with
  | [.ref n, .int a, .int b] => ∃ i1 i2, live = (am_lv i1 i2, am_q i1 i2) ∧ n = 0 ∧ LI i1 i2 M ∧ ∀ v N, v = (r_planOf N a b).1 → LI i1 i2 N → r_I N → R (some (.int v)) N
  | _ => False
theorem metW_planOf : am_Met yX7_planOf cX7_planOf 3 (some .int) (1) (21) TW_planOf := metX7_planOf.imp (fun live as M R q => by
  unfold TW_planOf at q
  split at q
  · next n a b =>
    obtain ⟨i1, i2, rfl, rfl, h, q⟩ := q
    refine ⟨⟨_, _, rfl⟩, rfl, ⟨h.h, h.g⟩, ?_⟩
    rw [(h.planOf a b).2.1]
    exact q _ _ (h.planOf a b).1 h h.i
  · exact q.elim)
def TV_planOf : am_T := fun live as M R => match as with
  | [.ref n, .int a, .int b] => ∃ i1 i2, live = (am_lv i1 i2, am_q i1 i2) ∧ n = 200 ∧ LI i1 i2 M ∧ R (some (.int (r_planOf M a b).1)) M
  | _ => False
theorem metV_planOf : am_Met yX8_planOf cX8_planOf 3 (some .int) (2) (46) TV_planOf := metX8_planOfE.imp (fun live as M R q => by
  unfold TV_planOf at q
  split at q
  · next n a b =>
    obtain ⟨i1, i2, rfl, rfl, h, q⟩ := q
    refine ⟨⟨_, _, rfl⟩, rfl, h.i, ?_⟩
    rw [(h.planOf a b).2.2]
    exact q
  · exact q.elim)
def TW_owes : am_T := fun live as M R => match as with
  | [.ref n, .int a, .int b, .int c, .int d] => ∃ i1 i2, live = (am_lv i1 i2, am_q i1 i2) ∧ n = 0 ∧ LI i1 i2 M ∧ ∀ v N, LI i1 i2 N → R (some (.long v)) N
  | _ => False
theorem metW_owes : am_Met yX7_owes cX7_owes 5 (some .long) (5) (124) TW_owes := metX7_owes.imp (fun live as M R q => by
  unfold TW_owes at q
  split at q
  · next n a b c d =>
    obtain ⟨i1, i2, rfl, rfl, h, q⟩ := q
    exact ⟨⟨_, _, rfl⟩, rfl, ⟨h.h, h.g⟩, fun v N c hg => q v N (h.sc c hg)⟩
  · exact q.elim)
def TV_owes : am_T := fun live as M R => match as with
  | [.ref n, .int a, .int b, .int c, .int d] => ∃ i1 i2, live = (am_lv i1 i2, am_q i1 i2) ∧ n = 200 ∧ LI i1 i2 M ∧ ∀ v N, LI i1 i2 N → R (some (.long v)) N
  | _ => False
theorem metV_owes : am_Met yX8_owes cX8_owes 5 (some .long) (10) (253) TV_owes := metX8_owes.imp (fun live as M R q => by
  unfold TV_owes at q
  split at q
  · next n a b c d =>
    obtain ⟨i1, i2, rfl, rfl, h, q⟩ := q
    exact ⟨⟨_, _, rfl⟩, rfl, h.i, fun v N c _ => q v N (h.rc c)⟩
  · exact q.elim)
def TW_all : am_T := fun live as M R => match as with
  | [.ref n, .int a, .int b, .int c, .int d] => ∃ i1 i2, live = (am_lv i1 i2, am_q i1 i2) ∧ n = 0 ∧ LI i1 i2 M ∧ ∀ v N, LI i1 i2 N → R (some (.long v)) N
  | _ => False
theorem metW_all : am_Met yX7_all cX7_all 5 (some .long) (6) (148) TW_all := metX7_all.imp (fun live as M R q => by
  unfold TW_all at q
  split at q
  · next n a b c d =>
    obtain ⟨i1, i2, rfl, rfl, h, q⟩ := q
    exact ⟨⟨_, _, rfl⟩, rfl, ⟨h.h, h.g⟩, fun v N c hg => q v N (h.sc c hg)⟩
  · exact q.elim)
def TV_all : am_T := fun live as M R => match as with
  | [.ref n, .int a, .int b, .int c, .int d] => ∃ i1 i2, live = (am_lv i1 i2, am_q i1 i2) ∧ n = 200 ∧ LI i1 i2 M ∧ ∀ v N, LI i1 i2 N → R (some (.long v)) N
  | _ => False
theorem metV_all : am_Met yX8_all cX8_all 5 (some .long) (10) (253) TV_all := metX8_all.imp (fun live as M R q => by
  unfold TV_all at q
  split at q
  · next n a b c d =>
    obtain ⟨i1, i2, rfl, rfl, h, q⟩ := q
    exact ⟨⟨_, _, rfl⟩, rfl, h.i, fun v N c _ => q v N (h.rc c)⟩
  · exact q.elim)
def TW_rate : am_T := fun live as M R => match as with
  | [.ref n, .int a, .int b, .int c] => ∃ i1 i2, live = (am_lv i1 i2, am_q i1 i2) ∧ n = 0 ∧ LI i1 i2 M ∧ ∀ v N, LI i1 i2 N → R (some (.int v)) N
  | _ => False
theorem metW_rate : am_Met yX7_rate cX7_rate 4 (some .int) (5) (124) TW_rate := metX7_rate.imp (fun live as M R q => by
  unfold TW_rate at q
  split at q
  · next n a b c =>
    obtain ⟨i1, i2, rfl, rfl, h, q⟩ := q
    exact ⟨⟨_, _, rfl⟩, rfl, ⟨h.h, h.g⟩, fun v N c hg => q v N (h.sc c hg)⟩
  · exact q.elim)
def TV_rate : am_T := fun live as M R => match as with
  | [.ref n, .int a, .int b, .int c] => ∃ i1 i2, live = (am_lv i1 i2, am_q i1 i2) ∧ n = 200 ∧ LI i1 i2 M ∧ ∀ v N, LI i1 i2 N → R (some (.int v)) N
  | _ => False
theorem metV_rate : am_Met yX8_rate cX8_rate 5 (some .int) (10) (253) TV_rate := metX8_rate.imp (fun live as M R q => by
  unfold TV_rate at q
  split at q
  · next n a b c =>
    obtain ⟨i1, i2, rfl, rfl, h, q⟩ := q
    exact ⟨⟨_, _, rfl⟩, rfl, h.i, fun v N c _ => q v N (h.rc c)⟩
  · exact q.elim)
def TW_over : am_T := fun live as M R => match as with
  | [.ref n, .int a, .int b, .int c] => ∃ i1 i2, live = (am_lv i1 i2, am_q i1 i2) ∧ n = 0 ∧ LI i1 i2 M ∧ ∀ v N, LI i1 i2 N → R (some (.long v)) N
  | _ => False
theorem metW_over : am_Met yX7_over cX7_over 4 (some .long) (6) (148) TW_over := metX7_over.imp (fun live as M R q => by
  unfold TW_over at q
  split at q
  · next n a b c =>
    obtain ⟨i1, i2, rfl, rfl, h, q⟩ := q
    exact ⟨⟨_, _, rfl⟩, rfl, ⟨h.h, h.g⟩, fun v N c hg => q v N (h.sc c hg)⟩
  · exact q.elim)
def TV_over : am_T := fun live as M R => match as with
  | [.ref n, .int a, .int b, .int c] => ∃ i1 i2, live = (am_lv i1 i2, am_q i1 i2) ∧ n = 200 ∧ LI i1 i2 M ∧ ∀ v N, LI i1 i2 N → R (some (.long v)) N
  | _ => False
theorem metV_over : am_Met yX8_over cX8_over 6 (some .long) (10) (253) TV_over := metX8_over.imp (fun live as M R q => by
  unfold TV_over at q
  split at q
  · next n a b c =>
    obtain ⟨i1, i2, rfl, rfl, h, q⟩ := q
    exact ⟨⟨_, _, rfl⟩, rfl, h.i, fun v N c _ => q v N (h.rc c)⟩
  · exact q.elim)
def TW_write : am_T := fun live as M R => match as with
  | [.ref n, .int a, .int b] => ∃ i1 i2, live = (am_lv i1 i2, am_q i1 i2) ∧ n = 0 ∧ LI i1 i2 M ∧ ∀ v N, v = (r_write N a b).1 → LI i1 i2 (r_write N a b).2 → r_I N → R (some (.int v)) N
  | _ => False
theorem metW_write : am_Met yX7_write cX7_write 4 (some .int) (334) (8442) TW_write := metX7_write.imp (fun live as M R q => by
  unfold TW_write at q
  split at q
  · next n a b =>
    obtain ⟨i1, i2, rfl, rfl, h, q⟩ := q
    refine ⟨⟨_, _, rfl⟩, rfl, ⟨h.h, h.g⟩, fun hz => ?_, fun hz t ht => ?_⟩
    · have e := wr_no h hz
      exact q _ _ (by rw [e]) (by rw [e]; exact h) h.i
    · subst ht
      refine ⟨fun hf => ?_, fun hf N c h0 => ?_⟩
      · have e := wr_fu h hz hf
        exact q _ _ (by rw [e]) (by rw [e]; exact h) h.i
      · obtain ⟨e, l, far⟩ := wr_yes h hz hf c h0
        exact q _ _ e l (h.ri far)
  · exact q.elim)
def TW_erase : am_T := fun live as M R => match as with
  | [.ref n, .int a] => ∃ i1 i2, live = (am_lv i1 i2, am_q i1 i2) ∧ n = 0 ∧ LI i1 i2 M ∧ ∀ v N, v = (r_erase N a).1 → LI i1 i2 (r_erase N a).2 → r_I N → R (some (.int v)) N
  | _ => False
theorem metW_erase : am_Met yX7_erase cX7_erase 4 (some .int) (1) (20) TW_erase := metX7_erase.imp (fun live as M R q => by
  unfold TW_erase at q
  split at q
  · next n a =>
    obtain ⟨i1, i2, rfl, rfl, h, q⟩ := q
    have hs := st_erase h a
    exact ⟨⟨_, _, rfl⟩, rfl, ⟨h.h, h.g⟩, q _ _ hs.e hs.l (h.ri hs.c)⟩
  · exact q.elim)
def TW_fault : am_T := fun live as M R => match as with
  | [.ref n, .int a] => ∃ i1 i2, live = (am_lv i1 i2, am_q i1 i2) ∧ n = 0 ∧ LI i1 i2 M ∧ ∀ v N, LI i1 i2 N → R (some (.int v)) N
  | _ => False
theorem c_fault_2 (M : am_M) (a : Int32) : (c_fault M a).2 = M := by
  unfold c_fault
  repeat (first | rfl | split)
theorem metW_fault : am_Met yX7_fault cX7_fault 2 (some .int) (1) (20) TW_fault := metX7_fault.imp (fun live as M R q => by
  unfold TW_fault at q
  split at q
  · next n a =>
    obtain ⟨i1, i2, rfl, rfl, h, q⟩ := q
    refine ⟨⟨_, _, rfl⟩, rfl, ⟨h.h, h.g⟩, ?_⟩
    rw [c_fault_2]
    exact q _ _ h
  · exact q.elim)
def TV_fault : am_T := fun live as M R => match as with
  | [.ref n, .int a] => ∃ i1 i2, live = (am_lv i1 i2, am_q i1 i2) ∧ n = 200 ∧ LI i1 i2 M ∧ ∀ v N, LI i1 i2 N → R (some (.int v)) N
  | _ => False
theorem metV_fault : am_Met yX8_fault cX8_fault 2 (some .int) (6) (135) TV_fault := metX8_fault.imp (fun live as M R q => by
  unfold TV_fault at q
  split at q
  · next n a =>
    obtain ⟨i1, i2, rfl, rfl, h, q⟩ := q
    exact ⟨⟨_, _, rfl⟩, rfl, h.i, fun v N c _ => q v N (h.rc c)⟩
  · exact q.elim)
def TW_sell : am_T := fun live as M R => match as with
  | [.ref n, .int a, .int b, .int c] => ∃ i1 i2, live = (am_lv i1 i2, am_q i1 i2) ∧ n = 0 ∧ LI i1 i2 M ∧ ∀ v N, v = (r_sell N a b c).1 → LI i1 i2 (r_sell N a b c).2 → r_I N → R (some (.int v)) N
  | _ => False
theorem metW_sell : am_Met yX7_sell cX7_sell 4 (some .int) (1) (24) TW_sell := metX7_sell.imp (fun live as M R q => by
  unfold TW_sell at q
  split at q
  · next n a b c =>
    obtain ⟨i1, i2, rfl, rfl, h, q⟩ := q
    have hs := st_sell h a b c
    exact ⟨⟨_, _, rfl⟩, rfl, ⟨h.h, h.g⟩, q _ _ hs.e hs.l (h.ri hs.c)⟩
  · exact q.elim)
def TW_promise : am_T := fun live as M R => match as with
  | [.ref n, .int a, .int b, .int c] => ∃ i1 i2, live = (am_lv i1 i2, am_q i1 i2) ∧ n = 0 ∧ LI i1 i2 M ∧ ∀ v N, v = (r_promise N a b c).1 → LI i1 i2 (r_promise N a b c).2 → r_I N → R (some (.int v)) N
  | _ => False
theorem metW_promise : am_Met yX7_promise cX7_promise 4 (some .int) (2) (47) TW_promise := metX7_promise.imp (fun live as M R q => by
  unfold TW_promise at q
  split at q
  · next n a b c =>
    obtain ⟨i1, i2, rfl, rfl, h, q⟩ := q
    have hs := st_promise h a b c
    exact ⟨⟨_, _, rfl⟩, rfl, ⟨h.h, h.g⟩, q _ _ hs.e hs.l (h.ri hs.c)⟩
  · exact q.elim)
def TW_book : am_T := fun live as M R => match as with
  | [.ref n, .int a, .int b, .int c, .int d] => ∃ i1 i2, live = (am_lv i1 i2, am_q i1 i2) ∧ n = 0 ∧ LI i1 i2 M ∧ ∀ v N, LI i1 i2 N → R (some (.long v)) N
  | _ => False
theorem metW_book : am_Met yX7_book cX7_book 8 (some .long) (6) (147) TW_book := metX7_book.imp (fun live as M R q => by
  unfold TW_book at q
  split at q
  · next n a b c d =>
    obtain ⟨i1, i2, rfl, rfl, h, q⟩ := q
    exact ⟨⟨_, _, rfl⟩, rfl, ⟨h.h, h.g⟩, fun v N c hg => q v N (h.sc c hg)⟩
  · exact q.elim)
def TV_book : am_T := fun live as M R => match as with
  | [.ref n, .int a, .int b, .int c, .int d] => ∃ i1 i2, live = (am_lv i1 i2, am_q i1 i2) ∧ n = 200 ∧ LI i1 i2 M ∧ ∀ v N, LI i1 i2 N → R (some (.long v)) N
  | _ => False
theorem metV_book : am_Met yX8_book cX8_book 10 (some .long) (10) (253) TV_book := metX8_book.imp (fun live as M R q => by
  unfold TV_book at q
  split at q
  · next n a b c d =>
    obtain ⟨i1, i2, rfl, rfl, h, q⟩ := q
    exact ⟨⟨_, _, rfl⟩, rfl, h.i, fun v N c _ => q v N (h.rc c)⟩
  · exact q.elim)
def TW_live : am_T := fun live as M R => match as with
  | [.ref n, .int a, .int b, .int c, .int d] => ∃ i1 i2, live = (am_lv i1 i2, am_q i1 i2) ∧ n = 0 ∧ LI i1 i2 M ∧ ∀ v N, v = (r_live N a b c d).1 → LI i1 i2 (r_live N a b c d).2 → r_I N → R (some (.int v)) N
  | _ => False
theorem metW_live : am_Met yX7_live cX7_live 5 (some .int) (2) (47) TW_live := metX7_live.imp (fun live as M R q => by
  unfold TW_live at q
  split at q
  · next n a b c d =>
    obtain ⟨i1, i2, rfl, rfl, h, q⟩ := q
    have hs := st_live h a b c d
    exact ⟨⟨_, _, rfl⟩, rfl, ⟨h.h, h.g⟩, q _ _ hs.e hs.l (h.ri hs.c)⟩
  · exact q.elim)
def TW_early : am_T := fun live as M R => match as with
  | [.ref n, .int a, .int b, .int c, .int d] => ∃ i1 i2, live = (am_lv i1 i2, am_q i1 i2) ∧ n = 0 ∧ LI i1 i2 M ∧ ∀ v N, LI i1 i2 N → R (some (.int v)) N
  | _ => False
theorem metW_early : am_Met yX7_early cX7_early 11 (some .int) (6) (152) TW_early := metX7_early.imp (fun live as M R q => by
  unfold TW_early at q
  split at q
  · next n a b c d =>
    obtain ⟨i1, i2, rfl, rfl, h, q⟩ := q
    exact ⟨⟨_, _, rfl⟩, rfl, ⟨h.h, h.g⟩, fun v N c hg => q v N (h.sc c hg)⟩
  · exact q.elim)
def TV_early : am_T := fun live as M R => match as with
  | [.ref n, .int a, .int b, .int c, .int d] => ∃ i1 i2, live = (am_lv i1 i2, am_q i1 i2) ∧ n = 200 ∧ LI i1 i2 M ∧ ∀ v N, LI i1 i2 N → R (some (.int v)) N
  | _ => False
theorem metV_early : am_Met yX8_early cX8_early 7 (some .int) (11) (282) TV_early := metX8_early.imp (fun live as M R q => by
  unfold TV_early at q
  split at q
  · next n a b c d =>
    obtain ⟨i1, i2, rfl, rfl, h, q⟩ := q
    exact ⟨⟨_, _, rfl⟩, rfl, h.i, fun v N c _ => q v N (h.rc c)⟩
  · exact q.elim)
def TW_choice : am_T := fun live as M R => match as with
  | [.ref n, .int a, .int b, .int c, .int d, .int e] => ∃ i1 i2, live = (am_lv i1 i2, am_q i1 i2) ∧ n = 0 ∧ LI i1 i2 M ∧ ∀ v N, LI i1 i2 N → R (some (.long v)) N
  | _ => False
theorem metW_choice : am_Met yX7_choice cX7_choice 6 (some .long) (6) (152) TW_choice := metX7_choice.imp (fun live as M R q => by
  unfold TW_choice at q
  split at q
  · next n a b c d e =>
    obtain ⟨i1, i2, rfl, rfl, h, q⟩ := q
    exact ⟨⟨_, _, rfl⟩, rfl, ⟨h.h, h.g⟩, fun v N c hg => q v N (h.sc c hg)⟩
  · exact q.elim)
def TV_choice : am_T := fun live as M R => match as with
  | [.ref n, .int a, .int b, .int c, .int d, .int e] => ∃ i1 i2, live = (am_lv i1 i2, am_q i1 i2) ∧ n = 200 ∧ LI i1 i2 M ∧ ∀ v N, LI i1 i2 N → R (some (.long v)) N
  | _ => False
theorem metV_choice : am_Met yX8_choice cX8_choice 8 (some .long) (11) (282) TV_choice := metX8_choice.imp (fun live as M R q => by
  unfold TV_choice at q
  split at q
  · next n a b c d e =>
    obtain ⟨i1, i2, rfl, rfl, h, q⟩ := q
    exact ⟨⟨_, _, rfl⟩, rfl, h.i, h.n7, fun v N c _ => q v N (h.rc c)⟩
  · exact q.elim)
def TW_chances : am_T := fun live as M R => match as with
  | [.ref n, .int a, .int b, .int c, .int d, .int e] => ∃ i1 i2, live = (am_lv i1 i2, am_q i1 i2) ∧ n = 0 ∧ LI i1 i2 M ∧ ∀ v N, v = (r_chances N a b c d e).1 → LI i1 i2 (r_chances N a b c d e).2 → r_I N → R (some (.int v)) N
  | _ => False
theorem metW_chances : am_Met yX7_chances cX7_chances 7 (some .int) (1) (22) TW_chances := metX7_chances.imp (fun live as M R q => by
  unfold TW_chances at q
  split at q
  · next n a b c d e =>
    obtain ⟨i1, i2, rfl, rfl, h, q⟩ := q
    have hs := st_chances h a b c d e
    exact ⟨⟨_, _, rfl⟩, rfl, ⟨h.h, h.g⟩, q _ _ hs.e hs.l (h.ri hs.c)⟩
  · exact q.elim)
def TW_foretold : am_T := fun live as M R => match as with
  | [.ref n, .int a, .int b, .int c, .int d, .int e, .int f] => ∃ i1 i2, live = (am_lv i1 i2, am_q i1 i2) ∧ n = 0 ∧ LI i1 i2 M ∧ ∀ v N, LI i1 i2 N → R (some (.long v)) N
  | _ => False
theorem metW_foretold : am_Met yX7_foretold cX7_foretold 7 (some .long) (11) (368) TW_foretold := metX7_foretold.imp (fun live as M R q => by
  unfold TW_foretold at q
  split at q
  · next n a b c d e f =>
    obtain ⟨i1, i2, rfl, rfl, h, q⟩ := q
    exact ⟨⟨_, _, rfl⟩, rfl, ⟨h.h, h.g⟩, fun v N c hg => q v N (h.gv c hg)⟩
  · exact q.elim)
def TV_foretold : am_T := fun live as M R => match as with
  | [.ref n, .int a, .int b, .int c, .int d, .int e, .int f] => ∃ i1 i2, live = (am_lv i1 i2, am_q i1 i2) ∧ n = 200 ∧ LI i1 i2 M ∧ ∀ v N, LI i1 i2 N → R (some (.long v)) N
  | _ => False
theorem metV_foretold : am_Met yX8_foretold cX8_foretold 18 (some .long) (10) (259) TV_foretold := metX8_foretold.imp (fun live as M R q => by
  unfold TV_foretold at q
  split at q
  · next n a b c d e f =>
    obtain ⟨i1, i2, rfl, rfl, h, q⟩ := q
    exact ⟨⟨_, _, rfl⟩, rfl, h.i, fun v N c _ => q v N (h.rc c)⟩
  · exact q.elim)
def TW_tried : am_T := fun live as M R => match as with
  | [.ref n, .int a, .int b, .int c, .int d, .int e] => ∃ i1 i2, live = (am_lv i1 i2, am_q i1 i2) ∧ n = 0 ∧ LI i1 i2 M ∧ ∀ v N, LI i1 i2 N → R (some (.long v)) N
  | _ => False
theorem metW_tried : am_Met yX7_tried cX7_tried 6 (some .long) (6) (152) TW_tried := metX7_tried.imp (fun live as M R q => by
  unfold TW_tried at q
  split at q
  · next n a b c d e =>
    obtain ⟨i1, i2, rfl, rfl, h, q⟩ := q
    exact ⟨⟨_, _, rfl⟩, rfl, ⟨h.h, h.g⟩, fun v N c hg => q v N (h.sa c hg)⟩
  · exact q.elim)
def TV_tried : am_T := fun live as M R => match as with
  | [.ref n, .int a, .int b, .int c, .int d, .int e] => ∃ i1 i2, live = (am_lv i1 i2, am_q i1 i2) ∧ n = 200 ∧ LI i1 i2 M ∧ ∀ v N, LI i1 i2 N → R (some (.long v)) N
  | _ => False
theorem metV_tried : am_Met yX8_tried cX8_tried 6 (some .long) (11) (281) TV_tried := metX8_tried.imp (fun live as M R q => by
  unfold TV_tried at q
  split at q
  · next n a b c d e =>
    obtain ⟨i1, i2, rfl, rfl, h, q⟩ := q
    exact ⟨⟨_, _, rfl⟩, rfl, h.i, h.n3t, fun v N c _ => q v N (h.rc c)⟩
  · exact q.elim)
def TW_tell : am_T := fun live as M R => match as with
  | [.ref n, .int a] => ∃ i1 i2, live = (am_lv i1 i2, am_q i1 i2) ∧ n = 0 ∧ LI i1 i2 M ∧ ∀ v N, v = (r_tell N a).1 → LI i1 i2 (r_tell N a).2 → r_I N → R (some (.int v)) N
  | _ => False
theorem metW_tell : am_Met yX7_tell cX7_tell 2 (some .int) (1) (20) TW_tell := metX7_tell.imp (fun live as M R q => by
  unfold TW_tell at q
  split at q
  · next n a =>
    obtain ⟨i1, i2, rfl, rfl, h, q⟩ := q
    have hs := st_tell h a
    exact ⟨⟨_, _, rfl⟩, rfl, ⟨h.h, h.g⟩, q _ _ hs.e hs.l (h.ri hs.c)⟩
  · exact q.elim)
def TW_untell : am_T := fun live as M R => match as with
  | [.ref n] => ∃ i1 i2, live = (am_lv i1 i2, am_q i1 i2) ∧ n = 0 ∧ LI i1 i2 M ∧ ∀ v N, v = (r_untell N).1 → LI i1 i2 (r_untell N).2 → r_I N → R (some (.int v)) N
  | _ => False
theorem metW_untell : am_Met yX7_untell cX7_untell 2 (some .int) (0) (0) TW_untell := metX7_untell.imp (fun live as M R q => by
  unfold TW_untell at q
  split at q
  · next n =>
    obtain ⟨i1, i2, rfl, rfl, h, q⟩ := q
    have hs := st_untell h
    exact ⟨⟨_, _, rfl⟩, rfl, ⟨h.h, h.g⟩, q _ _ hs.e hs.l (h.ri hs.c)⟩
  · exact q.elim)
def TW_best : am_T := fun live as M R => match as with
  | [.ref n, .int a, .int b, .int c, .int d, .int e, .long f] => ∃ i1 i2, live = (am_lv i1 i2, am_q i1 i2) ∧ n = 0 ∧ LI i1 i2 M ∧ ∀ v N, LI i1 i2 N → R (some (.int v)) N
  | _ => False
theorem metW_best : am_Met yX7_best cX7_best 12 (some .int) (6) (152) TW_best := metX7_best.imp (fun live as M R q => by
  unfold TW_best at q
  split at q
  · next n a b c d e f =>
    obtain ⟨i1, i2, rfl, rfl, h, q⟩ := q
    exact ⟨⟨_, _, rfl⟩, rfl, ⟨h.h, h.g⟩, fun v N c hg => q v N (h.sa c hg)⟩
  · exact q.elim)
def TV_best : am_T := fun live as M R => match as with
  | [.ref n, .int a, .int b, .int c, .int d, .int e, .long f] => ∃ i1 i2, live = (am_lv i1 i2, am_q i1 i2) ∧ n = 200 ∧ LI i1 i2 M ∧ ∀ v N, LI i1 i2 N → R (some (.int v)) N
  | _ => False
theorem metV_best : am_Met yX8_best cX8_best 13 (some .int) (11) (281) TV_best := metX8_best.imp (fun live as M R q => by
  unfold TV_best at q
  split at q
  · next n a b c d e f =>
    obtain ⟨i1, i2, rfl, rfl, h, q⟩ := q
    exact ⟨⟨_, _, rfl⟩, rfl, h.i, h.n3t, fun v N c _ => q v N (h.rc c)⟩
  · exact q.elim)
def TW_image : an_T := fun E as M R => match as with
  | [.ref n, .int a] => ∃ i1 i2, E = (am_lv i1 i2, am_q i1 i2) ∧ n = 0 ∧ LI i1 i2 M ∧ ∀ v j1 j2 N, v = (r_image N a).1 → LI j1 j2 (r_image N a).2 → r_I N → R (some (.int v)) (am_lv j1 j2, am_q j1 j2) N
  | _ => False
theorem metW_image : an_Met yX7_image cX7_image 2 (some .int) (3) (74) 39 5272 TW_image := metX7_image.imp (fun E as M R q => by
  unfold TW_image at q
  split at q
  · next n a =>
    obtain ⟨i1, i2, rfl, rfl, h, q⟩ := q
    refine ⟨i1, i2, rfl, rfl, fun e N c => ?_, fun e N c => ?_, fun hn => ?_⟩
    · subst e
      obtain ⟨l, e, r⟩ := im_0 h c
      exact q _ _ _ N e.symm l r
    · subst e
      obtain ⟨l, e, r⟩ := im_1 h c
      exact q _ _ _ N e.symm l r
    · have e := (im_no (M := M) hn).1
      exact q _ _ _ M (by rw [e]) (by rw [e]; exact h) h.i
  · exact q.elim)
def TW_from : an_T := fun E as M R => match as with
  | [.ref n, .int a] => ∃ i1 i2, E = (am_lv i1 i2, am_q i1 i2) ∧ n = 0 ∧ LI i1 i2 M ∧ ∀ v j1 j2 N, v = (r_from N a).1 → LI j1 j2 (r_from N a).2 → r_I N → R (some (.int v)) (am_lv j1 j2, am_q j1 j2) N
  | _ => False
theorem metW_from : an_Met yX7_from cX7_from 2 (some .int) (3) (74) 0 0 TW_from := metX7_from.imp (fun E as M R q => by
  unfold TW_from at q
  split at q
  · next n a =>
    obtain ⟨i1, i2, rfl, rfl, h, q⟩ := q
    refine ⟨i1, i2, rfl, rfl, fun hn => ?_, fun e z => ?_, fun e z => ?_, fun e z N c => ?_, fun e z N c => ?_⟩
    · have e := (im_no (M := M) hn).2
      exact q _ _ _ M (by rw [e]) (by rw [e]; exact h) h.i
    · subst e
      subst z
      have e := fr_no0 h
      exact q _ _ _ M (by rw [e]) (by rw [e]; exact h) h.i
    · subst e
      subst z
      have e := fr_no1 h
      exact q _ _ _ M (by rw [e]) (by rw [e]; exact h) h.i
    · subst e
      subst z
      obtain ⟨l, e, r⟩ := fr_0 h c
      exact q _ _ _ N e.symm l r
    · subst e
      subst z
      obtain ⟨l, e, r⟩ := fr_1 h c
      exact q _ _ _ N e.symm l r
  · exact q.elim)
def TW_count : am_T := fun live as M R => match as with
  | [.ref n, .int a] => ∃ i1 i2, live = (am_lv i1 i2, am_q i1 i2) ∧ n = 0 ∧ LI i1 i2 M ∧ R (some (.int (r_count M a))) M
  | _ => False
theorem metW_count : am_Met yX7_count cX7_count 2 (some .int) (0) (0) TW_count := metX7_count.imp (fun live as M R q => by
  unfold TW_count at q
  split at q
  · next n a =>
    obtain ⟨i1, i2, rfl, rfl, h, q⟩ := q
    refine ⟨⟨_, _, rfl⟩, rfl, ?_⟩
    rw [ct_eq h a]
    exact q
  · exact q.elim)
def TW_digest : am_T := fun live as M R => match as with
  | [.ref n] => ∃ i1 i2, live = (am_lv i1 i2, am_q i1 i2) ∧ n = 0 ∧ LI i1 i2 M ∧ ∀ v N, LI i1 i2 N → R (some (.long v)) N
  | _ => False
theorem metW_digest : am_Met yX7_digest cX7_digest 4 (some .long) (6) (147) TW_digest := metX7_digest.imp (fun live as M R q => by
  unfold TW_digest at q
  split at q
  · next n =>
    obtain ⟨i1, i2, rfl, rfl, h, q⟩ := q
    exact ⟨⟨_, _, rfl⟩, rfl, ⟨h.h, h.g⟩, fun v N c hg => q v N (h.sc c hg)⟩
  · exact q.elim)
def TV_digest : am_T := fun live as M R => match as with
  | [.ref n] => ∃ i1 i2, live = (am_lv i1 i2, am_q i1 i2) ∧ n = 200 ∧ LI i1 i2 M ∧ ∀ v N, LI i1 i2 N → R (some (.long v)) N
  | _ => False
theorem metV_digest : am_Met yX8_digest cX8_digest 5 (some .long) (10) (253) TV_digest := metX8_digest.imp (fun live as M R q => by
  unfold TV_digest at q
  split at q
  · next n =>
    obtain ⟨i1, i2, rfl, rfl, h, q⟩ := q
    exact ⟨⟨_, _, rfl⟩, rfl, h.i, fun v N c _ => q v N (h.rc c)⟩
  · exact q.elim)
