/-! p1: digest of a new object -/
theorem wd_871 : Cond.constantLong "LearnLoans" 261 347 ∈ am_ws := am_wsi (List.mem_of_getElem? (i := 871) (by decide +kernel)) (by decide +kernel)
theorem wd_872 : Cond.constantLong "LearnLoans" 263 31 ∈ am_ws := am_wsi (List.mem_of_getElem? (i := 872) (by decide +kernel)) (by decide +kernel)
theorem wd_873 : Cond.methodLink "LearnLoans" 265 yX7_count ∈ am_ws := am_wsi (List.mem_of_getElem? (i := 873) (by decide +kernel)) (by decide +kernel)
theorem wd_864 : Cond.instanceMethod yX7_count ∈ am_ws := am_wsi (List.mem_of_getElem? (i := 864) (by decide +kernel)) (by decide +kernel)
theorem wd_865 : Cond.selects "LearnLoans" yX7_count yX7_count ∈ am_ws := am_wsi (List.mem_of_getElem? (i := 865) (by decide +kernel)) (by decide +kernel)
theorem wd_866 : Cond.code yX7_count cX7_count 2 (some .int) ∈ am_ws := am_wsi (List.mem_of_getElem? (i := 866) (by decide +kernel)) (by decide +kernel)
theorem wd_874 : Cond.methodLink "LearnLoans" 269 yX2_mixed ∈ am_ws := am_wsi (List.mem_of_getElem? (i := 874) (by decide +kernel)) (by decide +kernel)
theorem wd_875 : Cond.instanceMethod yX2_mixed ∈ am_ws := am_wsi (List.mem_of_getElem? (i := 875) (by decide +kernel)) (by decide +kernel)
theorem wd_876 : Cond.selects "LearnLoans$People" yX2_mixed yX2_mixed ∈ am_ws := am_wsi (List.mem_of_getElem? (i := 876) (by decide +kernel)) (by decide +kernel)
theorem wd_877 : Cond.code yX2_mixed cX2_mixed 5 (some .long) ∈ am_ws := am_wsi (List.mem_of_getElem? (i := 877) (by decide +kernel)) (by decide +kernel)
theorem wd_879 : Cond.methodLink "LearnLoans" 273 yX3_mixed ∈ am_ws := am_wsi (List.mem_of_getElem? (i := 879) (by decide +kernel)) (by decide +kernel)
theorem wd_880 : Cond.instanceMethod yX3_mixed ∈ am_ws := am_wsi (List.mem_of_getElem? (i := 880) (by decide +kernel)) (by decide +kernel)
theorem wd_881 : Cond.selects "LearnLoans$Rows" yX3_mixed yX3_mixed ∈ am_ws := am_wsi (List.mem_of_getElem? (i := 881) (by decide +kernel)) (by decide +kernel)
theorem wd_882 : Cond.code yX3_mixed cX3_mixed 5 (some .long) ∈ am_ws := am_wsi (List.mem_of_getElem? (i := 882) (by decide +kernel)) (by decide +kernel)
theorem wd_884 : Cond.methodLink "LearnLoans" 274 yX5_mixed ∈ am_ws := am_wsi (List.mem_of_getElem? (i := 884) (by decide +kernel)) (by decide +kernel)
theorem wd_885 : Cond.instanceMethod yX5_mixed ∈ am_ws := am_wsi (List.mem_of_getElem? (i := 885) (by decide +kernel)) (by decide +kernel)
theorem wd_886 : Cond.selects "LearnLoans$Text" yX5_mixed yX5_mixed ∈ am_ws := am_wsi (List.mem_of_getElem? (i := 886) (by decide +kernel)) (by decide +kernel)
theorem wd_887 : Cond.code yX5_mixed cX5_mixed 4 (some .long) ∈ am_ws := am_wsi (List.mem_of_getElem? (i := 887) (by decide +kernel)) (by decide +kernel)
theorem dX7_digest_0 : decode cX7_digest 0 = .ok (.ldc2_w 261, 3) := by decide +kernel
theorem dX7_digest_3 : decode cX7_digest 3 = .ok (.lstore_n 1, 1) := by decide +kernel
theorem dX7_digest_4 : decode cX7_digest 4 = .ok (.iconst 0, 1) := by decide +kernel
theorem dX7_digest_5 : decode cX7_digest 5 = .ok (.istore_n 3, 1) := by decide +kernel
theorem dX7_digest_6 : decode cX7_digest 6 = .ok (.iload_n 3, 1) := by decide +kernel
theorem dX7_digest_7 : decode cX7_digest 7 = .ok (.iconst 5, 1) := by decide +kernel
theorem dX7_digest_8 : decode cX7_digest 8 = .ok (.if_icmp .gt 22, 3) := by decide +kernel
theorem dX7_digest_11 : decode cX7_digest 11 = .ok (.ldc2_w 263, 3) := by decide +kernel
theorem dX7_digest_14 : decode cX7_digest 14 = .ok (.lload_n 1, 1) := by decide +kernel
theorem dX7_digest_15 : decode cX7_digest 15 = .ok (.lmul, 1) := by decide +kernel
theorem dX7_digest_16 : decode cX7_digest 16 = .ok (.aload_n 0, 1) := by decide +kernel
theorem dX7_digest_17 : decode cX7_digest 17 = .ok (.iload_n 3, 1) := by decide +kernel
theorem dX7_digest_18 : decode cX7_digest 18 = .ok (.invokevirtual 265, 3) := by decide +kernel
theorem dX7_digest_21 : decode cX7_digest 21 = .ok (.i2l, 1) := by decide +kernel
theorem dX7_digest_22 : decode cX7_digest 22 = .ok (.ladd, 1) := by decide +kernel
theorem dX7_digest_23 : decode cX7_digest 23 = .ok (.lstore_n 1, 1) := by decide +kernel
theorem dX7_digest_24 : decode cX7_digest 24 = .ok (.iinc 3 1, 3) := by decide +kernel
theorem dX7_digest_27 : decode cX7_digest 27 = .ok (.goto (-21), 3) := by decide +kernel
theorem dX7_digest_30 : decode cX7_digest 30 = .ok (.aload_n 0, 1) := by decide +kernel
theorem dX7_digest_31 : decode cX7_digest 31 = .ok (.getfield 27, 3) := by decide +kernel
theorem dX7_digest_34 : decode cX7_digest 34 = .ok (.getfield 38, 3) := by decide +kernel
theorem dX7_digest_37 : decode cX7_digest 37 = .ok (.lload_n 1, 1) := by decide +kernel
theorem dX7_digest_38 : decode cX7_digest 38 = .ok (.invokevirtual 269, 3) := by decide +kernel
theorem dX7_digest_41 : decode cX7_digest 41 = .ok (.lstore_n 1, 1) := by decide +kernel
theorem dX7_digest_42 : decode cX7_digest 42 = .ok (.aload_n 0, 1) := by decide +kernel
theorem dX7_digest_43 : decode cX7_digest 43 = .ok (.getfield 27, 3) := by decide +kernel
theorem dX7_digest_46 : decode cX7_digest 46 = .ok (.getfield 122, 3) := by decide +kernel
theorem dX7_digest_49 : decode cX7_digest 49 = .ok (.lload_n 1, 1) := by decide +kernel
theorem dX7_digest_50 : decode cX7_digest 50 = .ok (.invokevirtual 273, 3) := by decide +kernel
theorem dX7_digest_53 : decode cX7_digest 53 = .ok (.lstore_n 1, 1) := by decide +kernel
theorem dX7_digest_54 : decode cX7_digest 54 = .ok (.aload_n 0, 1) := by decide +kernel
theorem dX7_digest_55 : decode cX7_digest 55 = .ok (.getfield 27, 3) := by decide +kernel
theorem dX7_digest_58 : decode cX7_digest 58 = .ok (.getfield 104, 3) := by decide +kernel
theorem dX7_digest_61 : decode cX7_digest 61 = .ok (.lload_n 1, 1) := by decide +kernel
theorem dX7_digest_62 : decode cX7_digest 62 = .ok (.invokevirtual 273, 3) := by decide +kernel
theorem dX7_digest_65 : decode cX7_digest 65 = .ok (.lstore_n 1, 1) := by decide +kernel
theorem dX7_digest_66 : decode cX7_digest 66 = .ok (.aload_n 0, 1) := by decide +kernel
theorem dX7_digest_67 : decode cX7_digest 67 = .ok (.getfield 27, 3) := by decide +kernel
theorem dX7_digest_70 : decode cX7_digest 70 = .ok (.getfield 146, 3) := by decide +kernel
theorem dX7_digest_73 : decode cX7_digest 73 = .ok (.lload_n 1, 1) := by decide +kernel
theorem dX7_digest_74 : decode cX7_digest 74 = .ok (.invokevirtual 273, 3) := by decide +kernel
theorem dX7_digest_77 : decode cX7_digest 77 = .ok (.lstore_n 1, 1) := by decide +kernel
theorem dX7_digest_78 : decode cX7_digest 78 = .ok (.iconst 0, 1) := by decide +kernel
theorem dX7_digest_79 : decode cX7_digest 79 = .ok (.istore_n 3, 1) := by decide +kernel
theorem dX7_digest_80 : decode cX7_digest 80 = .ok (.iload_n 3, 1) := by decide +kernel
theorem dX7_digest_81 : decode cX7_digest 81 = .ok (.iconst 5, 1) := by decide +kernel
theorem dX7_digest_82 : decode cX7_digest 82 = .ok (.if_icmp .ge 23, 3) := by decide +kernel
theorem dX7_digest_85 : decode cX7_digest 85 = .ok (.aload_n 0, 1) := by decide +kernel
theorem dX7_digest_86 : decode cX7_digest 86 = .ok (.getfield 27, 3) := by decide +kernel
theorem dX7_digest_89 : decode cX7_digest 89 = .ok (.getfield 174, 3) := by decide +kernel
theorem dX7_digest_92 : decode cX7_digest 92 = .ok (.iload_n 3, 1) := by decide +kernel
theorem dX7_digest_93 : decode cX7_digest 93 = .ok (.aaload, 1) := by decide +kernel
theorem dX7_digest_94 : decode cX7_digest 94 = .ok (.lload_n 1, 1) := by decide +kernel
theorem dX7_digest_95 : decode cX7_digest 95 = .ok (.invokevirtual 274, 3) := by decide +kernel
theorem dX7_digest_98 : decode cX7_digest 98 = .ok (.lstore_n 1, 1) := by decide +kernel
theorem dX7_digest_99 : decode cX7_digest 99 = .ok (.iinc 3 1, 3) := by decide +kernel
theorem dX7_digest_102 : decode cX7_digest 102 = .ok (.goto (-22), 3) := by decide +kernel
theorem dX7_digest_105 : decode cX7_digest 105 = .ok (.aload_n 0, 1) := by decide +kernel
theorem dX7_digest_106 : decode cX7_digest 106 = .ok (.bipush 39, 2) := by decide +kernel
theorem dX7_digest_108 : decode cX7_digest 108 = .ok (.bipush 39, 2) := by decide +kernel
theorem dX7_digest_110 : decode cX7_digest 110 = .ok (.invokevirtual 193, 3) := by decide +kernel
theorem dX7_digest_113 : decode cX7_digest 113 = .ok (.iconst 0, 1) := by decide +kernel
theorem dX7_digest_114 : decode cX7_digest 114 = .ok (.istore_n 3, 1) := by decide +kernel
theorem dX7_digest_115 : decode cX7_digest 115 = .ok (.iload_n 3, 1) := by decide +kernel
theorem dX7_digest_116 : decode cX7_digest 116 = .ok (.aload_n 0, 1) := by decide +kernel
theorem dX7_digest_117 : decode cX7_digest 117 = .ok (.getfield 27, 3) := by decide +kernel
theorem dX7_digest_120 : decode cX7_digest 120 = .ok (.getfield 122, 3) := by decide +kernel
theorem dX7_digest_123 : decode cX7_digest 123 = .ok (.getfield 108, 3) := by decide +kernel
theorem dX7_digest_126 : decode cX7_digest 126 = .ok (.if_icmp .ge 46, 3) := by decide +kernel
theorem dX7_digest_129 : decode cX7_digest 129 = .ok (.ldc2_w 263, 3) := by decide +kernel
theorem dX7_digest_132 : decode cX7_digest 132 = .ok (.lload_n 1, 1) := by decide +kernel
theorem dX7_digest_133 : decode cX7_digest 133 = .ok (.lmul, 1) := by decide +kernel
theorem dX7_digest_134 : decode cX7_digest 134 = .ok (.aload_n 0, 1) := by decide +kernel
theorem dX7_digest_135 : decode cX7_digest 135 = .ok (.getfield 20, 3) := by decide +kernel
theorem dX7_digest_138 : decode cX7_digest 138 = .ok (.getfield 158, 3) := by decide +kernel
theorem dX7_digest_141 : decode cX7_digest 141 = .ok (.iconst 0, 1) := by decide +kernel
theorem dX7_digest_142 : decode cX7_digest 142 = .ok (.iload_n 3, 1) := by decide +kernel
theorem dX7_digest_143 : decode cX7_digest 143 = .ok (.iadd, 1) := by decide +kernel
theorem dX7_digest_144 : decode cX7_digest 144 = .ok (.laload, 1) := by decide +kernel
theorem dX7_digest_145 : decode cX7_digest 145 = .ok (.ladd, 1) := by decide +kernel
theorem dX7_digest_146 : decode cX7_digest 146 = .ok (.lstore_n 1, 1) := by decide +kernel
theorem dX7_digest_147 : decode cX7_digest 147 = .ok (.ldc2_w 263, 3) := by decide +kernel
theorem dX7_digest_150 : decode cX7_digest 150 = .ok (.lload_n 1, 1) := by decide +kernel
theorem dX7_digest_151 : decode cX7_digest 151 = .ok (.lmul, 1) := by decide +kernel
theorem dX7_digest_152 : decode cX7_digest 152 = .ok (.aload_n 0, 1) := by decide +kernel
theorem dX7_digest_153 : decode cX7_digest 153 = .ok (.getfield 20, 3) := by decide +kernel
theorem dX7_digest_156 : decode cX7_digest 156 = .ok (.getfield 158, 3) := by decide +kernel
theorem dX7_digest_159 : decode cX7_digest 159 = .ok (.bipush 90, 2) := by decide +kernel
theorem dX7_digest_161 : decode cX7_digest 161 = .ok (.iload_n 3, 1) := by decide +kernel
theorem dX7_digest_162 : decode cX7_digest 162 = .ok (.iadd, 1) := by decide +kernel
theorem dX7_digest_163 : decode cX7_digest 163 = .ok (.laload, 1) := by decide +kernel
theorem dX7_digest_164 : decode cX7_digest 164 = .ok (.ladd, 1) := by decide +kernel
theorem dX7_digest_165 : decode cX7_digest 165 = .ok (.lstore_n 1, 1) := by decide +kernel
theorem dX7_digest_166 : decode cX7_digest 166 = .ok (.iinc 3 1, 3) := by decide +kernel
theorem dX7_digest_169 : decode cX7_digest 169 = .ok (.goto (-54), 3) := by decide +kernel
theorem dX7_digest_172 : decode cX7_digest 172 = .ok (.lload_n 1, 1) := by decide +kernel
theorem dX7_digest_173 : decode cX7_digest 173 = .ok (.lreturn, 1) := by decide +kernel
def kX7_digest (live : am_E) (Ret : am_R) : am_code := [(0, am_const (.long 347) 3), (3, am_lstore 1 4 4), (4, am_const (.int 0) 5), (5, am_istore 3 4 6), (6, am_iload 3 7), (7, am_const (.int 5) 8), (8, am_if2 (fun x y => y < x) 30 11), (11, am_const (.long 31) 14), (14, am_lload 1 15), (15, am_l2 (fun x y => x * y) 16), (16, am_aload 0 17), (17, am_iload 3 18), (18, am_callV live 7 1 TX7_count 21), (21, am_i2l 22), (22, am_l2 (fun x y => x + y) 23), (23, am_lstore 1 4 24), (24, am_iinc 3 4 1 27), (27, am_goto 6), (30, am_aload 0 31), (31, am_getR live 7 0 34), (34, am_getR live 0 0 37), (37, am_lload 1 38), (38, am_callV live 2 1 TX2_mixed 41), (41, am_lstore 1 4 42), (42, am_aload 0 43), (43, am_getR live 7 0 46), (46, am_getR live 0 4 49), (49, am_lload 1 50), (50, am_callV live 3 1 TX3_mixed0 53), (53, am_lstore 1 4 54), (54, am_aload 0 55), (55, am_getR live 7 0 58), (58, am_getR live 0 3 61), (61, am_lload 1 62), (62, am_callV live 3 1 TX3_mixed0 65), (65, am_lstore 1 4 66), (66, am_aload 0 67), (67, am_getR live 7 0 70), (70, am_getR live 0 5 73), (73, am_lload 1 74), (74, am_callV live 3 1 TX3_mixed0 77), (77, am_lstore 1 4 78), (78, am_const (.int 0) 79), (79, am_istore 3 4 80), (80, am_iload 3 81), (81, am_const (.int 5) 82), (82, am_if2 (fun x y => y ≤ x) 105 85), (85, am_aload 0 86), (86, am_getR live 7 0 89), (89, am_getR live 0 7 92), (92, am_iload 3 93), (93, am_aald live 3 94), (94, am_lload 1 95), (95, am_callV live 5 1 TX5_mixed0 98), (98, am_lstore 1 4 99), (99, am_iinc 3 4 1 102), (102, am_goto 80), (105, am_aload 0 106), (106, am_const (.int 39) 108), (108, am_const (.int 39) 110), (110, am_callV live 7 2 TX7_runEverybody 113), (113, am_const (.int 0) 114), (114, am_istore 3 4 115), (115, am_iload 3 116), (116, am_aload 0 117), (117, am_getR live 7 0 120), (120, am_getR live 0 4 123), (123, am_getI live 3 2 126), (126, am_if2 (fun x y => y ≤ x) 172 129), (129, am_const (.long 31) 132), (132, am_lload 1 133), (133, am_l2 (fun x y => x * y) 134), (134, am_aload 0 135), (135, am_getR live 7 2 138), (138, am_getR live 4 2 141), (141, am_const (.int 0) 142), (142, am_iload 3 143), (143, am_i2 (fun x y => x + y) 144), (144, am_lald live 1 145), (145, am_l2 (fun x y => x + y) 146), (146, am_lstore 1 4 147), (147, am_const (.long 31) 150), (150, am_lload 1 151), (151, am_l2 (fun x y => x * y) 152), (152, am_aload 0 153), (153, am_getR live 7 2 156), (156, am_getR live 4 2 159), (159, am_const (.int 90) 161), (161, am_iload 3 162), (162, am_i2 (fun x y => x + y) 163), (163, am_lald live 1 164), (164, am_l2 (fun x y => x + y) 165), (165, am_lstore 1 4 166), (166, am_iinc 3 4 1 169), (169, am_goto 115), (172, am_lload 1 173), (173, am_retL Ret)]
theorem koX7_digest (live : am_E) (Ret : am_R) : ∀ q ∈ kX7_digest live Ret, am_ok RX7 cX7_digest 4 (some .long) 2 47 live Ret q.1 q.2 :=
  am_kc (ak_ldc2 wd_871 dX7_digest_0 rfl) <|
  am_kc (ak_lstore_n dX7_digest_3 rfl rfl) <|
  am_kc (ak_iconst dX7_digest_4 (by decide +kernel) rfl) <|
  am_kc (ak_istore_n dX7_digest_5 rfl rfl) <|
  am_kc (ak_iload_n dX7_digest_6 rfl rfl) <|
  am_kc (ak_iconst dX7_digest_7 (by decide +kernel) rfl) <|
  am_kc (ak_icmp_gt dX7_digest_8 (by decide +kernel) rfl) <|
  am_kc (ak_ldc2 wd_872 dX7_digest_11 rfl) <|
  am_kc (ak_lload_n dX7_digest_14 rfl rfl) <|
  am_kc (ak_lmul dX7_digest_15 rfl) <|
  am_kc (ak_aload_n dX7_digest_16 rfl rfl) <|
  am_kc (ak_iload_n dX7_digest_17 rfl rfl) <|
  am_kc (ak_callV (C := RX7) (F := TX7) (N := 4) metX7_count rfl ⟨rfl, by decide +kernel, by decide +kernel, by decide +kernel⟩ (am_w5 wd_873 wd_864 wd_865 wd_58 wd_866) (by decide) dX7_digest_18 rfl) <|
  am_kc (ak_i2l dX7_digest_21 rfl) <|
  am_kc (ak_ladd dX7_digest_22 rfl) <|
  am_kc (ak_lstore_n dX7_digest_23 rfl rfl) <|
  am_kc (ak_iinc dX7_digest_24 (by decide +kernel) rfl) <|
  am_kc (ak_goto dX7_digest_27 (by decide +kernel)) <|
  am_kc (ak_aload_n dX7_digest_30 rfl rfl) <|
  am_kc (ak_getR (C := RX7) (T := TX7) (N := 4) rfl inX7w (by decide) rfl rfl rfl wd_390 dX7_digest_31 rfl) <|
  am_kc (ak_getR (C := RX0) (T := TX0) (N := 13) rfl inX0w (by decide) rfl rfl rfl wd_194 dX7_digest_34 rfl) <|
  am_kc (ak_lload_n dX7_digest_37 rfl rfl) <|
  am_kc (ak_callV (C := RX2) (F := TX2) (N := 8) metX2_mixed rfl ⟨rfl, by decide +kernel, by decide +kernel, by decide +kernel⟩ (am_w5 wd_874 wd_875 wd_876 wd_62 wd_877) (by decide) dX7_digest_38 rfl) <|
  am_kc (ak_lstore_n dX7_digest_41 rfl rfl) <|
  am_kc (ak_aload_n dX7_digest_42 rfl rfl) <|
  am_kc (ak_getR (C := RX7) (T := TX7) (N := 4) rfl inX7w (by decide) rfl rfl rfl wd_390 dX7_digest_43 rfl) <|
  am_kc (ak_getR (C := RX0) (T := TX0) (N := 13) rfl inX0w (by decide) rfl rfl rfl wd_207 dX7_digest_46 rfl) <|
  am_kc (ak_lload_n dX7_digest_49 rfl rfl) <|
  am_kc (ak_callV (C := RX3) (F := TX3) (N := 3) metX3_mixed0 rfl ⟨rfl, by decide +kernel, by decide +kernel, by decide +kernel⟩ (am_w5 wd_879 wd_880 wd_881 wd_64 wd_882) (by decide) dX7_digest_50 rfl) <|
  am_kc (ak_lstore_n dX7_digest_53 rfl rfl) <|
  am_kc (ak_aload_n dX7_digest_54 rfl rfl) <|
  am_kc (ak_getR (C := RX7) (T := TX7) (N := 4) rfl inX7w (by decide) rfl rfl rfl wd_390 dX7_digest_55 rfl) <|
  am_kc (ak_getR (C := RX0) (T := TX0) (N := 13) rfl inX0w (by decide) rfl rfl rfl wd_204 dX7_digest_58 rfl) <|
  am_kc (ak_lload_n dX7_digest_61 rfl rfl) <|
  am_kc (ak_callV (C := RX3) (F := TX3) (N := 3) metX3_mixed0 rfl ⟨rfl, by decide +kernel, by decide +kernel, by decide +kernel⟩ (am_w5 wd_879 wd_880 wd_881 wd_64 wd_882) (by decide) dX7_digest_62 rfl) <|
  am_kc (ak_lstore_n dX7_digest_65 rfl rfl) <|
  am_kc (ak_aload_n dX7_digest_66 rfl rfl) <|
  am_kc (ak_getR (C := RX7) (T := TX7) (N := 4) rfl inX7w (by decide) rfl rfl rfl wd_390 dX7_digest_67 rfl) <|
  am_kc (ak_getR (C := RX0) (T := TX0) (N := 13) rfl inX0w (by decide) rfl rfl rfl wd_209 dX7_digest_70 rfl) <|
  am_kc (ak_lload_n dX7_digest_73 rfl rfl) <|
  am_kc (ak_callV (C := RX3) (F := TX3) (N := 3) metX3_mixed0 rfl ⟨rfl, by decide +kernel, by decide +kernel, by decide +kernel⟩ (am_w5 wd_879 wd_880 wd_881 wd_64 wd_882) (by decide) dX7_digest_74 rfl) <|
  am_kc (ak_lstore_n dX7_digest_77 rfl rfl) <|
  am_kc (ak_iconst dX7_digest_78 (by decide +kernel) rfl) <|
  am_kc (ak_istore_n dX7_digest_79 rfl rfl) <|
  am_kc (ak_iload_n dX7_digest_80 rfl rfl) <|
  am_kc (ak_iconst dX7_digest_81 (by decide +kernel) rfl) <|
  am_kc (ak_icmp_ge dX7_digest_82 (by decide +kernel) rfl) <|
  am_kc (ak_aload_n dX7_digest_85 rfl rfl) <|
  am_kc (ak_getR (C := RX7) (T := TX7) (N := 4) rfl inX7w (by decide) rfl rfl rfl wd_390 dX7_digest_86 rfl) <|
  am_kc (ak_getR (C := RX0) (T := TX0) (N := 13) rfl inX0w (by decide) rfl rfl rfl wd_215 dX7_digest_89 rfl) <|
  am_kc (ak_iload_n dX7_digest_92 rfl rfl) <|
  am_kc (ak_aald (t := 3) (fun _ => rfl) rfl dX7_digest_93 rfl) <|
  am_kc (ak_lload_n dX7_digest_94 rfl rfl) <|
  am_kc (ak_callV (C := RX5) (F := TX5) (N := 7) metX5_mixed0 rfl ⟨rfl, by decide +kernel, by decide +kernel, by decide +kernel⟩ (am_w5 wd_884 wd_885 wd_886 wd_65 wd_887) (by decide) dX7_digest_95 rfl) <|
  am_kc (ak_lstore_n dX7_digest_98 rfl rfl) <|
  am_kc (ak_iinc dX7_digest_99 (by decide +kernel) rfl) <|
  am_kc (ak_goto dX7_digest_102 (by decide +kernel)) <|
  am_kc (ak_aload_n dX7_digest_105 rfl rfl) <|
  am_kc (ak_bipush dX7_digest_106 (by decide +kernel) rfl) <|
  am_kc (ak_bipush dX7_digest_108 (by decide +kernel) rfl) <|
  am_kc (ak_callV (C := RX7) (F := TX7) (N := 4) metX7_runEverybody rfl ⟨rfl, by decide +kernel, by decide +kernel, by decide +kernel⟩ (am_w5 wd_743 wd_745 wd_23 wd_58 wd_746) (by decide) dX7_digest_110 rfl) <|
  am_kc (ak_iconst dX7_digest_113 (by decide +kernel) rfl) <|
  am_kc (ak_istore_n dX7_digest_114 rfl rfl) <|
  am_kc (ak_iload_n dX7_digest_115 rfl rfl) <|
  am_kc (ak_aload_n dX7_digest_116 rfl rfl) <|
  am_kc (ak_getR (C := RX7) (T := TX7) (N := 4) rfl inX7w (by decide) rfl rfl rfl wd_390 dX7_digest_117 rfl) <|
  am_kc (ak_getR (C := RX0) (T := TX0) (N := 13) rfl inX0w (by decide) rfl rfl rfl wd_207 dX7_digest_120 rfl) <|
  am_kc (ak_getI (C := RX3) (T := TX3) (N := 3) rfl inX3w (by decide) rfl rfl rfl wd_152 dX7_digest_123 rfl) <|
  am_kc (ak_icmp_ge dX7_digest_126 (by decide +kernel) rfl) <|
  am_kc (ak_ldc2 wd_872 dX7_digest_129 rfl) <|
  am_kc (ak_lload_n dX7_digest_132 rfl rfl) <|
  am_kc (ak_lmul dX7_digest_133 rfl) <|
  am_kc (ak_aload_n dX7_digest_134 rfl rfl) <|
  am_kc (ak_getR (C := RX7) (T := TX7) (N := 4) rfl inX7w (by decide) rfl rfl rfl wd_392 dX7_digest_135 rfl) <|
  am_kc (ak_getR (C := RX4) (T := TX4) (N := 19) rfl inX4w (by decide) rfl rfl rfl wd_298 dX7_digest_138 rfl) <|
  am_kc (ak_iconst dX7_digest_141 (by decide +kernel) rfl) <|
  am_kc (ak_iload_n dX7_digest_142 rfl rfl) <|
  am_kc (ak_iadd dX7_digest_143 rfl) <|
  am_kc (ak_lald (t := 1) (fun _ => rfl) rfl dX7_digest_144 rfl) <|
  am_kc (ak_ladd dX7_digest_145 rfl) <|
  am_kc (ak_lstore_n dX7_digest_146 rfl rfl) <|
  am_kc (ak_ldc2 wd_872 dX7_digest_147 rfl) <|
  am_kc (ak_lload_n dX7_digest_150 rfl rfl) <|
  am_kc (ak_lmul dX7_digest_151 rfl) <|
  am_kc (ak_aload_n dX7_digest_152 rfl rfl) <|
  am_kc (ak_getR (C := RX7) (T := TX7) (N := 4) rfl inX7w (by decide) rfl rfl rfl wd_392 dX7_digest_153 rfl) <|
  am_kc (ak_getR (C := RX4) (T := TX4) (N := 19) rfl inX4w (by decide) rfl rfl rfl wd_298 dX7_digest_156 rfl) <|
  am_kc (ak_bipush dX7_digest_159 (by decide +kernel) rfl) <|
  am_kc (ak_iload_n dX7_digest_161 rfl rfl) <|
  am_kc (ak_iadd dX7_digest_162 rfl) <|
  am_kc (ak_lald (t := 1) (fun _ => rfl) rfl dX7_digest_163 rfl) <|
  am_kc (ak_ladd dX7_digest_164 rfl) <|
  am_kc (ak_lstore_n dX7_digest_165 rfl rfl) <|
  am_kc (ak_iinc dX7_digest_166 (by decide +kernel) rfl) <|
  am_kc (ak_goto dX7_digest_169 (by decide +kernel)) <|
  am_kc (ak_lload_n dX7_digest_172 rfl rfl) <|
  am_kc (ak_retL dX7_digest_173) <| am_kn
def TX7_digest : am_T := fun live as M R => match as with
  | [.ref n] => am_mn live ∧ n = 0 ∧ am_F7 M ∧ R (some (.long a_digest)) M
  | _ => False
set_option maxRecDepth 100000 in
set_option maxHeartbeats 4000000 in
theorem metX7_digest : am_Met yX7_digest cX7_digest 4 (some .long) (2) (47) TX7_digest := by
  refine am_met (own := RX7) (by decide +kernel) rfl kX7_digest koX7_digest 300 (fun _ _ _ _ _ => none) (fun live as M Ret h => ?_) (fun _ _ _ _ _ _ _ _ hI => by cases hI)
  unfold TX7_digest at h
  split at h
  · next n =>
    refine ⟨Nat.le_of_ble_eq_true rfl, ?_⟩
    change am_wp _ _ _ _ [(0, Value.ref n)] _ _
    obtain ⟨⟨i1, i2, rfl⟩, rfl, hF, h⟩ := h
    have hF0 := hF
    obtain ⟨s1, s2, s3, s4, s5, s6, s7, s8, s9, w1, w2, w3, w4⟩ := hF
    have hp1 : M.1 33 2 ≤ 0 := by rw [s2]; decide
    have t0 : M.1 39 5 = 0 := (s9 0 (by decide)).1
    have t1 : M.1 42 5 = 0 := (s9 1 (by decide)).1
    have t2 : M.1 45 5 = 0 := (s9 2 (by decide)).1
    have t3 : M.1 48 5 = 0 := (s9 3 (by decide)).1
    have t4 : M.1 51 5 = 0 := (s9 4 (by decide)).1
    repeat' (first | (with_reducible exact hF0) | (with_reducible exact s1) | (with_reducible exact s2) | (with_reducible exact s3) | (with_reducible exact s4) | (with_reducible exact t0) | (with_reducible exact t1) | (with_reducible exact t2) | (with_reducible exact t3) | (with_reducible exact t4) | apply And.intro | exact rfl | (intro hx; with_reducible exact absurd hp1 hx) | (intro hx; exact absurd hx (by decide)) | (intro hx; exact absurd (by decide) hx) | decide | intro hx | (refine Exists.intro _ (And.intro rfl ?_)) | (refine Exists.intro _ (Exists.intro _ (And.intro rfl (And.intro rfl ?_)))))
    all_goals try first | (with_reducible change am_tI _ _) | (change Ret _ _) | (change Ret _ _ _) | (change Exists _)
    all_goals try dsimp only at *
    all_goals try exact absurd ‹(1000 : Int64) = 0› (by decide)
    all_goals first
      | exact ⟨i1, i2, rfl⟩
      | exact am_rJ h (by decide +kernel)
      | exact h
  · exact h.elim
