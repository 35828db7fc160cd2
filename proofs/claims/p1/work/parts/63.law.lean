/-! p1: the law, cases from 15 -/
theorem dL_law_890 : decode cL_law 890 = .ok (.aload_n 1, 1) := by decide +kernel
theorem dL_law_891 : decode cL_law 891 = .ok (.aload_n 0, 1) := by decide +kernel
theorem dL_law_892 : decode cL_law 892 = .ok (.iload_n 3, 1) := by decide +kernel
theorem dL_law_893 : decode cL_law 893 = .ok (.iconst 1, 1) := by decide +kernel
theorem dL_law_894 : decode cL_law 894 = .ok (.iadd, 1) := by decide +kernel
theorem dL_law_895 : decode cL_law 895 = .ok (.iaload, 1) := by decide +kernel
theorem dL_law_896 : decode cL_law 896 = .ok (.aload_n 0, 1) := by decide +kernel
theorem dL_law_897 : decode cL_law 897 = .ok (.iload_n 3, 1) := by decide +kernel
theorem dL_law_898 : decode cL_law 898 = .ok (.iconst 2, 1) := by decide +kernel
theorem dL_law_899 : decode cL_law 899 = .ok (.iadd, 1) := by decide +kernel
theorem dL_law_900 : decode cL_law 900 = .ok (.iaload, 1) := by decide +kernel
theorem dL_law_901 : decode cL_law 901 = .ok (.aload_n 0, 1) := by decide +kernel
theorem dL_law_902 : decode cL_law 902 = .ok (.iload_n 3, 1) := by decide +kernel
theorem dL_law_903 : decode cL_law 903 = .ok (.iconst 3, 1) := by decide +kernel
theorem dL_law_904 : decode cL_law 904 = .ok (.iadd, 1) := by decide +kernel
theorem dL_law_905 : decode cL_law 905 = .ok (.iaload, 1) := by decide +kernel
theorem dL_law_906 : decode cL_law 906 = .ok (.aload_n 0, 1) := by decide +kernel
theorem dL_law_907 : decode cL_law 907 = .ok (.iload_n 3, 1) := by decide +kernel
theorem dL_law_908 : decode cL_law 908 = .ok (.iconst 4, 1) := by decide +kernel
theorem dL_law_909 : decode cL_law 909 = .ok (.iadd, 1) := by decide +kernel
theorem dL_law_910 : decode cL_law 910 = .ok (.iaload, 1) := by decide +kernel
theorem wd_641 : Cond.methodLink "LearnLoansLaw" 80 yX7_all ∈ am_ws := am_wsi (List.mem_of_getElem? (i := 641) (by decide +kernel)) (by decide +kernel)
theorem wd_642 : Cond.instanceMethod yX7_all ∈ am_ws := am_wsi (List.mem_of_getElem? (i := 642) (by decide +kernel)) (by decide +kernel)
theorem wd_643 : Cond.selects "LearnLoans" yX7_all yX7_all ∈ am_ws := am_wsi (List.mem_of_getElem? (i := 643) (by decide +kernel)) (by decide +kernel)
theorem wd_644 : Cond.code yX7_all cX7_all 5 (some .long) ∈ am_ws := am_wsi (List.mem_of_getElem? (i := 644) (by decide +kernel)) (by decide +kernel)
theorem dL_law_911 : decode cL_law 911 = .ok (.invokevirtual 80, 3) := by decide +kernel
theorem dL_law_914 : decode cL_law 914 = .ok (.aload_n 2, 1) := by decide +kernel
theorem dL_law_915 : decode cL_law 915 = .ok (.aload_n 0, 1) := by decide +kernel
theorem dL_law_916 : decode cL_law 916 = .ok (.iload_n 3, 1) := by decide +kernel
theorem dL_law_917 : decode cL_law 917 = .ok (.iconst 1, 1) := by decide +kernel
theorem dL_law_918 : decode cL_law 918 = .ok (.iadd, 1) := by decide +kernel
theorem dL_law_919 : decode cL_law 919 = .ok (.iaload, 1) := by decide +kernel
theorem dL_law_920 : decode cL_law 920 = .ok (.aload_n 0, 1) := by decide +kernel
theorem dL_law_921 : decode cL_law 921 = .ok (.iload_n 3, 1) := by decide +kernel
theorem dL_law_922 : decode cL_law 922 = .ok (.iconst 2, 1) := by decide +kernel
theorem dL_law_923 : decode cL_law 923 = .ok (.iadd, 1) := by decide +kernel
theorem dL_law_924 : decode cL_law 924 = .ok (.iaload, 1) := by decide +kernel
theorem dL_law_925 : decode cL_law 925 = .ok (.aload_n 0, 1) := by decide +kernel
theorem dL_law_926 : decode cL_law 926 = .ok (.iload_n 3, 1) := by decide +kernel
theorem dL_law_927 : decode cL_law 927 = .ok (.iconst 3, 1) := by decide +kernel
theorem dL_law_928 : decode cL_law 928 = .ok (.iadd, 1) := by decide +kernel
theorem dL_law_929 : decode cL_law 929 = .ok (.iaload, 1) := by decide +kernel
theorem dL_law_930 : decode cL_law 930 = .ok (.aload_n 0, 1) := by decide +kernel
theorem dL_law_931 : decode cL_law 931 = .ok (.iload_n 3, 1) := by decide +kernel
theorem dL_law_932 : decode cL_law 932 = .ok (.iconst 4, 1) := by decide +kernel
theorem dL_law_933 : decode cL_law 933 = .ok (.iadd, 1) := by decide +kernel
theorem dL_law_934 : decode cL_law 934 = .ok (.iaload, 1) := by decide +kernel
theorem wd_1191 : Cond.methodLink "LearnLoansLaw" 83 yX8_all ∈ am_ws := am_wsi (List.mem_of_getElem? (i := 1191) (by decide +kernel)) (by decide +kernel)
theorem wd_1192 : Cond.instanceMethod yX8_all ∈ am_ws := am_wsi (List.mem_of_getElem? (i := 1192) (by decide +kernel)) (by decide +kernel)
theorem wd_1193 : Cond.selects "LearnLoansModel" yX8_all yX8_all ∈ am_ws := am_wsi (List.mem_of_getElem? (i := 1193) (by decide +kernel)) (by decide +kernel)
theorem wd_1194 : Cond.code yX8_all cX8_all 5 (some .long) ∈ am_ws := am_wsi (List.mem_of_getElem? (i := 1194) (by decide +kernel)) (by decide +kernel)
theorem dL_law_935 : decode cL_law 935 = .ok (.invokevirtual 83, 3) := by decide +kernel
theorem dL_law_938 : decode cL_law 938 = .ok (.lcmp, 1) := by decide +kernel
theorem dL_law_939 : decode cL_law 939 = .ok (.ifCond .eq 910, 3) := by decide +kernel
def kL_c15 (Ln : Nat) (xs : Nat → Int32) : an_code := [(890, an_lf (fun live => am_aload 1 891)), (891, an_lf (fun live => am_aload 0 892)), (892, an_lf (fun live => am_iload 3 893)), (893, an_lf (fun live => am_const (.int 1) 894)), (894, an_lf (fun live => am_i2 (fun x y => x + y) 895)), (895, an_sld Ln xs 896), (896, an_lf (fun live => am_aload 0 897)), (897, an_lf (fun live => am_iload 3 898)), (898, an_lf (fun live => am_const (.int 2) 899)), (899, an_lf (fun live => am_i2 (fun x y => x + y) 900)), (900, an_sld Ln xs 901), (901, an_lf (fun live => am_aload 0 902)), (902, an_lf (fun live => am_iload 3 903)), (903, an_lf (fun live => am_const (.int 3) 904)), (904, an_lf (fun live => am_i2 (fun x y => x + y) 905)), (905, an_sld Ln xs 906), (906, an_lf (fun live => am_aload 0 907)), (907, an_lf (fun live => am_iload 3 908)), (908, an_lf (fun live => am_const (.int 4) 909)), (909, an_lf (fun live => am_i2 (fun x y => x + y) 910)), (910, an_sld Ln xs 911), (911, an_lf (fun live => am_callV live 7 4 TX7_all 914)), (914, an_lf (fun live => am_aload 2 915)), (915, an_lf (fun live => am_aload 0 916)), (916, an_lf (fun live => am_iload 3 917)), (917, an_lf (fun live => am_const (.int 1) 918)), (918, an_lf (fun live => am_i2 (fun x y => x + y) 919)), (919, an_sld Ln xs 920), (920, an_lf (fun live => am_aload 0 921)), (921, an_lf (fun live => am_iload 3 922)), (922, an_lf (fun live => am_const (.int 2) 923)), (923, an_lf (fun live => am_i2 (fun x y => x + y) 924)), (924, an_sld Ln xs 925), (925, an_lf (fun live => am_aload 0 926)), (926, an_lf (fun live => am_iload 3 927)), (927, an_lf (fun live => am_const (.int 3) 928)), (928, an_lf (fun live => am_i2 (fun x y => x + y) 929)), (929, an_sld Ln xs 930), (930, an_lf (fun live => am_aload 0 931)), (931, an_lf (fun live => am_iload 3 932)), (932, an_lf (fun live => am_const (.int 4) 933)), (933, an_lf (fun live => am_i2 (fun x y => x + y) 934)), (934, an_sld Ln xs 935), (935, an_lf (fun live => am_callV live 8 4 TX8_all 938)), (938, an_lf (fun live => am_lcmp 939)), (939, an_lf (fun live => am_if1 (fun x => x = 0) 1849 942))]
theorem koL_c15 (Ln : Nat) (xs : Nat → Int32) : ∀ q ∈ kL_c15 Ln xs, an_ok RL cL_law 4 (some .boolean) 2000 80000 600000 7302250 false (lawP Ln xs) an_noR q.1 q.2 :=
  an_kc (an_lift (fun live => ak_aload_n dL_law_890 rfl rfl)) <|
  an_kc (an_lift (fun live => ak_aload_n dL_law_891 rfl rfl)) <|
  an_kc (an_lift (fun live => ak_iload_n dL_law_892 rfl rfl)) <|
  an_kc (an_lift (fun live => ak_iconst dL_law_893 (by decide +kernel) rfl)) <|
  an_kc (an_lift (fun live => ak_iadd dL_law_894 rfl)) <|
  an_kc (nk_sld dL_law_895 rfl) <|
  an_kc (an_lift (fun live => ak_aload_n dL_law_896 rfl rfl)) <|
  an_kc (an_lift (fun live => ak_iload_n dL_law_897 rfl rfl)) <|
  an_kc (an_lift (fun live => ak_iconst dL_law_898 (by decide +kernel) rfl)) <|
  an_kc (an_lift (fun live => ak_iadd dL_law_899 rfl)) <|
  an_kc (nk_sld dL_law_900 rfl) <|
  an_kc (an_lift (fun live => ak_aload_n dL_law_901 rfl rfl)) <|
  an_kc (an_lift (fun live => ak_iload_n dL_law_902 rfl rfl)) <|
  an_kc (an_lift (fun live => ak_iconst dL_law_903 (by decide +kernel) rfl)) <|
  an_kc (an_lift (fun live => ak_iadd dL_law_904 rfl)) <|
  an_kc (nk_sld dL_law_905 rfl) <|
  an_kc (an_lift (fun live => ak_aload_n dL_law_906 rfl rfl)) <|
  an_kc (an_lift (fun live => ak_iload_n dL_law_907 rfl rfl)) <|
  an_kc (an_lift (fun live => ak_iconst dL_law_908 (by decide +kernel) rfl)) <|
  an_kc (an_lift (fun live => ak_iadd dL_law_909 rfl)) <|
  an_kc (nk_sld dL_law_910 rfl) <|
  an_kc (an_lift (fun live => ak_callV (C := RX7) (F := TX7) (N := 4) metX7_all rfl ⟨rfl, by decide +kernel, by decide +kernel, by decide +kernel⟩ (am_w5 wd_641 wd_642 wd_643 wd_58 wd_644) (by decide) dL_law_911 rfl)) <|
  an_kc (an_lift (fun live => ak_aload_n dL_law_914 rfl rfl)) <|
  an_kc (an_lift (fun live => ak_aload_n dL_law_915 rfl rfl)) <|
  an_kc (an_lift (fun live => ak_iload_n dL_law_916 rfl rfl)) <|
  an_kc (an_lift (fun live => ak_iconst dL_law_917 (by decide +kernel) rfl)) <|
  an_kc (an_lift (fun live => ak_iadd dL_law_918 rfl)) <|
  an_kc (nk_sld dL_law_919 rfl) <|
  an_kc (an_lift (fun live => ak_aload_n dL_law_920 rfl rfl)) <|
  an_kc (an_lift (fun live => ak_iload_n dL_law_921 rfl rfl)) <|
  an_kc (an_lift (fun live => ak_iconst dL_law_922 (by decide +kernel) rfl)) <|
  an_kc (an_lift (fun live => ak_iadd dL_law_923 rfl)) <|
  an_kc (nk_sld dL_law_924 rfl) <|
  an_kc (an_lift (fun live => ak_aload_n dL_law_925 rfl rfl)) <|
  an_kc (an_lift (fun live => ak_iload_n dL_law_926 rfl rfl)) <|
  an_kc (an_lift (fun live => ak_iconst dL_law_927 (by decide +kernel) rfl)) <|
  an_kc (an_lift (fun live => ak_iadd dL_law_928 rfl)) <|
  an_kc (nk_sld dL_law_929 rfl) <|
  an_kc (an_lift (fun live => ak_aload_n dL_law_930 rfl rfl)) <|
  an_kc (an_lift (fun live => ak_iload_n dL_law_931 rfl rfl)) <|
  an_kc (an_lift (fun live => ak_iconst dL_law_932 (by decide +kernel) rfl)) <|
  an_kc (an_lift (fun live => ak_iadd dL_law_933 rfl)) <|
  an_kc (nk_sld dL_law_934 rfl) <|
  an_kc (an_lift (fun live => ak_callV (C := RX8) (F := TX8) (N := 27) metX8_all rfl ⟨rfl, by decide +kernel, by decide +kernel, by decide +kernel⟩ (am_w5 wd_1191 wd_1192 wd_1193 wd_67 wd_1194) (by decide) dL_law_935 rfl)) <|
  an_kc (an_lift (fun live => ak_lcmp dL_law_938 rfl)) <|
  an_kc (an_lift (fun live => ak_if_eq dL_law_939 (by decide +kernel) rfl)) <| an_kn
set_option maxRecDepth 100000 in
set_option maxHeartbeats 4000000 in
theorem caseL_c15 (xs : Nat → Int32) : an_wp (kL_c15 8 xs) lawC 200 (an_go (kL_c15 8 xs) 890) lawL [] lawX := by
    have f7 := an_Mf7
    have f8 := an_Mf8
    repeat' (first | (with_reducible exact f7) | (with_reducible exact f8) | apply And.intro | exact rfl | (intro hx; with_reducible exact absurd rfl hx) | (intro hx; with_reducible exact absurd ((lg_cmp_eq _ _).mpr rfl) hx) | (intro hx; exact absurd hx (by decide)) | (intro hx; exact absurd (by decide) hx) | decide | intro hx | (refine Exists.intro _ (And.intro rfl ?_)))
    all_goals try first | (with_reducible change am_tI _ _) | (change Ret _ _) | (change Ret _ _ _) | (change Exists _)
    all_goals try dsimp only at *
    all_goals try exact absurd ‹(1000 : Int64) = 0› (by decide)
    all_goals first
      | exact ⟨_, _, rfl⟩
      | exact f8.lo ‹am_ch am_lo _ _›
      | exact (f8.lo ‹am_ch am_lo _ _›).1 _ ‹_›
      | exact (f8.lo ‹am_ch am_lo _ _›).2.1 _ ‹_›
      | exact (f8.lo ‹am_ch am_lo _ _›).2.2.1 _ ‹_›
      | exact (f8.lo ‹am_ch am_lo _ _›).2.2.2.1 _ ‹_›
      | exact (f8.lo ‹am_ch am_lo _ _›).2.2.2.2 _ ‹_›
      | exact (f8.hi ‹∀ a k, 200 ≤ a → _›).1 _ ‹_›
      | exact (f8.hi ‹∀ a k, 200 ≤ a → _›).2.1 _ ‹_›
      | exact (f8.hi ‹∀ a k, 200 ≤ a → _›).2.2.1 _ ‹_›
      | exact (f8.hi ‹∀ a k, 200 ≤ a → _›).2.2.2.1 _ ‹_›
      | exact (f8.hi ‹∀ a k, 200 ≤ a → _›).2.2.2.2 _ ‹_›
      | decide
theorem dL_law_944 : decode cL_law 944 = .ok (.aload_n 1, 1) := by decide +kernel
theorem dL_law_945 : decode cL_law 945 = .ok (.aload_n 0, 1) := by decide +kernel
theorem dL_law_946 : decode cL_law 946 = .ok (.iload_n 3, 1) := by decide +kernel
theorem dL_law_947 : decode cL_law 947 = .ok (.iconst 1, 1) := by decide +kernel
theorem dL_law_948 : decode cL_law 948 = .ok (.iadd, 1) := by decide +kernel
theorem dL_law_949 : decode cL_law 949 = .ok (.iaload, 1) := by decide +kernel
theorem dL_law_950 : decode cL_law 950 = .ok (.aload_n 0, 1) := by decide +kernel
theorem dL_law_951 : decode cL_law 951 = .ok (.iload_n 3, 1) := by decide +kernel
theorem dL_law_952 : decode cL_law 952 = .ok (.iconst 2, 1) := by decide +kernel
theorem dL_law_953 : decode cL_law 953 = .ok (.iadd, 1) := by decide +kernel
theorem dL_law_954 : decode cL_law 954 = .ok (.iaload, 1) := by decide +kernel
theorem dL_law_955 : decode cL_law 955 = .ok (.aload_n 0, 1) := by decide +kernel
theorem dL_law_956 : decode cL_law 956 = .ok (.iload_n 3, 1) := by decide +kernel
theorem dL_law_957 : decode cL_law 957 = .ok (.iconst 3, 1) := by decide +kernel
theorem dL_law_958 : decode cL_law 958 = .ok (.iadd, 1) := by decide +kernel
theorem dL_law_959 : decode cL_law 959 = .ok (.iaload, 1) := by decide +kernel
theorem wd_653 : Cond.methodLink "LearnLoansLaw" 84 yX7_rate ∈ am_ws := am_wsi (List.mem_of_getElem? (i := 653) (by decide +kernel)) (by decide +kernel)
theorem wd_654 : Cond.instanceMethod yX7_rate ∈ am_ws := am_wsi (List.mem_of_getElem? (i := 654) (by decide +kernel)) (by decide +kernel)
theorem wd_655 : Cond.selects "LearnLoans" yX7_rate yX7_rate ∈ am_ws := am_wsi (List.mem_of_getElem? (i := 655) (by decide +kernel)) (by decide +kernel)
theorem wd_656 : Cond.code yX7_rate cX7_rate 4 (some .int) ∈ am_ws := am_wsi (List.mem_of_getElem? (i := 656) (by decide +kernel)) (by decide +kernel)
theorem dL_law_960 : decode cL_law 960 = .ok (.invokevirtual 84, 3) := by decide +kernel
theorem dL_law_963 : decode cL_law 963 = .ok (.aload_n 2, 1) := by decide +kernel
theorem dL_law_964 : decode cL_law 964 = .ok (.aload_n 0, 1) := by decide +kernel
theorem dL_law_965 : decode cL_law 965 = .ok (.iload_n 3, 1) := by decide +kernel
theorem dL_law_966 : decode cL_law 966 = .ok (.iconst 1, 1) := by decide +kernel
theorem dL_law_967 : decode cL_law 967 = .ok (.iadd, 1) := by decide +kernel
theorem dL_law_968 : decode cL_law 968 = .ok (.iaload, 1) := by decide +kernel
theorem dL_law_969 : decode cL_law 969 = .ok (.aload_n 0, 1) := by decide +kernel
theorem dL_law_970 : decode cL_law 970 = .ok (.iload_n 3, 1) := by decide +kernel
theorem dL_law_971 : decode cL_law 971 = .ok (.iconst 2, 1) := by decide +kernel
theorem dL_law_972 : decode cL_law 972 = .ok (.iadd, 1) := by decide +kernel
theorem dL_law_973 : decode cL_law 973 = .ok (.iaload, 1) := by decide +kernel
theorem dL_law_974 : decode cL_law 974 = .ok (.aload_n 0, 1) := by decide +kernel
theorem dL_law_975 : decode cL_law 975 = .ok (.iload_n 3, 1) := by decide +kernel
theorem dL_law_976 : decode cL_law 976 = .ok (.iconst 3, 1) := by decide +kernel
theorem dL_law_977 : decode cL_law 977 = .ok (.iadd, 1) := by decide +kernel
theorem dL_law_978 : decode cL_law 978 = .ok (.iaload, 1) := by decide +kernel
theorem wd_1199 : Cond.methodLink "LearnLoansLaw" 87 yX8_rate ∈ am_ws := am_wsi (List.mem_of_getElem? (i := 1199) (by decide +kernel)) (by decide +kernel)
theorem wd_1200 : Cond.instanceMethod yX8_rate ∈ am_ws := am_wsi (List.mem_of_getElem? (i := 1200) (by decide +kernel)) (by decide +kernel)
theorem wd_1201 : Cond.selects "LearnLoansModel" yX8_rate yX8_rate ∈ am_ws := am_wsi (List.mem_of_getElem? (i := 1201) (by decide +kernel)) (by decide +kernel)
theorem wd_1202 : Cond.code yX8_rate cX8_rate 5 (some .int) ∈ am_ws := am_wsi (List.mem_of_getElem? (i := 1202) (by decide +kernel)) (by decide +kernel)
theorem dL_law_979 : decode cL_law 979 = .ok (.invokevirtual 87, 3) := by decide +kernel
theorem dL_law_982 : decode cL_law 982 = .ok (.if_icmp .eq 867, 3) := by decide +kernel
def kL_c16 (Ln : Nat) (xs : Nat → Int32) : an_code := [(944, an_lf (fun live => am_aload 1 945)), (945, an_lf (fun live => am_aload 0 946)), (946, an_lf (fun live => am_iload 3 947)), (947, an_lf (fun live => am_const (.int 1) 948)), (948, an_lf (fun live => am_i2 (fun x y => x + y) 949)), (949, an_sld Ln xs 950), (950, an_lf (fun live => am_aload 0 951)), (951, an_lf (fun live => am_iload 3 952)), (952, an_lf (fun live => am_const (.int 2) 953)), (953, an_lf (fun live => am_i2 (fun x y => x + y) 954)), (954, an_sld Ln xs 955), (955, an_lf (fun live => am_aload 0 956)), (956, an_lf (fun live => am_iload 3 957)), (957, an_lf (fun live => am_const (.int 3) 958)), (958, an_lf (fun live => am_i2 (fun x y => x + y) 959)), (959, an_sld Ln xs 960), (960, an_lf (fun live => am_callV live 7 3 TX7_rate 963)), (963, an_lf (fun live => am_aload 2 964)), (964, an_lf (fun live => am_aload 0 965)), (965, an_lf (fun live => am_iload 3 966)), (966, an_lf (fun live => am_const (.int 1) 967)), (967, an_lf (fun live => am_i2 (fun x y => x + y) 968)), (968, an_sld Ln xs 969), (969, an_lf (fun live => am_aload 0 970)), (970, an_lf (fun live => am_iload 3 971)), (971, an_lf (fun live => am_const (.int 2) 972)), (972, an_lf (fun live => am_i2 (fun x y => x + y) 973)), (973, an_sld Ln xs 974), (974, an_lf (fun live => am_aload 0 975)), (975, an_lf (fun live => am_iload 3 976)), (976, an_lf (fun live => am_const (.int 3) 977)), (977, an_lf (fun live => am_i2 (fun x y => x + y) 978)), (978, an_sld Ln xs 979), (979, an_lf (fun live => am_callV live 8 3 TX8_rate 982)), (982, an_lf (fun live => am_if2 (fun x y => x = y) 1849 985))]
theorem koL_c16 (Ln : Nat) (xs : Nat → Int32) : ∀ q ∈ kL_c16 Ln xs, an_ok RL cL_law 4 (some .boolean) 2000 80000 600000 7302250 false (lawP Ln xs) an_noR q.1 q.2 :=
  an_kc (an_lift (fun live => ak_aload_n dL_law_944 rfl rfl)) <|
  an_kc (an_lift (fun live => ak_aload_n dL_law_945 rfl rfl)) <|
  an_kc (an_lift (fun live => ak_iload_n dL_law_946 rfl rfl)) <|
  an_kc (an_lift (fun live => ak_iconst dL_law_947 (by decide +kernel) rfl)) <|
  an_kc (an_lift (fun live => ak_iadd dL_law_948 rfl)) <|
  an_kc (nk_sld dL_law_949 rfl) <|
  an_kc (an_lift (fun live => ak_aload_n dL_law_950 rfl rfl)) <|
  an_kc (an_lift (fun live => ak_iload_n dL_law_951 rfl rfl)) <|
  an_kc (an_lift (fun live => ak_iconst dL_law_952 (by decide +kernel) rfl)) <|
  an_kc (an_lift (fun live => ak_iadd dL_law_953 rfl)) <|
  an_kc (nk_sld dL_law_954 rfl) <|
  an_kc (an_lift (fun live => ak_aload_n dL_law_955 rfl rfl)) <|
  an_kc (an_lift (fun live => ak_iload_n dL_law_956 rfl rfl)) <|
  an_kc (an_lift (fun live => ak_iconst dL_law_957 (by decide +kernel) rfl)) <|
  an_kc (an_lift (fun live => ak_iadd dL_law_958 rfl)) <|
  an_kc (nk_sld dL_law_959 rfl) <|
  an_kc (an_lift (fun live => ak_callV (C := RX7) (F := TX7) (N := 4) metX7_rate rfl ⟨rfl, by decide +kernel, by decide +kernel, by decide +kernel⟩ (am_w5 wd_653 wd_654 wd_655 wd_58 wd_656) (by decide) dL_law_960 rfl)) <|
  an_kc (an_lift (fun live => ak_aload_n dL_law_963 rfl rfl)) <|
  an_kc (an_lift (fun live => ak_aload_n dL_law_964 rfl rfl)) <|
  an_kc (an_lift (fun live => ak_iload_n dL_law_965 rfl rfl)) <|
  an_kc (an_lift (fun live => ak_iconst dL_law_966 (by decide +kernel) rfl)) <|
  an_kc (an_lift (fun live => ak_iadd dL_law_967 rfl)) <|
  an_kc (nk_sld dL_law_968 rfl) <|
  an_kc (an_lift (fun live => ak_aload_n dL_law_969 rfl rfl)) <|
  an_kc (an_lift (fun live => ak_iload_n dL_law_970 rfl rfl)) <|
  an_kc (an_lift (fun live => ak_iconst dL_law_971 (by decide +kernel) rfl)) <|
  an_kc (an_lift (fun live => ak_iadd dL_law_972 rfl)) <|
  an_kc (nk_sld dL_law_973 rfl) <|
  an_kc (an_lift (fun live => ak_aload_n dL_law_974 rfl rfl)) <|
  an_kc (an_lift (fun live => ak_iload_n dL_law_975 rfl rfl)) <|
  an_kc (an_lift (fun live => ak_iconst dL_law_976 (by decide +kernel) rfl)) <|
  an_kc (an_lift (fun live => ak_iadd dL_law_977 rfl)) <|
  an_kc (nk_sld dL_law_978 rfl) <|
  an_kc (an_lift (fun live => ak_callV (C := RX8) (F := TX8) (N := 27) metX8_rate rfl ⟨rfl, by decide +kernel, by decide +kernel, by decide +kernel⟩ (am_w5 wd_1199 wd_1200 wd_1201 wd_67 wd_1202) (by decide) dL_law_979 rfl)) <|
  an_kc (an_lift (fun live => ak_icmp_eq dL_law_982 (by decide +kernel) rfl)) <| an_kn
set_option maxRecDepth 100000 in
set_option maxHeartbeats 4000000 in
theorem caseL_c16 (xs : Nat → Int32) : an_wp (kL_c16 8 xs) lawC 200 (an_go (kL_c16 8 xs) 944) lawL [] lawX := by
    have f7 := an_Mf7
    have f8 := an_Mf8
    repeat' (first | (with_reducible exact f7) | (with_reducible exact f8) | apply And.intro | exact rfl | (intro hx; with_reducible exact absurd rfl hx) | (intro hx; with_reducible exact absurd ((lg_cmp_eq _ _).mpr rfl) hx) | (intro hx; exact absurd hx (by decide)) | (intro hx; exact absurd (by decide) hx) | decide | intro hx | (refine Exists.intro _ (And.intro rfl ?_)))
    all_goals try first | (with_reducible change am_tI _ _) | (change Ret _ _) | (change Ret _ _ _) | (change Exists _)
    all_goals try dsimp only at *
    all_goals try exact absurd ‹(1000 : Int64) = 0› (by decide)
    all_goals first
      | exact ⟨_, _, rfl⟩
      | exact f8.lo ‹am_ch am_lo _ _›
      | exact (f8.lo ‹am_ch am_lo _ _›).1 _ ‹_›
      | exact (f8.lo ‹am_ch am_lo _ _›).2.1 _ ‹_›
      | exact (f8.lo ‹am_ch am_lo _ _›).2.2.1 _ ‹_›
      | exact (f8.lo ‹am_ch am_lo _ _›).2.2.2.1 _ ‹_›
      | exact (f8.lo ‹am_ch am_lo _ _›).2.2.2.2 _ ‹_›
      | exact (f8.hi ‹∀ a k, 200 ≤ a → _›).1 _ ‹_›
      | exact (f8.hi ‹∀ a k, 200 ≤ a → _›).2.1 _ ‹_›
      | exact (f8.hi ‹∀ a k, 200 ≤ a → _›).2.2.1 _ ‹_›
      | exact (f8.hi ‹∀ a k, 200 ≤ a → _›).2.2.2.1 _ ‹_›
      | exact (f8.hi ‹∀ a k, 200 ≤ a → _›).2.2.2.2 _ ‹_›
      | decide
theorem dL_law_987 : decode cL_law 987 = .ok (.aload_n 1, 1) := by decide +kernel
theorem dL_law_988 : decode cL_law 988 = .ok (.aload_n 0, 1) := by decide +kernel
theorem dL_law_989 : decode cL_law 989 = .ok (.iload_n 3, 1) := by decide +kernel
theorem dL_law_990 : decode cL_law 990 = .ok (.iconst 1, 1) := by decide +kernel
theorem dL_law_991 : decode cL_law 991 = .ok (.iadd, 1) := by decide +kernel
theorem dL_law_992 : decode cL_law 992 = .ok (.iaload, 1) := by decide +kernel
theorem dL_law_993 : decode cL_law 993 = .ok (.aload_n 0, 1) := by decide +kernel
theorem dL_law_994 : decode cL_law 994 = .ok (.iload_n 3, 1) := by decide +kernel
theorem dL_law_995 : decode cL_law 995 = .ok (.iconst 2, 1) := by decide +kernel
theorem dL_law_996 : decode cL_law 996 = .ok (.iadd, 1) := by decide +kernel
theorem dL_law_997 : decode cL_law 997 = .ok (.iaload, 1) := by decide +kernel
theorem dL_law_998 : decode cL_law 998 = .ok (.aload_n 0, 1) := by decide +kernel
theorem dL_law_999 : decode cL_law 999 = .ok (.iload_n 3, 1) := by decide +kernel
theorem dL_law_1000 : decode cL_law 1000 = .ok (.iconst 3, 1) := by decide +kernel
theorem dL_law_1001 : decode cL_law 1001 = .ok (.iadd, 1) := by decide +kernel
theorem dL_law_1002 : decode cL_law 1002 = .ok (.iaload, 1) := by decide +kernel
theorem wd_659 : Cond.methodLink "LearnLoansLaw" 88 yX7_over ∈ am_ws := am_wsi (List.mem_of_getElem? (i := 659) (by decide +kernel)) (by decide +kernel)
theorem wd_660 : Cond.instanceMethod yX7_over ∈ am_ws := am_wsi (List.mem_of_getElem? (i := 660) (by decide +kernel)) (by decide +kernel)
theorem wd_661 : Cond.selects "LearnLoans" yX7_over yX7_over ∈ am_ws := am_wsi (List.mem_of_getElem? (i := 661) (by decide +kernel)) (by decide +kernel)
theorem wd_662 : Cond.code yX7_over cX7_over 4 (some .long) ∈ am_ws := am_wsi (List.mem_of_getElem? (i := 662) (by decide +kernel)) (by decide +kernel)
theorem dL_law_1003 : decode cL_law 1003 = .ok (.invokevirtual 88, 3) := by decide +kernel
theorem dL_law_1006 : decode cL_law 1006 = .ok (.aload_n 2, 1) := by decide +kernel
theorem dL_law_1007 : decode cL_law 1007 = .ok (.aload_n 0, 1) := by decide +kernel
theorem dL_law_1008 : decode cL_law 1008 = .ok (.iload_n 3, 1) := by decide +kernel
theorem dL_law_1009 : decode cL_law 1009 = .ok (.iconst 1, 1) := by decide +kernel
theorem dL_law_1010 : decode cL_law 1010 = .ok (.iadd, 1) := by decide +kernel
theorem dL_law_1011 : decode cL_law 1011 = .ok (.iaload, 1) := by decide +kernel
theorem dL_law_1012 : decode cL_law 1012 = .ok (.aload_n 0, 1) := by decide +kernel
theorem dL_law_1013 : decode cL_law 1013 = .ok (.iload_n 3, 1) := by decide +kernel
theorem dL_law_1014 : decode cL_law 1014 = .ok (.iconst 2, 1) := by decide +kernel
theorem dL_law_1015 : decode cL_law 1015 = .ok (.iadd, 1) := by decide +kernel
theorem dL_law_1016 : decode cL_law 1016 = .ok (.iaload, 1) := by decide +kernel
theorem dL_law_1017 : decode cL_law 1017 = .ok (.aload_n 0, 1) := by decide +kernel
theorem dL_law_1018 : decode cL_law 1018 = .ok (.iload_n 3, 1) := by decide +kernel
theorem dL_law_1019 : decode cL_law 1019 = .ok (.iconst 3, 1) := by decide +kernel
theorem dL_law_1020 : decode cL_law 1020 = .ok (.iadd, 1) := by decide +kernel
theorem dL_law_1021 : decode cL_law 1021 = .ok (.iaload, 1) := by decide +kernel
theorem wd_1203 : Cond.methodLink "LearnLoansLaw" 92 yX8_over ∈ am_ws := am_wsi (List.mem_of_getElem? (i := 1203) (by decide +kernel)) (by decide +kernel)
theorem wd_1204 : Cond.instanceMethod yX8_over ∈ am_ws := am_wsi (List.mem_of_getElem? (i := 1204) (by decide +kernel)) (by decide +kernel)
theorem wd_1205 : Cond.selects "LearnLoansModel" yX8_over yX8_over ∈ am_ws := am_wsi (List.mem_of_getElem? (i := 1205) (by decide +kernel)) (by decide +kernel)
theorem wd_1206 : Cond.code yX8_over cX8_over 6 (some .long) ∈ am_ws := am_wsi (List.mem_of_getElem? (i := 1206) (by decide +kernel)) (by decide +kernel)
theorem dL_law_1022 : decode cL_law 1022 = .ok (.invokevirtual 92, 3) := by decide +kernel
theorem dL_law_1025 : decode cL_law 1025 = .ok (.lcmp, 1) := by decide +kernel
theorem dL_law_1026 : decode cL_law 1026 = .ok (.ifCond .eq 823, 3) := by decide +kernel
def kL_c17 (Ln : Nat) (xs : Nat → Int32) : an_code := [(987, an_lf (fun live => am_aload 1 988)), (988, an_lf (fun live => am_aload 0 989)), (989, an_lf (fun live => am_iload 3 990)), (990, an_lf (fun live => am_const (.int 1) 991)), (991, an_lf (fun live => am_i2 (fun x y => x + y) 992)), (992, an_sld Ln xs 993), (993, an_lf (fun live => am_aload 0 994)), (994, an_lf (fun live => am_iload 3 995)), (995, an_lf (fun live => am_const (.int 2) 996)), (996, an_lf (fun live => am_i2 (fun x y => x + y) 997)), (997, an_sld Ln xs 998), (998, an_lf (fun live => am_aload 0 999)), (999, an_lf (fun live => am_iload 3 1000)), (1000, an_lf (fun live => am_const (.int 3) 1001)), (1001, an_lf (fun live => am_i2 (fun x y => x + y) 1002)), (1002, an_sld Ln xs 1003), (1003, an_lf (fun live => am_callV live 7 3 TX7_over 1006)), (1006, an_lf (fun live => am_aload 2 1007)), (1007, an_lf (fun live => am_aload 0 1008)), (1008, an_lf (fun live => am_iload 3 1009)), (1009, an_lf (fun live => am_const (.int 1) 1010)), (1010, an_lf (fun live => am_i2 (fun x y => x + y) 1011)), (1011, an_sld Ln xs 1012), (1012, an_lf (fun live => am_aload 0 1013)), (1013, an_lf (fun live => am_iload 3 1014)), (1014, an_lf (fun live => am_const (.int 2) 1015)), (1015, an_lf (fun live => am_i2 (fun x y => x + y) 1016)), (1016, an_sld Ln xs 1017), (1017, an_lf (fun live => am_aload 0 1018)), (1018, an_lf (fun live => am_iload 3 1019)), (1019, an_lf (fun live => am_const (.int 3) 1020)), (1020, an_lf (fun live => am_i2 (fun x y => x + y) 1021)), (1021, an_sld Ln xs 1022), (1022, an_lf (fun live => am_callV live 8 3 TX8_over 1025)), (1025, an_lf (fun live => am_lcmp 1026)), (1026, an_lf (fun live => am_if1 (fun x => x = 0) 1849 1029))]
theorem koL_c17 (Ln : Nat) (xs : Nat → Int32) : ∀ q ∈ kL_c17 Ln xs, an_ok RL cL_law 4 (some .boolean) 2000 80000 600000 7302250 false (lawP Ln xs) an_noR q.1 q.2 :=
  an_kc (an_lift (fun live => ak_aload_n dL_law_987 rfl rfl)) <|
  an_kc (an_lift (fun live => ak_aload_n dL_law_988 rfl rfl)) <|
  an_kc (an_lift (fun live => ak_iload_n dL_law_989 rfl rfl)) <|
  an_kc (an_lift (fun live => ak_iconst dL_law_990 (by decide +kernel) rfl)) <|
  an_kc (an_lift (fun live => ak_iadd dL_law_991 rfl)) <|
  an_kc (nk_sld dL_law_992 rfl) <|
  an_kc (an_lift (fun live => ak_aload_n dL_law_993 rfl rfl)) <|
  an_kc (an_lift (fun live => ak_iload_n dL_law_994 rfl rfl)) <|
  an_kc (an_lift (fun live => ak_iconst dL_law_995 (by decide +kernel) rfl)) <|
  an_kc (an_lift (fun live => ak_iadd dL_law_996 rfl)) <|
  an_kc (nk_sld dL_law_997 rfl) <|
  an_kc (an_lift (fun live => ak_aload_n dL_law_998 rfl rfl)) <|
  an_kc (an_lift (fun live => ak_iload_n dL_law_999 rfl rfl)) <|
  an_kc (an_lift (fun live => ak_iconst dL_law_1000 (by decide +kernel) rfl)) <|
  an_kc (an_lift (fun live => ak_iadd dL_law_1001 rfl)) <|
  an_kc (nk_sld dL_law_1002 rfl) <|
  an_kc (an_lift (fun live => ak_callV (C := RX7) (F := TX7) (N := 4) metX7_over rfl ⟨rfl, by decide +kernel, by decide +kernel, by decide +kernel⟩ (am_w5 wd_659 wd_660 wd_661 wd_58 wd_662) (by decide) dL_law_1003 rfl)) <|
  an_kc (an_lift (fun live => ak_aload_n dL_law_1006 rfl rfl)) <|
  an_kc (an_lift (fun live => ak_aload_n dL_law_1007 rfl rfl)) <|
  an_kc (an_lift (fun live => ak_iload_n dL_law_1008 rfl rfl)) <|
  an_kc (an_lift (fun live => ak_iconst dL_law_1009 (by decide +kernel) rfl)) <|
  an_kc (an_lift (fun live => ak_iadd dL_law_1010 rfl)) <|
  an_kc (nk_sld dL_law_1011 rfl) <|
  an_kc (an_lift (fun live => ak_aload_n dL_law_1012 rfl rfl)) <|
  an_kc (an_lift (fun live => ak_iload_n dL_law_1013 rfl rfl)) <|
  an_kc (an_lift (fun live => ak_iconst dL_law_1014 (by decide +kernel) rfl)) <|
  an_kc (an_lift (fun live => ak_iadd dL_law_1015 rfl)) <|
  an_kc (nk_sld dL_law_1016 rfl) <|
  an_kc (an_lift (fun live => ak_aload_n dL_law_1017 rfl rfl)) <|
  an_kc (an_lift (fun live => ak_iload_n dL_law_1018 rfl rfl)) <|
  an_kc (an_lift (fun live => ak_iconst dL_law_1019 (by decide +kernel) rfl)) <|
  an_kc (an_lift (fun live => ak_iadd dL_law_1020 rfl)) <|
  an_kc (nk_sld dL_law_1021 rfl) <|
  an_kc (an_lift (fun live => ak_callV (C := RX8) (F := TX8) (N := 27) metX8_over rfl ⟨rfl, by decide +kernel, by decide +kernel, by decide +kernel⟩ (am_w5 wd_1203 wd_1204 wd_1205 wd_67 wd_1206) (by decide) dL_law_1022 rfl)) <|
  an_kc (an_lift (fun live => ak_lcmp dL_law_1025 rfl)) <|
  an_kc (an_lift (fun live => ak_if_eq dL_law_1026 (by decide +kernel) rfl)) <| an_kn
set_option maxRecDepth 100000 in
set_option maxHeartbeats 4000000 in
theorem caseL_c17 (xs : Nat → Int32) : an_wp (kL_c17 8 xs) lawC 200 (an_go (kL_c17 8 xs) 987) lawL [] lawX := by
    have f7 := an_Mf7
    have f8 := an_Mf8
    repeat' (first | (with_reducible exact f7) | (with_reducible exact f8) | apply And.intro | exact rfl | (intro hx; with_reducible exact absurd rfl hx) | (intro hx; with_reducible exact absurd ((lg_cmp_eq _ _).mpr rfl) hx) | (intro hx; exact absurd hx (by decide)) | (intro hx; exact absurd (by decide) hx) | decide | intro hx | (refine Exists.intro _ (And.intro rfl ?_)))
    all_goals try first | (with_reducible change am_tI _ _) | (change Ret _ _) | (change Ret _ _ _) | (change Exists _)
    all_goals try dsimp only at *
    all_goals try exact absurd ‹(1000 : Int64) = 0› (by decide)
    all_goals first
      | exact ⟨_, _, rfl⟩
      | exact f8.lo ‹am_ch am_lo _ _›
      | exact (f8.lo ‹am_ch am_lo _ _›).1 _ ‹_›
      | exact (f8.lo ‹am_ch am_lo _ _›).2.1 _ ‹_›
      | exact (f8.lo ‹am_ch am_lo _ _›).2.2.1 _ ‹_›
      | exact (f8.lo ‹am_ch am_lo _ _›).2.2.2.1 _ ‹_›
      | exact (f8.lo ‹am_ch am_lo _ _›).2.2.2.2 _ ‹_›
      | exact (f8.hi ‹∀ a k, 200 ≤ a → _›).1 _ ‹_›
      | exact (f8.hi ‹∀ a k, 200 ≤ a → _›).2.1 _ ‹_›
      | exact (f8.hi ‹∀ a k, 200 ≤ a → _›).2.2.1 _ ‹_›
      | exact (f8.hi ‹∀ a k, 200 ≤ a → _›).2.2.2.1 _ ‹_›
      | exact (f8.hi ‹∀ a k, 200 ≤ a → _›).2.2.2.2 _ ‹_›
      | decide
theorem dL_law_1031 : decode cL_law 1031 = .ok (.aload_n 1, 1) := by decide +kernel
theorem dL_law_1032 : decode cL_law 1032 = .ok (.aload_n 0, 1) := by decide +kernel
theorem dL_law_1033 : decode cL_law 1033 = .ok (.iload_n 3, 1) := by decide +kernel
theorem dL_law_1034 : decode cL_law 1034 = .ok (.iconst 1, 1) := by decide +kernel
theorem dL_law_1035 : decode cL_law 1035 = .ok (.iadd, 1) := by decide +kernel
theorem dL_law_1036 : decode cL_law 1036 = .ok (.iaload, 1) := by decide +kernel
theorem dL_law_1037 : decode cL_law 1037 = .ok (.aload_n 0, 1) := by decide +kernel
theorem dL_law_1038 : decode cL_law 1038 = .ok (.iload_n 3, 1) := by decide +kernel
theorem dL_law_1039 : decode cL_law 1039 = .ok (.iconst 2, 1) := by decide +kernel
theorem dL_law_1040 : decode cL_law 1040 = .ok (.iadd, 1) := by decide +kernel
theorem dL_law_1041 : decode cL_law 1041 = .ok (.iaload, 1) := by decide +kernel
theorem wd_664 : Cond.methodLink "LearnLoansLaw" 93 yX7_write ∈ am_ws := am_wsi (List.mem_of_getElem? (i := 664) (by decide +kernel)) (by decide +kernel)
theorem wd_665 : Cond.instanceMethod yX7_write ∈ am_ws := am_wsi (List.mem_of_getElem? (i := 665) (by decide +kernel)) (by decide +kernel)
theorem wd_666 : Cond.selects "LearnLoans" yX7_write yX7_write ∈ am_ws := am_wsi (List.mem_of_getElem? (i := 666) (by decide +kernel)) (by decide +kernel)
theorem wd_667 : Cond.code yX7_write cX7_write 4 (some .int) ∈ am_ws := am_wsi (List.mem_of_getElem? (i := 667) (by decide +kernel)) (by decide +kernel)
theorem dL_law_1042 : decode cL_law 1042 = .ok (.invokevirtual 93, 3) := by decide +kernel
theorem dL_law_1045 : decode cL_law 1045 = .ok (.aload_n 2, 1) := by decide +kernel
theorem dL_law_1046 : decode cL_law 1046 = .ok (.aload_n 0, 1) := by decide +kernel
theorem dL_law_1047 : decode cL_law 1047 = .ok (.iload_n 3, 1) := by decide +kernel
theorem dL_law_1048 : decode cL_law 1048 = .ok (.iconst 1, 1) := by decide +kernel
theorem dL_law_1049 : decode cL_law 1049 = .ok (.iadd, 1) := by decide +kernel
theorem dL_law_1050 : decode cL_law 1050 = .ok (.iaload, 1) := by decide +kernel
theorem dL_law_1051 : decode cL_law 1051 = .ok (.aload_n 0, 1) := by decide +kernel
theorem dL_law_1052 : decode cL_law 1052 = .ok (.iload_n 3, 1) := by decide +kernel
theorem dL_law_1053 : decode cL_law 1053 = .ok (.iconst 2, 1) := by decide +kernel
theorem dL_law_1054 : decode cL_law 1054 = .ok (.iadd, 1) := by decide +kernel
theorem dL_law_1055 : decode cL_law 1055 = .ok (.iaload, 1) := by decide +kernel
theorem wd_1089 : Cond.methodLink "LearnLoansLaw" 96 yX8_write ∈ am_ws := am_wsi (List.mem_of_getElem? (i := 1089) (by decide +kernel)) (by decide +kernel)
theorem wd_1090 : Cond.instanceMethod yX8_write ∈ am_ws := am_wsi (List.mem_of_getElem? (i := 1090) (by decide +kernel)) (by decide +kernel)
theorem wd_1091 : Cond.selects "LearnLoansModel" yX8_write yX8_write ∈ am_ws := am_wsi (List.mem_of_getElem? (i := 1091) (by decide +kernel)) (by decide +kernel)
theorem wd_1092 : Cond.code yX8_write cX8_write 4 (some .int) ∈ am_ws := am_wsi (List.mem_of_getElem? (i := 1092) (by decide +kernel)) (by decide +kernel)
theorem dL_law_1056 : decode cL_law 1056 = .ok (.invokevirtual 96, 3) := by decide +kernel
theorem dL_law_1059 : decode cL_law 1059 = .ok (.if_icmp .eq 790, 3) := by decide +kernel
def kL_c18 (Ln : Nat) (xs : Nat → Int32) : an_code := [(1031, an_lf (fun live => am_aload 1 1032)), (1032, an_lf (fun live => am_aload 0 1033)), (1033, an_lf (fun live => am_iload 3 1034)), (1034, an_lf (fun live => am_const (.int 1) 1035)), (1035, an_lf (fun live => am_i2 (fun x y => x + y) 1036)), (1036, an_sld Ln xs 1037), (1037, an_lf (fun live => am_aload 0 1038)), (1038, an_lf (fun live => am_iload 3 1039)), (1039, an_lf (fun live => am_const (.int 2) 1040)), (1040, an_lf (fun live => am_i2 (fun x y => x + y) 1041)), (1041, an_sld Ln xs 1042), (1042, an_lf (fun live => am_callV live 7 2 TX7_write 1045)), (1045, an_lf (fun live => am_aload 2 1046)), (1046, an_lf (fun live => am_aload 0 1047)), (1047, an_lf (fun live => am_iload 3 1048)), (1048, an_lf (fun live => am_const (.int 1) 1049)), (1049, an_lf (fun live => am_i2 (fun x y => x + y) 1050)), (1050, an_sld Ln xs 1051), (1051, an_lf (fun live => am_aload 0 1052)), (1052, an_lf (fun live => am_iload 3 1053)), (1053, an_lf (fun live => am_const (.int 2) 1054)), (1054, an_lf (fun live => am_i2 (fun x y => x + y) 1055)), (1055, an_sld Ln xs 1056), (1056, an_lf (fun live => am_callV live 8 2 TX8_write 1059)), (1059, an_lf (fun live => am_if2 (fun x y => x = y) 1849 1062))]
theorem koL_c18 (Ln : Nat) (xs : Nat → Int32) : ∀ q ∈ kL_c18 Ln xs, an_ok RL cL_law 4 (some .boolean) 2000 80000 600000 7302250 false (lawP Ln xs) an_noR q.1 q.2 :=
  an_kc (an_lift (fun live => ak_aload_n dL_law_1031 rfl rfl)) <|
  an_kc (an_lift (fun live => ak_aload_n dL_law_1032 rfl rfl)) <|
  an_kc (an_lift (fun live => ak_iload_n dL_law_1033 rfl rfl)) <|
  an_kc (an_lift (fun live => ak_iconst dL_law_1034 (by decide +kernel) rfl)) <|
  an_kc (an_lift (fun live => ak_iadd dL_law_1035 rfl)) <|
  an_kc (nk_sld dL_law_1036 rfl) <|
  an_kc (an_lift (fun live => ak_aload_n dL_law_1037 rfl rfl)) <|
  an_kc (an_lift (fun live => ak_iload_n dL_law_1038 rfl rfl)) <|
  an_kc (an_lift (fun live => ak_iconst dL_law_1039 (by decide +kernel) rfl)) <|
  an_kc (an_lift (fun live => ak_iadd dL_law_1040 rfl)) <|
  an_kc (nk_sld dL_law_1041 rfl) <|
  an_kc (an_lift (fun live => ak_callV (C := RX7) (F := TX7) (N := 4) metX7_write rfl ⟨rfl, by decide +kernel, by decide +kernel, by decide +kernel⟩ (am_w5 wd_664 wd_665 wd_666 wd_58 wd_667) (by decide) dL_law_1042 rfl)) <|
  an_kc (an_lift (fun live => ak_aload_n dL_law_1045 rfl rfl)) <|
  an_kc (an_lift (fun live => ak_aload_n dL_law_1046 rfl rfl)) <|
  an_kc (an_lift (fun live => ak_iload_n dL_law_1047 rfl rfl)) <|
  an_kc (an_lift (fun live => ak_iconst dL_law_1048 (by decide +kernel) rfl)) <|
  an_kc (an_lift (fun live => ak_iadd dL_law_1049 rfl)) <|
  an_kc (nk_sld dL_law_1050 rfl) <|
  an_kc (an_lift (fun live => ak_aload_n dL_law_1051 rfl rfl)) <|
  an_kc (an_lift (fun live => ak_iload_n dL_law_1052 rfl rfl)) <|
  an_kc (an_lift (fun live => ak_iconst dL_law_1053 (by decide +kernel) rfl)) <|
  an_kc (an_lift (fun live => ak_iadd dL_law_1054 rfl)) <|
  an_kc (nk_sld dL_law_1055 rfl) <|
  an_kc (an_lift (fun live => ak_callV (C := RX8) (F := TX8) (N := 27) metX8_write rfl ⟨rfl, by decide +kernel, by decide +kernel, by decide +kernel⟩ (am_w5 wd_1089 wd_1090 wd_1091 wd_67 wd_1092) (by decide) dL_law_1056 rfl)) <|
  an_kc (an_lift (fun live => ak_icmp_eq dL_law_1059 (by decide +kernel) rfl)) <| an_kn
set_option maxRecDepth 100000 in
set_option maxHeartbeats 4000000 in
theorem caseL_c18 (xs : Nat → Int32) : an_wp (kL_c18 8 xs) lawC 200 (an_go (kL_c18 8 xs) 1031) lawL [] lawX := by
    have f7 := an_Mf7
    have f8 := an_Mf8
    repeat' (first | (with_reducible exact f7) | (with_reducible exact f8) | apply And.intro | exact rfl | (intro hx; with_reducible exact absurd rfl hx) | (intro hx; with_reducible exact absurd ((lg_cmp_eq _ _).mpr rfl) hx) | (intro hx; exact absurd hx (by decide)) | (intro hx; exact absurd (by decide) hx) | decide | intro hx | (refine Exists.intro _ (And.intro rfl ?_)))
    all_goals try first | (with_reducible change am_tI _ _) | (change Ret _ _) | (change Ret _ _ _) | (change Exists _)
    all_goals try dsimp only at *
    all_goals try exact absurd ‹(1000 : Int64) = 0› (by decide)
    all_goals first
      | exact ⟨_, _, rfl⟩
      | exact f8.lo ‹am_ch am_lo _ _›
      | exact (f8.lo ‹am_ch am_lo _ _›).1 _ ‹_›
      | exact (f8.lo ‹am_ch am_lo _ _›).2.1 _ ‹_›
      | exact (f8.lo ‹am_ch am_lo _ _›).2.2.1 _ ‹_›
      | exact (f8.lo ‹am_ch am_lo _ _›).2.2.2.1 _ ‹_›
      | exact (f8.lo ‹am_ch am_lo _ _›).2.2.2.2 _ ‹_›
      | exact (f8.hi ‹∀ a k, 200 ≤ a → _›).1 _ ‹_›
      | exact (f8.hi ‹∀ a k, 200 ≤ a → _›).2.1 _ ‹_›
      | exact (f8.hi ‹∀ a k, 200 ≤ a → _›).2.2.1 _ ‹_›
      | exact (f8.hi ‹∀ a k, 200 ≤ a → _›).2.2.2.1 _ ‹_›
      | exact (f8.hi ‹∀ a k, 200 ≤ a → _›).2.2.2.2 _ ‹_›
      | decide
theorem dL_law_1064 : decode cL_law 1064 = .ok (.aload_n 1, 1) := by decide +kernel
theorem dL_law_1065 : decode cL_law 1065 = .ok (.aload_n 0, 1) := by decide +kernel
theorem dL_law_1066 : decode cL_law 1066 = .ok (.iload_n 3, 1) := by decide +kernel
theorem dL_law_1067 : decode cL_law 1067 = .ok (.iconst 1, 1) := by decide +kernel
theorem dL_law_1068 : decode cL_law 1068 = .ok (.iadd, 1) := by decide +kernel
theorem dL_law_1069 : decode cL_law 1069 = .ok (.iaload, 1) := by decide +kernel
theorem wd_718 : Cond.methodLink "LearnLoansLaw" 97 yX7_erase ∈ am_ws := am_wsi (List.mem_of_getElem? (i := 718) (by decide +kernel)) (by decide +kernel)
theorem wd_719 : Cond.instanceMethod yX7_erase ∈ am_ws := am_wsi (List.mem_of_getElem? (i := 719) (by decide +kernel)) (by decide +kernel)
theorem wd_720 : Cond.selects "LearnLoans" yX7_erase yX7_erase ∈ am_ws := am_wsi (List.mem_of_getElem? (i := 720) (by decide +kernel)) (by decide +kernel)
theorem wd_721 : Cond.code yX7_erase cX7_erase 4 (some .int) ∈ am_ws := am_wsi (List.mem_of_getElem? (i := 721) (by decide +kernel)) (by decide +kernel)
theorem dL_law_1070 : decode cL_law 1070 = .ok (.invokevirtual 97, 3) := by decide +kernel
theorem dL_law_1073 : decode cL_law 1073 = .ok (.aload_n 2, 1) := by decide +kernel
theorem dL_law_1074 : decode cL_law 1074 = .ok (.aload_n 0, 1) := by decide +kernel
theorem dL_law_1075 : decode cL_law 1075 = .ok (.iload_n 3, 1) := by decide +kernel
theorem dL_law_1076 : decode cL_law 1076 = .ok (.iconst 1, 1) := by decide +kernel
theorem dL_law_1077 : decode cL_law 1077 = .ok (.iadd, 1) := by decide +kernel
theorem dL_law_1078 : decode cL_law 1078 = .ok (.iaload, 1) := by decide +kernel
theorem wd_1094 : Cond.methodLink "LearnLoansLaw" 100 yX8_erase ∈ am_ws := am_wsi (List.mem_of_getElem? (i := 1094) (by decide +kernel)) (by decide +kernel)
theorem wd_1095 : Cond.instanceMethod yX8_erase ∈ am_ws := am_wsi (List.mem_of_getElem? (i := 1095) (by decide +kernel)) (by decide +kernel)
theorem wd_1096 : Cond.selects "LearnLoansModel" yX8_erase yX8_erase ∈ am_ws := am_wsi (List.mem_of_getElem? (i := 1096) (by decide +kernel)) (by decide +kernel)
theorem wd_1097 : Cond.code yX8_erase cX8_erase 3 (some .int) ∈ am_ws := am_wsi (List.mem_of_getElem? (i := 1097) (by decide +kernel)) (by decide +kernel)
theorem dL_law_1079 : decode cL_law 1079 = .ok (.invokevirtual 100, 3) := by decide +kernel
theorem dL_law_1082 : decode cL_law 1082 = .ok (.if_icmp .eq 767, 3) := by decide +kernel
def kL_c19 (Ln : Nat) (xs : Nat → Int32) : an_code := [(1064, an_lf (fun live => am_aload 1 1065)), (1065, an_lf (fun live => am_aload 0 1066)), (1066, an_lf (fun live => am_iload 3 1067)), (1067, an_lf (fun live => am_const (.int 1) 1068)), (1068, an_lf (fun live => am_i2 (fun x y => x + y) 1069)), (1069, an_sld Ln xs 1070), (1070, an_lf (fun live => am_callV live 7 1 TX7_erase 1073)), (1073, an_lf (fun live => am_aload 2 1074)), (1074, an_lf (fun live => am_aload 0 1075)), (1075, an_lf (fun live => am_iload 3 1076)), (1076, an_lf (fun live => am_const (.int 1) 1077)), (1077, an_lf (fun live => am_i2 (fun x y => x + y) 1078)), (1078, an_sld Ln xs 1079), (1079, an_lf (fun live => am_callV live 8 1 TX8_erase 1082)), (1082, an_lf (fun live => am_if2 (fun x y => x = y) 1849 1085))]
theorem koL_c19 (Ln : Nat) (xs : Nat → Int32) : ∀ q ∈ kL_c19 Ln xs, an_ok RL cL_law 4 (some .boolean) 2000 80000 600000 7302250 false (lawP Ln xs) an_noR q.1 q.2 :=
  an_kc (an_lift (fun live => ak_aload_n dL_law_1064 rfl rfl)) <|
  an_kc (an_lift (fun live => ak_aload_n dL_law_1065 rfl rfl)) <|
  an_kc (an_lift (fun live => ak_iload_n dL_law_1066 rfl rfl)) <|
  an_kc (an_lift (fun live => ak_iconst dL_law_1067 (by decide +kernel) rfl)) <|
  an_kc (an_lift (fun live => ak_iadd dL_law_1068 rfl)) <|
  an_kc (nk_sld dL_law_1069 rfl) <|
  an_kc (an_lift (fun live => ak_callV (C := RX7) (F := TX7) (N := 4) metX7_erase rfl ⟨rfl, by decide +kernel, by decide +kernel, by decide +kernel⟩ (am_w5 wd_718 wd_719 wd_720 wd_58 wd_721) (by decide) dL_law_1070 rfl)) <|
  an_kc (an_lift (fun live => ak_aload_n dL_law_1073 rfl rfl)) <|
  an_kc (an_lift (fun live => ak_aload_n dL_law_1074 rfl rfl)) <|
  an_kc (an_lift (fun live => ak_iload_n dL_law_1075 rfl rfl)) <|
  an_kc (an_lift (fun live => ak_iconst dL_law_1076 (by decide +kernel) rfl)) <|
  an_kc (an_lift (fun live => ak_iadd dL_law_1077 rfl)) <|
  an_kc (nk_sld dL_law_1078 rfl) <|
  an_kc (an_lift (fun live => ak_callV (C := RX8) (F := TX8) (N := 27) metX8_erase rfl ⟨rfl, by decide +kernel, by decide +kernel, by decide +kernel⟩ (am_w5 wd_1094 wd_1095 wd_1096 wd_67 wd_1097) (by decide) dL_law_1079 rfl)) <|
  an_kc (an_lift (fun live => ak_icmp_eq dL_law_1082 (by decide +kernel) rfl)) <| an_kn
set_option maxRecDepth 100000 in
set_option maxHeartbeats 4000000 in
theorem caseL_c19 (xs : Nat → Int32) : an_wp (kL_c19 8 xs) lawC 200 (an_go (kL_c19 8 xs) 1064) lawL [] lawX := by
    have f7 := an_Mf7
    have f8 := an_Mf8
    repeat' (first | (with_reducible exact f7) | (with_reducible exact f8) | apply And.intro | exact rfl | (intro hx; with_reducible exact absurd rfl hx) | (intro hx; with_reducible exact absurd ((lg_cmp_eq _ _).mpr rfl) hx) | (intro hx; exact absurd hx (by decide)) | (intro hx; exact absurd (by decide) hx) | decide | intro hx | (refine Exists.intro _ (And.intro rfl ?_)))
    all_goals try first | (with_reducible change am_tI _ _) | (change Ret _ _) | (change Ret _ _ _) | (change Exists _)
    all_goals try dsimp only at *
    all_goals try exact absurd ‹(1000 : Int64) = 0› (by decide)
    all_goals first
      | exact ⟨_, _, rfl⟩
      | exact f8.lo ‹am_ch am_lo _ _›
      | exact (f8.lo ‹am_ch am_lo _ _›).1 _ ‹_›
      | exact (f8.lo ‹am_ch am_lo _ _›).2.1 _ ‹_›
      | exact (f8.lo ‹am_ch am_lo _ _›).2.2.1 _ ‹_›
      | exact (f8.lo ‹am_ch am_lo _ _›).2.2.2.1 _ ‹_›
      | exact (f8.lo ‹am_ch am_lo _ _›).2.2.2.2 _ ‹_›
      | exact (f8.hi ‹∀ a k, 200 ≤ a → _›).1 _ ‹_›
      | exact (f8.hi ‹∀ a k, 200 ≤ a → _›).2.1 _ ‹_›
      | exact (f8.hi ‹∀ a k, 200 ≤ a → _›).2.2.1 _ ‹_›
      | exact (f8.hi ‹∀ a k, 200 ≤ a → _›).2.2.2.1 _ ‹_›
      | exact (f8.hi ‹∀ a k, 200 ≤ a → _›).2.2.2.2 _ ‹_›
      | decide
theorem dL_law_1087 : decode cL_law 1087 = .ok (.aload_n 1, 1) := by decide +kernel
theorem dL_law_1088 : decode cL_law 1088 = .ok (.aload_n 0, 1) := by decide +kernel
theorem dL_law_1089 : decode cL_law 1089 = .ok (.iload_n 3, 1) := by decide +kernel
theorem dL_law_1090 : decode cL_law 1090 = .ok (.iconst 1, 1) := by decide +kernel
theorem dL_law_1091 : decode cL_law 1091 = .ok (.iadd, 1) := by decide +kernel
theorem dL_law_1092 : decode cL_law 1092 = .ok (.iaload, 1) := by decide +kernel
theorem wd_726 : Cond.methodLink "LearnLoansLaw" 101 yX7_fault ∈ am_ws := am_wsi (List.mem_of_getElem? (i := 726) (by decide +kernel)) (by decide +kernel)
theorem wd_727 : Cond.instanceMethod yX7_fault ∈ am_ws := am_wsi (List.mem_of_getElem? (i := 727) (by decide +kernel)) (by decide +kernel)
theorem wd_728 : Cond.selects "LearnLoans" yX7_fault yX7_fault ∈ am_ws := am_wsi (List.mem_of_getElem? (i := 728) (by decide +kernel)) (by decide +kernel)
theorem wd_729 : Cond.code yX7_fault cX7_fault 2 (some .int) ∈ am_ws := am_wsi (List.mem_of_getElem? (i := 729) (by decide +kernel)) (by decide +kernel)
theorem dL_law_1093 : decode cL_law 1093 = .ok (.invokevirtual 101, 3) := by decide +kernel
theorem dL_law_1096 : decode cL_law 1096 = .ok (.aload_n 2, 1) := by decide +kernel
theorem dL_law_1097 : decode cL_law 1097 = .ok (.aload_n 0, 1) := by decide +kernel
theorem dL_law_1098 : decode cL_law 1098 = .ok (.iload_n 3, 1) := by decide +kernel
theorem dL_law_1099 : decode cL_law 1099 = .ok (.iconst 1, 1) := by decide +kernel
theorem dL_law_1100 : decode cL_law 1100 = .ok (.iadd, 1) := by decide +kernel
theorem dL_law_1101 : decode cL_law 1101 = .ok (.iaload, 1) := by decide +kernel
theorem wd_1098 : Cond.methodLink "LearnLoansLaw" 104 yX8_fault ∈ am_ws := am_wsi (List.mem_of_getElem? (i := 1098) (by decide +kernel)) (by decide +kernel)
theorem wd_1099 : Cond.instanceMethod yX8_fault ∈ am_ws := am_wsi (List.mem_of_getElem? (i := 1099) (by decide +kernel)) (by decide +kernel)
theorem wd_1100 : Cond.selects "LearnLoansModel" yX8_fault yX8_fault ∈ am_ws := am_wsi (List.mem_of_getElem? (i := 1100) (by decide +kernel)) (by decide +kernel)
theorem wd_1101 : Cond.code yX8_fault cX8_fault 2 (some .int) ∈ am_ws := am_wsi (List.mem_of_getElem? (i := 1101) (by decide +kernel)) (by decide +kernel)
theorem dL_law_1102 : decode cL_law 1102 = .ok (.invokevirtual 104, 3) := by decide +kernel
theorem dL_law_1105 : decode cL_law 1105 = .ok (.if_icmp .eq 744, 3) := by decide +kernel
def kL_c20 (Ln : Nat) (xs : Nat → Int32) : an_code := [(1087, an_lf (fun live => am_aload 1 1088)), (1088, an_lf (fun live => am_aload 0 1089)), (1089, an_lf (fun live => am_iload 3 1090)), (1090, an_lf (fun live => am_const (.int 1) 1091)), (1091, an_lf (fun live => am_i2 (fun x y => x + y) 1092)), (1092, an_sld Ln xs 1093), (1093, an_lf (fun live => am_callV live 7 1 TX7_fault 1096)), (1096, an_lf (fun live => am_aload 2 1097)), (1097, an_lf (fun live => am_aload 0 1098)), (1098, an_lf (fun live => am_iload 3 1099)), (1099, an_lf (fun live => am_const (.int 1) 1100)), (1100, an_lf (fun live => am_i2 (fun x y => x + y) 1101)), (1101, an_sld Ln xs 1102), (1102, an_lf (fun live => am_callV live 8 1 TX8_fault 1105)), (1105, an_lf (fun live => am_if2 (fun x y => x = y) 1849 1108))]
theorem koL_c20 (Ln : Nat) (xs : Nat → Int32) : ∀ q ∈ kL_c20 Ln xs, an_ok RL cL_law 4 (some .boolean) 2000 80000 600000 7302250 false (lawP Ln xs) an_noR q.1 q.2 :=
  an_kc (an_lift (fun live => ak_aload_n dL_law_1087 rfl rfl)) <|
  an_kc (an_lift (fun live => ak_aload_n dL_law_1088 rfl rfl)) <|
  an_kc (an_lift (fun live => ak_iload_n dL_law_1089 rfl rfl)) <|
  an_kc (an_lift (fun live => ak_iconst dL_law_1090 (by decide +kernel) rfl)) <|
  an_kc (an_lift (fun live => ak_iadd dL_law_1091 rfl)) <|
  an_kc (nk_sld dL_law_1092 rfl) <|
  an_kc (an_lift (fun live => ak_callV (C := RX7) (F := TX7) (N := 4) metX7_fault rfl ⟨rfl, by decide +kernel, by decide +kernel, by decide +kernel⟩ (am_w5 wd_726 wd_727 wd_728 wd_58 wd_729) (by decide) dL_law_1093 rfl)) <|
  an_kc (an_lift (fun live => ak_aload_n dL_law_1096 rfl rfl)) <|
  an_kc (an_lift (fun live => ak_aload_n dL_law_1097 rfl rfl)) <|
  an_kc (an_lift (fun live => ak_iload_n dL_law_1098 rfl rfl)) <|
  an_kc (an_lift (fun live => ak_iconst dL_law_1099 (by decide +kernel) rfl)) <|
  an_kc (an_lift (fun live => ak_iadd dL_law_1100 rfl)) <|
  an_kc (nk_sld dL_law_1101 rfl) <|
  an_kc (an_lift (fun live => ak_callV (C := RX8) (F := TX8) (N := 27) metX8_fault rfl ⟨rfl, by decide +kernel, by decide +kernel, by decide +kernel⟩ (am_w5 wd_1098 wd_1099 wd_1100 wd_67 wd_1101) (by decide) dL_law_1102 rfl)) <|
  an_kc (an_lift (fun live => ak_icmp_eq dL_law_1105 (by decide +kernel) rfl)) <| an_kn
set_option maxRecDepth 100000 in
set_option maxHeartbeats 4000000 in
theorem caseL_c20 (xs : Nat → Int32) : an_wp (kL_c20 8 xs) lawC 200 (an_go (kL_c20 8 xs) 1087) lawL [] lawX := by
    have f7 := an_Mf7
    have f8 := an_Mf8
    repeat' (first | (with_reducible exact f7) | (with_reducible exact f8) | apply And.intro | exact rfl | (intro hx; with_reducible exact absurd rfl hx) | (intro hx; with_reducible exact absurd ((lg_cmp_eq _ _).mpr rfl) hx) | (intro hx; exact absurd hx (by decide)) | (intro hx; exact absurd (by decide) hx) | decide | intro hx | (refine Exists.intro _ (And.intro rfl ?_)))
    all_goals try first | (with_reducible change am_tI _ _) | (change Ret _ _) | (change Ret _ _ _) | (change Exists _)
    all_goals try dsimp only at *
    all_goals try exact absurd ‹(1000 : Int64) = 0› (by decide)
    all_goals first
      | exact ⟨_, _, rfl⟩
      | exact f8.lo ‹am_ch am_lo _ _›
      | exact (f8.lo ‹am_ch am_lo _ _›).1 _ ‹_›
      | exact (f8.lo ‹am_ch am_lo _ _›).2.1 _ ‹_›
      | exact (f8.lo ‹am_ch am_lo _ _›).2.2.1 _ ‹_›
      | exact (f8.lo ‹am_ch am_lo _ _›).2.2.2.1 _ ‹_›
      | exact (f8.lo ‹am_ch am_lo _ _›).2.2.2.2 _ ‹_›
      | exact (f8.hi ‹∀ a k, 200 ≤ a → _›).1 _ ‹_›
      | exact (f8.hi ‹∀ a k, 200 ≤ a → _›).2.1 _ ‹_›
      | exact (f8.hi ‹∀ a k, 200 ≤ a → _›).2.2.1 _ ‹_›
      | exact (f8.hi ‹∀ a k, 200 ≤ a → _›).2.2.2.1 _ ‹_›
      | exact (f8.hi ‹∀ a k, 200 ≤ a → _›).2.2.2.2 _ ‹_›
      | decide
