theorem dX0_init_0 : decode cX0_init 0 = .ok (.aload_n 0, 1) := by decide +kernel
theorem dX0_init_1 : decode cX0_init 1 = .ok (.invokespecial 3, 3) := by decide +kernel
theorem dX0_init_4 : decode cX0_init 4 = .ok (.aload_n 0, 1) := by decide +kernel
theorem dX0_init_5 : decode cX0_init 5 = .ok (.iconst 5, 1) := by decide +kernel
theorem dX0_init_6 : decode cX0_init 6 = .ok (.newarray .int, 2) := by decide +kernel
theorem dX0_init_8 : decode cX0_init 8 = .ok (.putfield 9, 3) := by decide +kernel
theorem dX0_init_11 : decode cX0_init 11 = .ok (.aload_n 0, 1) := by decide +kernel
theorem dX0_init_12 : decode cX0_init 12 = .ok (.sipush 1024, 3) := by decide +kernel
theorem dX0_init_15 : decode cX0_init 15 = .ok (.newarray .int, 2) := by decide +kernel
theorem dX0_init_17 : decode cX0_init 17 = .ok (.putfield 15, 3) := by decide +kernel
theorem dX0_init_20 : decode cX0_init 20 = .ok (.aload_n 0, 1) := by decide +kernel
theorem dX0_init_21 : decode cX0_init 21 = .ok (.sipush 1024, 3) := by decide +kernel
theorem dX0_init_24 : decode cX0_init 24 = .ok (.newarray .int, 2) := by decide +kernel
theorem dX0_init_26 : decode cX0_init 26 = .ok (.putfield 18, 3) := by decide +kernel
theorem dX0_init_29 : decode cX0_init 29 = .ok (.aload_n 0, 1) := by decide +kernel
theorem dX0_init_30 : decode cX0_init 30 = .ok (.sipush 1024, 3) := by decide +kernel
theorem dX0_init_33 : decode cX0_init 33 = .ok (.newarray .int, 2) := by decide +kernel
theorem dX0_init_35 : decode cX0_init 35 = .ok (.putfield 21, 3) := by decide +kernel
theorem dX0_init_38 : decode cX0_init 38 = .ok (.aload_n 0, 1) := by decide +kernel
theorem dX0_init_39 : decode cX0_init 39 = .ok (.sipush 1024, 3) := by decide +kernel
theorem dX0_init_42 : decode cX0_init 42 = .ok (.newarray .int, 2) := by decide +kernel
theorem dX0_init_44 : decode cX0_init 44 = .ok (.putfield 24, 3) := by decide +kernel
theorem dX0_init_47 : decode cX0_init 47 = .ok (.aload_n 0, 1) := by decide +kernel
theorem dX0_init_48 : decode cX0_init 48 = .ok (.sipush 1024, 3) := by decide +kernel
theorem dX0_init_51 : decode cX0_init 51 = .ok (.newarray .int, 2) := by decide +kernel
theorem dX0_init_53 : decode cX0_init 53 = .ok (.putfield 27, 3) := by decide +kernel
theorem dX0_init_56 : decode cX0_init 56 = .ok (.aload_n 0, 1) := by decide +kernel
theorem dX0_init_57 : decode cX0_init 57 = .ok (.sipush 1024, 3) := by decide +kernel
theorem dX0_init_60 : decode cX0_init 60 = .ok (.newarray .boolean, 2) := by decide +kernel
theorem dX0_init_62 : decode cX0_init 62 = .ok (.putfield 30, 3) := by decide +kernel
theorem dX0_init_65 : decode cX0_init 65 = .ok (.aload_n 0, 1) := by decide +kernel
theorem dX0_init_66 : decode cX0_init 66 = .ok (.bipush 20, 2) := by decide +kernel
theorem dX0_init_68 : decode cX0_init 68 = .ok (.newarray .int, 2) := by decide +kernel
theorem dX0_init_70 : decode cX0_init 70 = .ok (.putfield 34, 3) := by decide +kernel
theorem dX0_init_73 : decode cX0_init 73 = .ok (.aload_n 0, 1) := by decide +kernel
theorem dX0_init_74 : decode cX0_init 74 = .ok (.aload_n 1, 1) := by decide +kernel
theorem dX0_init_75 : decode cX0_init 75 = .ok (.putfield 37, 3) := by decide +kernel
theorem dX0_init_78 : decode cX0_init 78 = .ok (.return_, 1) := by decide +kernel
set_option maxRecDepth 20000 in
theorem ggX0_refresh_X0_layOut : GoodIn wsX0_refresh wsX0_layOut := goodIn_r _ [10, 11, 5, 12, 13, 14, 15, 32, 33, 34, 35, 36, 37, 38, 39, 40, 41, 42, 43, 44, 45, 46, 47, 48, 49, 50, 51, 52] (by decide +kernel) (by decide +kernel)
set_option maxRecDepth 20000 in
theorem gX0_refresh_X0_layOut : GoodIn wsX0_refresh (wsV RX0 41 RX0 yX0_layOut wsX0_layOut) := goodIn_app (goodIn_of _ (by decide +kernel)) ggX0_refresh_X0_layOut
set_option maxRecDepth 20000 in
theorem ggX0_refresh_X0_judge : GoodIn wsX0_refresh wsX0_judge := goodIn_r _ [19, 11, 20, 21, 22, 23, 12, 24, 25, 26, 27, 32, 33, 34, 35, 36, 37, 38, 39, 40, 41, 42, 43, 44, 45, 46, 47, 48, 49, 50, 51, 52] (by decide +kernel) (by decide +kernel)
set_option maxRecDepth 20000 in
theorem gX0_refresh_X0_judge : GoodIn wsX0_refresh (wsV RX0 57 RX0 yX0_judge wsX0_judge) := goodIn_app (goodIn_of _ (by decide +kernel)) ggX0_refresh_X0_judge
set_option maxRecDepth 20000 in
theorem ggX0_refresh_X0_tally : GoodIn wsX0_refresh wsX0_tally := goodIn_r _ [31, 20, 1, 4, 27, 2, 23, 3, 32, 33, 34, 35, 36, 37, 38, 39, 40, 41, 42, 43, 44] (by decide +kernel) (by decide +kernel)
set_option maxRecDepth 20000 in
theorem gX0_refresh_X0_tally : GoodIn wsX0_refresh (wsV RX0 61 RX0 yX0_tally wsX0_tally) := goodIn_app (goodIn_of _ (by decide +kernel)) ggX0_refresh_X0_tally
theorem dX0_refresh_0 : decode cX0_refresh 0 = .ok (.aload_n 0, 1) := by decide +kernel
theorem dX0_refresh_1 : decode cX0_refresh 1 = .ok (.invokevirtual 41, 3) := by decide +kernel
theorem dX0_refresh_4 : decode cX0_refresh 4 = .ok (.aload_n 0, 1) := by decide +kernel
theorem dX0_refresh_5 : decode cX0_refresh 5 = .ok (.iconst 0, 1) := by decide +kernel
theorem dX0_refresh_6 : decode cX0_refresh 6 = .ok (.putfield 44, 3) := by decide +kernel
theorem dX0_refresh_9 : decode cX0_refresh 9 = .ok (.aload_n 0, 1) := by decide +kernel
theorem dX0_refresh_10 : decode cX0_refresh 10 = .ok (.iconst 0, 1) := by decide +kernel
theorem dX0_refresh_11 : decode cX0_refresh 11 = .ok (.putfield 48, 3) := by decide +kernel
theorem dX0_refresh_14 : decode cX0_refresh 14 = .ok (.aload_n 0, 1) := by decide +kernel
theorem dX0_refresh_15 : decode cX0_refresh 15 = .ok (.iconst 0, 1) := by decide +kernel
theorem dX0_refresh_16 : decode cX0_refresh 16 = .ok (.putfield 51, 3) := by decide +kernel
theorem dX0_refresh_19 : decode cX0_refresh 19 = .ok (.iconst 0, 1) := by decide +kernel
theorem dX0_refresh_20 : decode cX0_refresh 20 = .ok (.istore_n 1, 1) := by decide +kernel
theorem dX0_refresh_21 : decode cX0_refresh 21 = .ok (.iload_n 1, 1) := by decide +kernel
theorem dX0_refresh_22 : decode cX0_refresh 22 = .ok (.bipush 20, 2) := by decide +kernel
theorem dX0_refresh_24 : decode cX0_refresh 24 = .ok (.if_icmp .ge 16, 3) := by decide +kernel
theorem dX0_refresh_27 : decode cX0_refresh 27 = .ok (.aload_n 0, 1) := by decide +kernel
theorem dX0_refresh_28 : decode cX0_refresh 28 = .ok (.getfield 34, 3) := by decide +kernel
theorem dX0_refresh_31 : decode cX0_refresh 31 = .ok (.iload_n 1, 1) := by decide +kernel
theorem dX0_refresh_32 : decode cX0_refresh 32 = .ok (.iconst 0, 1) := by decide +kernel
theorem dX0_refresh_33 : decode cX0_refresh 33 = .ok (.iastore, 1) := by decide +kernel
theorem dX0_refresh_34 : decode cX0_refresh 34 = .ok (.iinc 1 1, 3) := by decide +kernel
theorem dX0_refresh_37 : decode cX0_refresh 37 = .ok (.goto (-16), 3) := by decide +kernel
theorem dX0_refresh_40 : decode cX0_refresh 40 = .ok (.iconst 0, 1) := by decide +kernel
theorem dX0_refresh_41 : decode cX0_refresh 41 = .ok (.istore_n 1, 1) := by decide +kernel
theorem dX0_refresh_42 : decode cX0_refresh 42 = .ok (.iload_n 1, 1) := by decide +kernel
theorem dX0_refresh_43 : decode cX0_refresh 43 = .ok (.aload_n 0, 1) := by decide +kernel
theorem dX0_refresh_44 : decode cX0_refresh 44 = .ok (.getfield 54, 3) := by decide +kernel
theorem dX0_refresh_47 : decode cX0_refresh 47 = .ok (.if_icmp .ge 19, 3) := by decide +kernel
theorem dX0_refresh_50 : decode cX0_refresh 50 = .ok (.aload_n 0, 1) := by decide +kernel
theorem dX0_refresh_51 : decode cX0_refresh 51 = .ok (.iload_n 1, 1) := by decide +kernel
theorem dX0_refresh_52 : decode cX0_refresh 52 = .ok (.invokevirtual 57, 3) := by decide +kernel
theorem dX0_refresh_55 : decode cX0_refresh 55 = .ok (.aload_n 0, 1) := by decide +kernel
theorem dX0_refresh_56 : decode cX0_refresh 56 = .ok (.iload_n 1, 1) := by decide +kernel
theorem dX0_refresh_57 : decode cX0_refresh 57 = .ok (.invokevirtual 61, 3) := by decide +kernel
theorem dX0_refresh_60 : decode cX0_refresh 60 = .ok (.iinc 1 1, 3) := by decide +kernel
theorem dX0_refresh_63 : decode cX0_refresh 63 = .ok (.goto (-21), 3) := by decide +kernel
theorem dX0_refresh_66 : decode cX0_refresh 66 = .ok (.return_, 1) := by decide +kernel
theorem dX0_layOut_0 : decode cX0_layOut 0 = .ok (.aload_n 0, 1) := by decide +kernel
theorem dX0_layOut_1 : decode cX0_layOut 1 = .ok (.getfield 15, 3) := by decide +kernel
theorem dX0_layOut_4 : decode cX0_layOut 4 = .ok (.iconst 0, 1) := by decide +kernel
theorem dX0_layOut_5 : decode cX0_layOut 5 = .ok (.iconst 0, 1) := by decide +kernel
theorem dX0_layOut_6 : decode cX0_layOut 6 = .ok (.iastore, 1) := by decide +kernel
theorem dX0_layOut_7 : decode cX0_layOut 7 = .ok (.aload_n 0, 1) := by decide +kernel
theorem dX0_layOut_8 : decode cX0_layOut 8 = .ok (.iconst 1, 1) := by decide +kernel
theorem dX0_layOut_9 : decode cX0_layOut 9 = .ok (.putfield 54, 3) := by decide +kernel
theorem dX0_layOut_12 : decode cX0_layOut 12 = .ok (.iconst 0, 1) := by decide +kernel
theorem dX0_layOut_13 : decode cX0_layOut 13 = .ok (.istore_n 1, 1) := by decide +kernel
theorem dX0_layOut_14 : decode cX0_layOut 14 = .ok (.iload_n 1, 1) := by decide +kernel
theorem dX0_layOut_15 : decode cX0_layOut 15 = .ok (.aload_n 0, 1) := by decide +kernel
theorem dX0_layOut_16 : decode cX0_layOut 16 = .ok (.getfield 37, 3) := by decide +kernel
theorem dX0_layOut_19 : decode cX0_layOut 19 = .ok (.getfield 64, 3) := by decide +kernel
theorem dX0_layOut_22 : decode cX0_layOut 22 = .ok (.if_icmp .ge 108, 3) := by decide +kernel
theorem dX0_layOut_25 : decode cX0_layOut 25 = .ok (.aload_n 0, 1) := by decide +kernel
theorem dX0_layOut_26 : decode cX0_layOut 26 = .ok (.getfield 9, 3) := by decide +kernel
theorem dX0_layOut_29 : decode cX0_layOut 29 = .ok (.iload_n 1, 1) := by decide +kernel
theorem dX0_layOut_30 : decode cX0_layOut 30 = .ok (.aload_n 0, 1) := by decide +kernel
theorem dX0_layOut_31 : decode cX0_layOut 31 = .ok (.getfield 54, 3) := by decide +kernel
theorem dX0_layOut_34 : decode cX0_layOut 34 = .ok (.iastore, 1) := by decide +kernel
theorem dX0_layOut_35 : decode cX0_layOut 35 = .ok (.aload_n 0, 1) := by decide +kernel
theorem dX0_layOut_36 : decode cX0_layOut 36 = .ok (.getfield 37, 3) := by decide +kernel
theorem dX0_layOut_39 : decode cX0_layOut 39 = .ok (.getfield 69, 3) := by decide +kernel
theorem dX0_layOut_42 : decode cX0_layOut 42 = .ok (.iload_n 1, 1) := by decide +kernel
theorem dX0_layOut_43 : decode cX0_layOut 43 = .ok (.iaload, 1) := by decide +kernel
theorem dX0_layOut_44 : decode cX0_layOut 44 = .ok (.iconst 1, 1) := by decide +kernel
theorem dX0_layOut_45 : decode cX0_layOut 45 = .ok (.isub, 1) := by decide +kernel
theorem dX0_layOut_46 : decode cX0_layOut 46 = .ok (.istore_n 2, 1) := by decide +kernel
theorem dX0_layOut_47 : decode cX0_layOut 47 = .ok (.iload_n 2, 1) := by decide +kernel
theorem dX0_layOut_48 : decode cX0_layOut 48 = .ok (.ifCond .lt 58, 3) := by decide +kernel
theorem dX0_layOut_51 : decode cX0_layOut 51 = .ok (.iconst 1, 1) := by decide +kernel
theorem dX0_layOut_52 : decode cX0_layOut 52 = .ok (.iconst 4, 1) := by decide +kernel
theorem dX0_layOut_53 : decode cX0_layOut 53 = .ok (.iload_n 1, 1) := by decide +kernel
theorem dX0_layOut_54 : decode cX0_layOut 54 = .ok (.imul, 1) := by decide +kernel
theorem dX0_layOut_55 : decode cX0_layOut 55 = .ok (.iload_n 2, 1) := by decide +kernel
theorem dX0_layOut_56 : decode cX0_layOut 56 = .ok (.iadd, 1) := by decide +kernel
theorem dX0_layOut_57 : decode cX0_layOut 57 = .ok (.ishl, 1) := by decide +kernel
theorem dX0_layOut_58 : decode cX0_layOut 58 = .ok (.istore_n 3, 1) := by decide +kernel
theorem dX0_layOut_59 : decode cX0_layOut 59 = .ok (.iconst 0, 1) := by decide +kernel
theorem dX0_layOut_60 : decode cX0_layOut 60 = .ok (.istore 4, 2) := by decide +kernel
theorem dX0_layOut_62 : decode cX0_layOut 62 = .ok (.iload 4, 2) := by decide +kernel
theorem dX0_layOut_64 : decode cX0_layOut 64 = .ok (.aload_n 0, 1) := by decide +kernel
theorem dX0_layOut_65 : decode cX0_layOut 65 = .ok (.getfield 54, 3) := by decide +kernel
theorem dX0_layOut_68 : decode cX0_layOut 68 = .ok (.if_icmp .ge 32, 3) := by decide +kernel
theorem dX0_layOut_71 : decode cX0_layOut 71 = .ok (.aload_n 0, 1) := by decide +kernel
theorem dX0_layOut_72 : decode cX0_layOut 72 = .ok (.getfield 15, 3) := by decide +kernel
theorem dX0_layOut_75 : decode cX0_layOut 75 = .ok (.iload_n 2, 1) := by decide +kernel
theorem dX0_layOut_76 : decode cX0_layOut 76 = .ok (.aload_n 0, 1) := by decide +kernel
theorem dX0_layOut_77 : decode cX0_layOut 77 = .ok (.getfield 54, 3) := by decide +kernel
theorem dX0_layOut_80 : decode cX0_layOut 80 = .ok (.imul, 1) := by decide +kernel
theorem dX0_layOut_81 : decode cX0_layOut 81 = .ok (.iload 4, 2) := by decide +kernel
theorem dX0_layOut_83 : decode cX0_layOut 83 = .ok (.iadd, 1) := by decide +kernel
theorem dX0_layOut_84 : decode cX0_layOut 84 = .ok (.aload_n 0, 1) := by decide +kernel
theorem dX0_layOut_85 : decode cX0_layOut 85 = .ok (.getfield 15, 3) := by decide +kernel
theorem dX0_layOut_88 : decode cX0_layOut 88 = .ok (.iload 4, 2) := by decide +kernel
theorem dX0_layOut_90 : decode cX0_layOut 90 = .ok (.iaload, 1) := by decide +kernel
theorem dX0_layOut_91 : decode cX0_layOut 91 = .ok (.iload_n 3, 1) := by decide +kernel
theorem dX0_layOut_92 : decode cX0_layOut 92 = .ok (.ior, 1) := by decide +kernel
theorem dX0_layOut_93 : decode cX0_layOut 93 = .ok (.iastore, 1) := by decide +kernel
theorem dX0_layOut_94 : decode cX0_layOut 94 = .ok (.iinc 4 1, 3) := by decide +kernel
theorem dX0_layOut_97 : decode cX0_layOut 97 = .ok (.goto (-35), 3) := by decide +kernel
theorem dX0_layOut_100 : decode cX0_layOut 100 = .ok (.iinc 2 (-1), 3) := by decide +kernel
theorem dX0_layOut_103 : decode cX0_layOut 103 = .ok (.goto (-56), 3) := by decide +kernel
theorem dX0_layOut_106 : decode cX0_layOut 106 = .ok (.aload_n 0, 1) := by decide +kernel
theorem dX0_layOut_107 : decode cX0_layOut 107 = .ok (.dup, 1) := by decide +kernel
theorem dX0_layOut_108 : decode cX0_layOut 108 = .ok (.getfield 54, 3) := by decide +kernel
theorem dX0_layOut_111 : decode cX0_layOut 111 = .ok (.aload_n 0, 1) := by decide +kernel
theorem dX0_layOut_112 : decode cX0_layOut 112 = .ok (.getfield 37, 3) := by decide +kernel
theorem dX0_layOut_115 : decode cX0_layOut 115 = .ok (.getfield 69, 3) := by decide +kernel
theorem dX0_layOut_118 : decode cX0_layOut 118 = .ok (.iload_n 1, 1) := by decide +kernel
theorem dX0_layOut_119 : decode cX0_layOut 119 = .ok (.iaload, 1) := by decide +kernel
theorem dX0_layOut_120 : decode cX0_layOut 120 = .ok (.imul, 1) := by decide +kernel
theorem dX0_layOut_121 : decode cX0_layOut 121 = .ok (.putfield 54, 3) := by decide +kernel
theorem dX0_layOut_124 : decode cX0_layOut 124 = .ok (.iinc 1 1, 3) := by decide +kernel
theorem dX0_layOut_127 : decode cX0_layOut 127 = .ok (.goto (-113), 3) := by decide +kernel
theorem dX0_layOut_130 : decode cX0_layOut 130 = .ok (.return_, 1) := by decide +kernel
theorem dX0_judge_0 : decode cX0_judge 0 = .ok (.aload_n 0, 1) := by decide +kernel
theorem dX0_judge_1 : decode cX0_judge 1 = .ok (.getfield 15, 3) := by decide +kernel
theorem dX0_judge_4 : decode cX0_judge 4 = .ok (.iload_n 1, 1) := by decide +kernel
theorem dX0_judge_5 : decode cX0_judge 5 = .ok (.iaload, 1) := by decide +kernel
theorem dX0_judge_6 : decode cX0_judge 6 = .ok (.istore_n 2, 1) := by decide +kernel
theorem dX0_judge_7 : decode cX0_judge 7 = .ok (.iconst 0, 1) := by decide +kernel
theorem dX0_judge_8 : decode cX0_judge 8 = .ok (.istore_n 3, 1) := by decide +kernel
theorem dX0_judge_9 : decode cX0_judge 9 = .ok (.aload_n 0, 1) := by decide +kernel
theorem dX0_judge_10 : decode cX0_judge 10 = .ok (.getfield 18, 3) := by decide +kernel
theorem dX0_judge_13 : decode cX0_judge 13 = .ok (.iload_n 1, 1) := by decide +kernel
theorem dX0_judge_14 : decode cX0_judge 14 = .ok (.iconst (-1), 1) := by decide +kernel
theorem dX0_judge_15 : decode cX0_judge 15 = .ok (.iastore, 1) := by decide +kernel
theorem dX0_judge_16 : decode cX0_judge 16 = .ok (.aload_n 0, 1) := by decide +kernel
theorem dX0_judge_17 : decode cX0_judge 17 = .ok (.getfield 21, 3) := by decide +kernel
theorem dX0_judge_20 : decode cX0_judge 20 = .ok (.iload_n 1, 1) := by decide +kernel
theorem dX0_judge_21 : decode cX0_judge 21 = .ok (.iconst (-1), 1) := by decide +kernel
theorem dX0_judge_22 : decode cX0_judge 22 = .ok (.iastore, 1) := by decide +kernel
theorem dX0_judge_23 : decode cX0_judge 23 = .ok (.aload_n 0, 1) := by decide +kernel
theorem dX0_judge_24 : decode cX0_judge 24 = .ok (.getfield 27, 3) := by decide +kernel
theorem dX0_judge_27 : decode cX0_judge 27 = .ok (.iload_n 1, 1) := by decide +kernel
theorem dX0_judge_28 : decode cX0_judge 28 = .ok (.bipush 10, 2) := by decide +kernel
theorem dX0_judge_30 : decode cX0_judge 30 = .ok (.iastore, 1) := by decide +kernel
theorem dX0_judge_31 : decode cX0_judge 31 = .ok (.aload_n 0, 1) := by decide +kernel
theorem dX0_judge_32 : decode cX0_judge 32 = .ok (.getfield 30, 3) := by decide +kernel
theorem dX0_judge_35 : decode cX0_judge 35 = .ok (.iload_n 1, 1) := by decide +kernel
theorem dX0_judge_36 : decode cX0_judge 36 = .ok (.iconst 0, 1) := by decide +kernel
theorem dX0_judge_37 : decode cX0_judge 37 = .ok (.bastore, 1) := by decide +kernel
theorem dX0_judge_38 : decode cX0_judge 38 = .ok (.iconst 0, 1) := by decide +kernel
theorem dX0_judge_39 : decode cX0_judge 39 = .ok (.istore 4, 2) := by decide +kernel
theorem dX0_judge_41 : decode cX0_judge 41 = .ok (.iload 4, 2) := by decide +kernel
theorem dX0_judge_43 : decode cX0_judge 43 = .ok (.aload_n 0, 1) := by decide +kernel
theorem dX0_judge_44 : decode cX0_judge 44 = .ok (.getfield 37, 3) := by decide +kernel
theorem dX0_judge_47 : decode cX0_judge 47 = .ok (.getfield 72, 3) := by decide +kernel
theorem dX0_judge_50 : decode cX0_judge 50 = .ok (.if_icmp .ge 101, 3) := by decide +kernel
theorem dX0_judge_53 : decode cX0_judge 53 = .ok (.aload_n 0, 1) := by decide +kernel
theorem dX0_judge_54 : decode cX0_judge 54 = .ok (.getfield 37, 3) := by decide +kernel
theorem dX0_judge_57 : decode cX0_judge 57 = .ok (.getfield 75, 3) := by decide +kernel
theorem dX0_judge_60 : decode cX0_judge 60 = .ok (.iload 4, 2) := by decide +kernel
theorem dX0_judge_62 : decode cX0_judge 62 = .ok (.iaload, 1) := by decide +kernel
theorem dX0_judge_63 : decode cX0_judge 63 = .ok (.iload_n 2, 1) := by decide +kernel
theorem dX0_judge_64 : decode cX0_judge 64 = .ok (.iand, 1) := by decide +kernel
theorem dX0_judge_65 : decode cX0_judge 65 = .ok (.iload_n 2, 1) := by decide +kernel
theorem dX0_judge_66 : decode cX0_judge 66 = .ok (.if_icmp .eq 6, 3) := by decide +kernel
theorem dX0_judge_69 : decode cX0_judge 69 = .ok (.goto 76, 3) := by decide +kernel
theorem dX0_judge_72 : decode cX0_judge 72 = .ok (.iload_n 3, 1) := by decide +kernel
theorem dX0_judge_73 : decode cX0_judge 73 = .ok (.ifCond .ne 30, 3) := by decide +kernel
theorem dX0_judge_76 : decode cX0_judge 76 = .ok (.aload_n 0, 1) := by decide +kernel
theorem dX0_judge_77 : decode cX0_judge 77 = .ok (.getfield 18, 3) := by decide +kernel
theorem dX0_judge_80 : decode cX0_judge 80 = .ok (.iload_n 1, 1) := by decide +kernel
theorem dX0_judge_81 : decode cX0_judge 81 = .ok (.iload 4, 2) := by decide +kernel
theorem dX0_judge_83 : decode cX0_judge 83 = .ok (.iastore, 1) := by decide +kernel
theorem dX0_judge_84 : decode cX0_judge 84 = .ok (.aload_n 0, 1) := by decide +kernel
theorem dX0_judge_85 : decode cX0_judge 85 = .ok (.getfield 27, 3) := by decide +kernel
theorem dX0_judge_88 : decode cX0_judge 88 = .ok (.iload_n 1, 1) := by decide +kernel
theorem dX0_judge_89 : decode cX0_judge 89 = .ok (.aload_n 0, 1) := by decide +kernel
theorem dX0_judge_90 : decode cX0_judge 90 = .ok (.getfield 37, 3) := by decide +kernel
theorem dX0_judge_93 : decode cX0_judge 93 = .ok (.getfield 78, 3) := by decide +kernel
theorem dX0_judge_96 : decode cX0_judge 96 = .ok (.iload 4, 2) := by decide +kernel
theorem dX0_judge_98 : decode cX0_judge 98 = .ok (.iaload, 1) := by decide +kernel
theorem dX0_judge_99 : decode cX0_judge 99 = .ok (.iastore, 1) := by decide +kernel
theorem dX0_judge_100 : decode cX0_judge 100 = .ok (.goto 29, 3) := by decide +kernel
theorem dX0_judge_103 : decode cX0_judge 103 = .ok (.aload_n 0, 1) := by decide +kernel
theorem dX0_judge_104 : decode cX0_judge 104 = .ok (.getfield 37, 3) := by decide +kernel
theorem dX0_judge_107 : decode cX0_judge 107 = .ok (.getfield 78, 3) := by decide +kernel
theorem dX0_judge_110 : decode cX0_judge 110 = .ok (.iload 4, 2) := by decide +kernel
theorem dX0_judge_112 : decode cX0_judge 112 = .ok (.iaload, 1) := by decide +kernel
theorem dX0_judge_113 : decode cX0_judge 113 = .ok (.aload_n 0, 1) := by decide +kernel
theorem dX0_judge_114 : decode cX0_judge 114 = .ok (.getfield 27, 3) := by decide +kernel
theorem dX0_judge_117 : decode cX0_judge 117 = .ok (.iload_n 1, 1) := by decide +kernel
theorem dX0_judge_118 : decode cX0_judge 118 = .ok (.iaload, 1) := by decide +kernel
theorem dX0_judge_119 : decode cX0_judge 119 = .ok (.if_icmp .eq 10, 3) := by decide +kernel
theorem dX0_judge_122 : decode cX0_judge 122 = .ok (.aload_n 0, 1) := by decide +kernel
theorem dX0_judge_123 : decode cX0_judge 123 = .ok (.getfield 30, 3) := by decide +kernel
theorem dX0_judge_126 : decode cX0_judge 126 = .ok (.iload_n 1, 1) := by decide +kernel
theorem dX0_judge_127 : decode cX0_judge 127 = .ok (.iconst 1, 1) := by decide +kernel
theorem dX0_judge_128 : decode cX0_judge 128 = .ok (.bastore, 1) := by decide +kernel
theorem dX0_judge_129 : decode cX0_judge 129 = .ok (.iload_n 3, 1) := by decide +kernel
theorem dX0_judge_130 : decode cX0_judge 130 = .ok (.iconst 1, 1) := by decide +kernel
theorem dX0_judge_131 : decode cX0_judge 131 = .ok (.if_icmp .ne 11, 3) := by decide +kernel
theorem dX0_judge_134 : decode cX0_judge 134 = .ok (.aload_n 0, 1) := by decide +kernel
theorem dX0_judge_135 : decode cX0_judge 135 = .ok (.getfield 21, 3) := by decide +kernel
theorem dX0_judge_138 : decode cX0_judge 138 = .ok (.iload_n 1, 1) := by decide +kernel
theorem dX0_judge_139 : decode cX0_judge 139 = .ok (.iload 4, 2) := by decide +kernel
theorem dX0_judge_141 : decode cX0_judge 141 = .ok (.iastore, 1) := by decide +kernel
theorem dX0_judge_142 : decode cX0_judge 142 = .ok (.iinc 3 1, 3) := by decide +kernel
theorem dX0_judge_145 : decode cX0_judge 145 = .ok (.iinc 4 1, 3) := by decide +kernel
theorem dX0_judge_148 : decode cX0_judge 148 = .ok (.goto (-107), 3) := by decide +kernel
theorem dX0_judge_151 : decode cX0_judge 151 = .ok (.aload_n 0, 1) := by decide +kernel
theorem dX0_judge_152 : decode cX0_judge 152 = .ok (.getfield 24, 3) := by decide +kernel
theorem dX0_judge_155 : decode cX0_judge 155 = .ok (.iload_n 1, 1) := by decide +kernel
theorem dX0_judge_156 : decode cX0_judge 156 = .ok (.iload_n 3, 1) := by decide +kernel
theorem dX0_judge_157 : decode cX0_judge 157 = .ok (.iastore, 1) := by decide +kernel
theorem dX0_judge_158 : decode cX0_judge 158 = .ok (.return_, 1) := by decide +kernel
theorem dX0_tally_0 : decode cX0_tally 0 = .ok (.aload_n 0, 1) := by decide +kernel
theorem dX0_tally_1 : decode cX0_tally 1 = .ok (.getfield 18, 3) := by decide +kernel
theorem dX0_tally_4 : decode cX0_tally 4 = .ok (.iload_n 1, 1) := by decide +kernel
theorem dX0_tally_5 : decode cX0_tally 5 = .ok (.iaload, 1) := by decide +kernel
theorem dX0_tally_6 : decode cX0_tally 6 = .ok (.istore_n 2, 1) := by decide +kernel
theorem dX0_tally_7 : decode cX0_tally 7 = .ok (.iload_n 2, 1) := by decide +kernel
theorem dX0_tally_8 : decode cX0_tally 8 = .ok (.ifCond .ge 16, 3) := by decide +kernel
theorem dX0_tally_11 : decode cX0_tally 11 = .ok (.aload_n 0, 1) := by decide +kernel
theorem dX0_tally_12 : decode cX0_tally 12 = .ok (.dup, 1) := by decide +kernel
theorem dX0_tally_13 : decode cX0_tally 13 = .ok (.getfield 44, 3) := by decide +kernel
theorem dX0_tally_16 : decode cX0_tally 16 = .ok (.iconst 1, 1) := by decide +kernel
theorem dX0_tally_17 : decode cX0_tally 17 = .ok (.iadd, 1) := by decide +kernel
theorem dX0_tally_18 : decode cX0_tally 18 = .ok (.putfield 44, 3) := by decide +kernel
theorem dX0_tally_21 : decode cX0_tally 21 = .ok (.goto 13, 3) := by decide +kernel
theorem dX0_tally_24 : decode cX0_tally 24 = .ok (.aload_n 0, 1) := by decide +kernel
theorem dX0_tally_25 : decode cX0_tally 25 = .ok (.getfield 34, 3) := by decide +kernel
theorem dX0_tally_28 : decode cX0_tally 28 = .ok (.iload_n 2, 1) := by decide +kernel
theorem dX0_tally_29 : decode cX0_tally 29 = .ok (.dup2, 1) := by decide +kernel
theorem dX0_tally_30 : decode cX0_tally 30 = .ok (.iaload, 1) := by decide +kernel
theorem dX0_tally_31 : decode cX0_tally 31 = .ok (.iconst 1, 1) := by decide +kernel
theorem dX0_tally_32 : decode cX0_tally 32 = .ok (.iadd, 1) := by decide +kernel
theorem dX0_tally_33 : decode cX0_tally 33 = .ok (.iastore, 1) := by decide +kernel
theorem dX0_tally_34 : decode cX0_tally 34 = .ok (.aload_n 0, 1) := by decide +kernel
theorem dX0_tally_35 : decode cX0_tally 35 = .ok (.getfield 24, 3) := by decide +kernel
theorem dX0_tally_38 : decode cX0_tally 38 = .ok (.iload_n 1, 1) := by decide +kernel
theorem dX0_tally_39 : decode cX0_tally 39 = .ok (.iaload, 1) := by decide +kernel
theorem dX0_tally_40 : decode cX0_tally 40 = .ok (.iconst 2, 1) := by decide +kernel
theorem dX0_tally_41 : decode cX0_tally 41 = .ok (.if_icmp .lt 13, 3) := by decide +kernel
theorem dX0_tally_44 : decode cX0_tally 44 = .ok (.aload_n 0, 1) := by decide +kernel
theorem dX0_tally_45 : decode cX0_tally 45 = .ok (.dup, 1) := by decide +kernel
theorem dX0_tally_46 : decode cX0_tally 46 = .ok (.getfield 48, 3) := by decide +kernel
theorem dX0_tally_49 : decode cX0_tally 49 = .ok (.iconst 1, 1) := by decide +kernel
theorem dX0_tally_50 : decode cX0_tally 50 = .ok (.iadd, 1) := by decide +kernel
theorem dX0_tally_51 : decode cX0_tally 51 = .ok (.putfield 48, 3) := by decide +kernel
theorem dX0_tally_54 : decode cX0_tally 54 = .ok (.aload_n 0, 1) := by decide +kernel
theorem dX0_tally_55 : decode cX0_tally 55 = .ok (.getfield 30, 3) := by decide +kernel
theorem dX0_tally_58 : decode cX0_tally 58 = .ok (.iload_n 1, 1) := by decide +kernel
theorem dX0_tally_59 : decode cX0_tally 59 = .ok (.baload, 1) := by decide +kernel
theorem dX0_tally_60 : decode cX0_tally 60 = .ok (.ifCond .eq 13, 3) := by decide +kernel
theorem dX0_tally_63 : decode cX0_tally 63 = .ok (.aload_n 0, 1) := by decide +kernel
theorem dX0_tally_64 : decode cX0_tally 64 = .ok (.dup, 1) := by decide +kernel
theorem dX0_tally_65 : decode cX0_tally 65 = .ok (.getfield 51, 3) := by decide +kernel
theorem dX0_tally_68 : decode cX0_tally 68 = .ok (.iconst 1, 1) := by decide +kernel
theorem dX0_tally_69 : decode cX0_tally 69 = .ok (.iadd, 1) := by decide +kernel
theorem dX0_tally_70 : decode cX0_tally 70 = .ok (.putfield 51, 3) := by decide +kernel
theorem dX0_tally_73 : decode cX0_tally 73 = .ok (.return_, 1) := by decide +kernel
theorem dX0_answer_0 : decode cX0_answer 0 = .ok (.aload_n 0, 1) := by decide +kernel
theorem dX0_answer_1 : decode cX0_answer 1 = .ok (.getfield 15, 3) := by decide +kernel
theorem dX0_answer_4 : decode cX0_answer 4 = .ok (.iload_n 1, 1) := by decide +kernel
theorem dX0_answer_5 : decode cX0_answer 5 = .ok (.iaload, 1) := by decide +kernel
theorem dX0_answer_6 : decode cX0_answer 6 = .ok (.iconst 4, 1) := by decide +kernel
theorem dX0_answer_7 : decode cX0_answer 7 = .ok (.iload_n 2, 1) := by decide +kernel
theorem dX0_answer_8 : decode cX0_answer 8 = .ok (.imul, 1) := by decide +kernel
theorem dX0_answer_9 : decode cX0_answer 9 = .ok (.ishr, 1) := by decide +kernel
theorem dX0_answer_10 : decode cX0_answer 10 = .ok (.bipush 15, 2) := by decide +kernel
theorem dX0_answer_12 : decode cX0_answer 12 = .ok (.iand, 1) := by decide +kernel
theorem dX0_answer_13 : decode cX0_answer 13 = .ok (.istore_n 3, 1) := by decide +kernel
theorem dX0_answer_14 : decode cX0_answer 14 = .ok (.iconst 0, 1) := by decide +kernel
theorem dX0_answer_15 : decode cX0_answer 15 = .ok (.istore 4, 2) := by decide +kernel
theorem dX0_answer_17 : decode cX0_answer 17 = .ok (.iload 4, 2) := by decide +kernel
theorem dX0_answer_19 : decode cX0_answer 19 = .ok (.iconst 4, 1) := by decide +kernel
theorem dX0_answer_20 : decode cX0_answer 20 = .ok (.if_icmp .ge 22, 3) := by decide +kernel
theorem dX0_answer_23 : decode cX0_answer 23 = .ok (.iload_n 3, 1) := by decide +kernel
theorem dX0_answer_24 : decode cX0_answer 24 = .ok (.iload 4, 2) := by decide +kernel
theorem dX0_answer_26 : decode cX0_answer 26 = .ok (.ishr, 1) := by decide +kernel
theorem dX0_answer_27 : decode cX0_answer 27 = .ok (.iconst 1, 1) := by decide +kernel
theorem dX0_answer_28 : decode cX0_answer 28 = .ok (.iand, 1) := by decide +kernel
theorem dX0_answer_29 : decode cX0_answer 29 = .ok (.iconst 1, 1) := by decide +kernel
theorem dX0_answer_30 : decode cX0_answer 30 = .ok (.if_icmp .ne 6, 3) := by decide +kernel
theorem dX0_answer_33 : decode cX0_answer 33 = .ok (.iload 4, 2) := by decide +kernel
theorem dX0_answer_35 : decode cX0_answer 35 = .ok (.ireturn, 1) := by decide +kernel
theorem dX0_answer_36 : decode cX0_answer 36 = .ok (.iinc 4 1, 3) := by decide +kernel
theorem dX0_answer_39 : decode cX0_answer 39 = .ok (.goto (-22), 3) := by decide +kernel
theorem dX0_answer_42 : decode cX0_answer 42 = .ok (.iconst 0, 1) := by decide +kernel
theorem dX0_answer_43 : decode cX0_answer 43 = .ok (.ireturn, 1) := by decide +kernel
theorem dX0_holeAt_0 : decode cX0_holeAt 0 = .ok (.iconst 0, 1) := by decide +kernel
theorem dX0_holeAt_1 : decode cX0_holeAt 1 = .ok (.istore_n 2, 1) := by decide +kernel
theorem dX0_holeAt_2 : decode cX0_holeAt 2 = .ok (.iconst 0, 1) := by decide +kernel
theorem dX0_holeAt_3 : decode cX0_holeAt 3 = .ok (.istore_n 3, 1) := by decide +kernel
theorem dX0_holeAt_4 : decode cX0_holeAt 4 = .ok (.iload_n 3, 1) := by decide +kernel
theorem dX0_holeAt_5 : decode cX0_holeAt 5 = .ok (.aload_n 0, 1) := by decide +kernel
theorem dX0_holeAt_6 : decode cX0_holeAt 6 = .ok (.getfield 54, 3) := by decide +kernel
theorem dX0_holeAt_9 : decode cX0_holeAt 9 = .ok (.if_icmp .ge 28, 3) := by decide +kernel
theorem dX0_holeAt_12 : decode cX0_holeAt 12 = .ok (.aload_n 0, 1) := by decide +kernel
theorem dX0_holeAt_13 : decode cX0_holeAt 13 = .ok (.getfield 24, 3) := by decide +kernel
theorem dX0_holeAt_16 : decode cX0_holeAt 16 = .ok (.iload_n 3, 1) := by decide +kernel
theorem dX0_holeAt_17 : decode cX0_holeAt 17 = .ok (.iaload, 1) := by decide +kernel
theorem dX0_holeAt_18 : decode cX0_holeAt 18 = .ok (.ifCond .ne 13, 3) := by decide +kernel
theorem dX0_holeAt_21 : decode cX0_holeAt 21 = .ok (.iload_n 2, 1) := by decide +kernel
theorem dX0_holeAt_22 : decode cX0_holeAt 22 = .ok (.iload_n 1, 1) := by decide +kernel
theorem dX0_holeAt_23 : decode cX0_holeAt 23 = .ok (.if_icmp .ne 5, 3) := by decide +kernel
theorem dX0_holeAt_26 : decode cX0_holeAt 26 = .ok (.iload_n 3, 1) := by decide +kernel
theorem dX0_holeAt_27 : decode cX0_holeAt 27 = .ok (.ireturn, 1) := by decide +kernel
theorem dX0_holeAt_28 : decode cX0_holeAt 28 = .ok (.iinc 2 1, 3) := by decide +kernel
theorem dX0_holeAt_31 : decode cX0_holeAt 31 = .ok (.iinc 3 1, 3) := by decide +kernel
theorem dX0_holeAt_34 : decode cX0_holeAt 34 = .ok (.goto (-30), 3) := by decide +kernel
theorem dX0_holeAt_37 : decode cX0_holeAt 37 = .ok (.iconst (-1), 1) := by decide +kernel
theorem dX0_holeAt_38 : decode cX0_holeAt 38 = .ok (.ireturn, 1) := by decide +kernel
theorem dX0_neededRows_0 : decode cX0_neededRows 0 = .ok (.iconst 0, 1) := by decide +kernel
theorem dX0_neededRows_1 : decode cX0_neededRows 1 = .ok (.istore_n 1, 1) := by decide +kernel
theorem dX0_neededRows_2 : decode cX0_neededRows 2 = .ok (.iconst 0, 1) := by decide +kernel
theorem dX0_neededRows_3 : decode cX0_neededRows 3 = .ok (.istore_n 2, 1) := by decide +kernel
theorem dX0_neededRows_4 : decode cX0_neededRows 4 = .ok (.iload_n 2, 1) := by decide +kernel
theorem dX0_neededRows_5 : decode cX0_neededRows 5 = .ok (.aload_n 0, 1) := by decide +kernel
theorem dX0_neededRows_6 : decode cX0_neededRows 6 = .ok (.getfield 37, 3) := by decide +kernel
theorem dX0_neededRows_9 : decode cX0_neededRows 9 = .ok (.getfield 72, 3) := by decide +kernel
theorem dX0_neededRows_12 : decode cX0_neededRows 12 = .ok (.if_icmp .ge 21, 3) := by decide +kernel
theorem dX0_neededRows_15 : decode cX0_neededRows 15 = .ok (.aload_n 0, 1) := by decide +kernel
theorem dX0_neededRows_16 : decode cX0_neededRows 16 = .ok (.getfield 34, 3) := by decide +kernel
theorem dX0_neededRows_19 : decode cX0_neededRows 19 = .ok (.iload_n 2, 1) := by decide +kernel
theorem dX0_neededRows_20 : decode cX0_neededRows 20 = .ok (.iaload, 1) := by decide +kernel
theorem dX0_neededRows_21 : decode cX0_neededRows 21 = .ok (.ifCond .le 6, 3) := by decide +kernel
theorem dX0_neededRows_24 : decode cX0_neededRows 24 = .ok (.iinc 1 1, 3) := by decide +kernel
theorem dX0_neededRows_27 : decode cX0_neededRows 27 = .ok (.iinc 2 1, 3) := by decide +kernel
theorem dX0_neededRows_30 : decode cX0_neededRows 30 = .ok (.goto (-26), 3) := by decide +kernel
theorem dX0_neededRows_33 : decode cX0_neededRows 33 = .ok (.iload_n 1, 1) := by decide +kernel
theorem dX0_neededRows_34 : decode cX0_neededRows 34 = .ok (.ireturn, 1) := by decide +kernel
set_option maxRecDepth 20000 in
theorem ggX0_unlikeActions_J6_bitCount_0f7a4 : GoodIn wsX0_unlikeActions wsJ6_bitCount_0f7a4 := goodIn_r _ [6, 7, 8, 9] (by decide +kernel) (by decide +kernel)
set_option maxRecDepth 20000 in
theorem gX0_unlikeActions_J6_bitCount_0f7a4 : GoodIn wsX0_unlikeActions (va_wsS RX0 79 yJ6_bitCount_0f7a4 wsJ6_bitCount_0f7a4) := goodIn_app (goodIn_of _ (by decide +kernel)) ggX0_unlikeActions_J6_bitCount_0f7a4
theorem dX0_unlikeActions_0 : decode cX0_unlikeActions 0 = .ok (.iconst 0, 1) := by decide +kernel
theorem dX0_unlikeActions_1 : decode cX0_unlikeActions 1 = .ok (.istore_n 1, 1) := by decide +kernel
theorem dX0_unlikeActions_2 : decode cX0_unlikeActions 2 = .ok (.iconst 0, 1) := by decide +kernel
theorem dX0_unlikeActions_3 : decode cX0_unlikeActions 3 = .ok (.istore_n 2, 1) := by decide +kernel
theorem dX0_unlikeActions_4 : decode cX0_unlikeActions 4 = .ok (.iload_n 2, 1) := by decide +kernel
theorem dX0_unlikeActions_5 : decode cX0_unlikeActions 5 = .ok (.aload_n 0, 1) := by decide +kernel
theorem dX0_unlikeActions_6 : decode cX0_unlikeActions 6 = .ok (.getfield 54, 3) := by decide +kernel
theorem dX0_unlikeActions_9 : decode cX0_unlikeActions 9 = .ok (.if_icmp .ge 20, 3) := by decide +kernel
theorem dX0_unlikeActions_12 : decode cX0_unlikeActions 12 = .ok (.iload_n 1, 1) := by decide +kernel
theorem dX0_unlikeActions_13 : decode cX0_unlikeActions 13 = .ok (.iconst 1, 1) := by decide +kernel
theorem dX0_unlikeActions_14 : decode cX0_unlikeActions 14 = .ok (.aload_n 0, 1) := by decide +kernel
theorem dX0_unlikeActions_15 : decode cX0_unlikeActions 15 = .ok (.getfield 27, 3) := by decide +kernel
theorem dX0_unlikeActions_18 : decode cX0_unlikeActions 18 = .ok (.iload_n 2, 1) := by decide +kernel
theorem dX0_unlikeActions_19 : decode cX0_unlikeActions 19 = .ok (.iaload, 1) := by decide +kernel
theorem dX0_unlikeActions_20 : decode cX0_unlikeActions 20 = .ok (.ishl, 1) := by decide +kernel
theorem dX0_unlikeActions_21 : decode cX0_unlikeActions 21 = .ok (.ior, 1) := by decide +kernel
theorem dX0_unlikeActions_22 : decode cX0_unlikeActions 22 = .ok (.istore_n 1, 1) := by decide +kernel
theorem dX0_unlikeActions_23 : decode cX0_unlikeActions 23 = .ok (.iinc 2 1, 3) := by decide +kernel
theorem dX0_unlikeActions_26 : decode cX0_unlikeActions 26 = .ok (.goto (-22), 3) := by decide +kernel
theorem dX0_unlikeActions_29 : decode cX0_unlikeActions 29 = .ok (.iload_n 1, 1) := by decide +kernel
theorem dX0_unlikeActions_30 : decode cX0_unlikeActions 30 = .ok (.invokestatic 79, 3) := by decide +kernel
theorem dX0_unlikeActions_33 : decode cX0_unlikeActions 33 = .ok (.ireturn, 1) := by decide +kernel
theorem dX0_matters_0 : decode cX0_matters 0 = .ok (.aload_n 0, 1) := by decide +kernel
theorem dX0_matters_1 : decode cX0_matters 1 = .ok (.getfield 9, 3) := by decide +kernel
theorem dX0_matters_4 : decode cX0_matters 4 = .ok (.iload_n 1, 1) := by decide +kernel
theorem dX0_matters_5 : decode cX0_matters 5 = .ok (.iaload, 1) := by decide +kernel
theorem dX0_matters_6 : decode cX0_matters 6 = .ok (.istore_n 2, 1) := by decide +kernel
theorem dX0_matters_7 : decode cX0_matters 7 = .ok (.iconst 1, 1) := by decide +kernel
theorem dX0_matters_8 : decode cX0_matters 8 = .ok (.iconst 4, 1) := by decide +kernel
theorem dX0_matters_9 : decode cX0_matters 9 = .ok (.iload_n 1, 1) := by decide +kernel
theorem dX0_matters_10 : decode cX0_matters 10 = .ok (.imul, 1) := by decide +kernel
theorem dX0_matters_11 : decode cX0_matters 11 = .ok (.aload_n 0, 1) := by decide +kernel
theorem dX0_matters_12 : decode cX0_matters 12 = .ok (.getfield 37, 3) := by decide +kernel
theorem dX0_matters_15 : decode cX0_matters 15 = .ok (.getfield 69, 3) := by decide +kernel
theorem dX0_matters_18 : decode cX0_matters 18 = .ok (.iload_n 1, 1) := by decide +kernel
theorem dX0_matters_19 : decode cX0_matters 19 = .ok (.iaload, 1) := by decide +kernel
theorem dX0_matters_20 : decode cX0_matters 20 = .ok (.iadd, 1) := by decide +kernel
theorem dX0_matters_21 : decode cX0_matters 21 = .ok (.iconst 1, 1) := by decide +kernel
theorem dX0_matters_22 : decode cX0_matters 22 = .ok (.isub, 1) := by decide +kernel
theorem dX0_matters_23 : decode cX0_matters 23 = .ok (.ishl, 1) := by decide +kernel
theorem dX0_matters_24 : decode cX0_matters 24 = .ok (.istore_n 3, 1) := by decide +kernel
theorem dX0_matters_25 : decode cX0_matters 25 = .ok (.iconst 0, 1) := by decide +kernel
theorem dX0_matters_26 : decode cX0_matters 26 = .ok (.istore 4, 2) := by decide +kernel
theorem dX0_matters_28 : decode cX0_matters 28 = .ok (.iload 4, 2) := by decide +kernel
theorem dX0_matters_30 : decode cX0_matters 30 = .ok (.iload_n 2, 1) := by decide +kernel
theorem dX0_matters_31 : decode cX0_matters 31 = .ok (.iadd, 1) := by decide +kernel
theorem dX0_matters_32 : decode cX0_matters 32 = .ok (.aload_n 0, 1) := by decide +kernel
theorem dX0_matters_33 : decode cX0_matters 33 = .ok (.getfield 54, 3) := by decide +kernel
theorem dX0_matters_36 : decode cX0_matters 36 = .ok (.if_icmp .ge 42, 3) := by decide +kernel
theorem dX0_matters_39 : decode cX0_matters 39 = .ok (.aload_n 0, 1) := by decide +kernel
theorem dX0_matters_40 : decode cX0_matters 40 = .ok (.getfield 15, 3) := by decide +kernel
theorem dX0_matters_43 : decode cX0_matters 43 = .ok (.iload 4, 2) := by decide +kernel
theorem dX0_matters_45 : decode cX0_matters 45 = .ok (.iaload, 1) := by decide +kernel
theorem dX0_matters_46 : decode cX0_matters 46 = .ok (.iload_n 3, 1) := by decide +kernel
theorem dX0_matters_47 : decode cX0_matters 47 = .ok (.iand, 1) := by decide +kernel
theorem dX0_matters_48 : decode cX0_matters 48 = .ok (.ifCond .ne 24, 3) := by decide +kernel
theorem dX0_matters_51 : decode cX0_matters 51 = .ok (.aload_n 0, 1) := by decide +kernel
theorem dX0_matters_52 : decode cX0_matters 52 = .ok (.getfield 27, 3) := by decide +kernel
theorem dX0_matters_55 : decode cX0_matters 55 = .ok (.iload 4, 2) := by decide +kernel
theorem dX0_matters_57 : decode cX0_matters 57 = .ok (.iaload, 1) := by decide +kernel
theorem dX0_matters_58 : decode cX0_matters 58 = .ok (.aload_n 0, 1) := by decide +kernel
theorem dX0_matters_59 : decode cX0_matters 59 = .ok (.getfield 27, 3) := by decide +kernel
theorem dX0_matters_62 : decode cX0_matters 62 = .ok (.iload 4, 2) := by decide +kernel
theorem dX0_matters_64 : decode cX0_matters 64 = .ok (.iload_n 2, 1) := by decide +kernel
theorem dX0_matters_65 : decode cX0_matters 65 = .ok (.iadd, 1) := by decide +kernel
theorem dX0_matters_66 : decode cX0_matters 66 = .ok (.iaload, 1) := by decide +kernel
theorem dX0_matters_67 : decode cX0_matters 67 = .ok (.if_icmp .eq 5, 3) := by decide +kernel
theorem dX0_matters_70 : decode cX0_matters 70 = .ok (.iconst 1, 1) := by decide +kernel
theorem dX0_matters_71 : decode cX0_matters 71 = .ok (.ireturn, 1) := by decide +kernel
theorem dX0_matters_72 : decode cX0_matters 72 = .ok (.iinc 4 1, 3) := by decide +kernel
theorem dX0_matters_75 : decode cX0_matters 75 = .ok (.goto (-47), 3) := by decide +kernel
theorem dX0_matters_78 : decode cX0_matters 78 = .ok (.iconst 0, 1) := by decide +kernel
theorem dX0_matters_79 : decode cX0_matters 79 = .ok (.ireturn, 1) := by decide +kernel
theorem dX0_changesWithout_0 : decode cX0_changesWithout 0 = .ok (.iconst 0, 1) := by decide +kernel
theorem dX0_changesWithout_1 : decode cX0_changesWithout 1 = .ok (.istore_n 2, 1) := by decide +kernel
theorem dX0_changesWithout_2 : decode cX0_changesWithout 2 = .ok (.iconst 0, 1) := by decide +kernel
theorem dX0_changesWithout_3 : decode cX0_changesWithout 3 = .ok (.istore_n 3, 1) := by decide +kernel
theorem dX0_changesWithout_4 : decode cX0_changesWithout 4 = .ok (.iload_n 3, 1) := by decide +kernel
theorem dX0_changesWithout_5 : decode cX0_changesWithout 5 = .ok (.aload_n 0, 1) := by decide +kernel
theorem dX0_changesWithout_6 : decode cX0_changesWithout 6 = .ok (.getfield 54, 3) := by decide +kernel
theorem dX0_changesWithout_9 : decode cX0_changesWithout 9 = .ok (.if_icmp .ge 63, 3) := by decide +kernel
theorem dX0_changesWithout_12 : decode cX0_changesWithout 12 = .ok (.aload_n 0, 1) := by decide +kernel
theorem dX0_changesWithout_13 : decode cX0_changesWithout 13 = .ok (.getfield 18, 3) := by decide +kernel
theorem dX0_changesWithout_16 : decode cX0_changesWithout 16 = .ok (.iload_n 3, 1) := by decide +kernel
theorem dX0_changesWithout_17 : decode cX0_changesWithout 17 = .ok (.iaload, 1) := by decide +kernel
theorem dX0_changesWithout_18 : decode cX0_changesWithout 18 = .ok (.iload_n 1, 1) := by decide +kernel
theorem dX0_changesWithout_19 : decode cX0_changesWithout 19 = .ok (.if_icmp .ne 47, 3) := by decide +kernel
theorem dX0_changesWithout_22 : decode cX0_changesWithout 22 = .ok (.aload_n 0, 1) := by decide +kernel
theorem dX0_changesWithout_23 : decode cX0_changesWithout 23 = .ok (.getfield 21, 3) := by decide +kernel
theorem dX0_changesWithout_26 : decode cX0_changesWithout 26 = .ok (.iload_n 3, 1) := by decide +kernel
theorem dX0_changesWithout_27 : decode cX0_changesWithout 27 = .ok (.iaload, 1) := by decide +kernel
theorem dX0_changesWithout_28 : decode cX0_changesWithout 28 = .ok (.istore 4, 2) := by decide +kernel
theorem dX0_changesWithout_30 : decode cX0_changesWithout 30 = .ok (.iload 4, 2) := by decide +kernel
theorem dX0_changesWithout_32 : decode cX0_changesWithout 32 = .ok (.ifCond .ge 8, 3) := by decide +kernel
theorem dX0_changesWithout_35 : decode cX0_changesWithout 35 = .ok (.bipush 10, 2) := by decide +kernel
theorem dX0_changesWithout_37 : decode cX0_changesWithout 37 = .ok (.goto 13, 3) := by decide +kernel
theorem dX0_changesWithout_40 : decode cX0_changesWithout 40 = .ok (.aload_n 0, 1) := by decide +kernel
theorem dX0_changesWithout_41 : decode cX0_changesWithout 41 = .ok (.getfield 37, 3) := by decide +kernel
theorem dX0_changesWithout_44 : decode cX0_changesWithout 44 = .ok (.getfield 78, 3) := by decide +kernel
theorem dX0_changesWithout_47 : decode cX0_changesWithout 47 = .ok (.iload 4, 2) := by decide +kernel
theorem dX0_changesWithout_49 : decode cX0_changesWithout 49 = .ok (.iaload, 1) := by decide +kernel
theorem dX0_changesWithout_50 : decode cX0_changesWithout 50 = .ok (.istore 5, 2) := by decide +kernel
theorem dX0_changesWithout_52 : decode cX0_changesWithout 52 = .ok (.iload 5, 2) := by decide +kernel
theorem dX0_changesWithout_54 : decode cX0_changesWithout 54 = .ok (.aload_n 0, 1) := by decide +kernel
theorem dX0_changesWithout_55 : decode cX0_changesWithout 55 = .ok (.getfield 27, 3) := by decide +kernel
theorem dX0_changesWithout_58 : decode cX0_changesWithout 58 = .ok (.iload_n 3, 1) := by decide +kernel
theorem dX0_changesWithout_59 : decode cX0_changesWithout 59 = .ok (.iaload, 1) := by decide +kernel
theorem dX0_changesWithout_60 : decode cX0_changesWithout 60 = .ok (.if_icmp .eq 6, 3) := by decide +kernel
theorem dX0_changesWithout_63 : decode cX0_changesWithout 63 = .ok (.iinc 2 1, 3) := by decide +kernel
theorem dX0_changesWithout_66 : decode cX0_changesWithout 66 = .ok (.iinc 3 1, 3) := by decide +kernel
theorem dX0_changesWithout_69 : decode cX0_changesWithout 69 = .ok (.goto (-65), 3) := by decide +kernel
theorem dX0_changesWithout_72 : decode cX0_changesWithout 72 = .ok (.iload_n 2, 1) := by decide +kernel
theorem dX0_changesWithout_73 : decode cX0_changesWithout 73 = .ok (.ireturn, 1) := by decide +kernel
set_option maxRecDepth 20000 in
theorem ggX1_init_X4_init : GoodIn wsX1_init wsX4_init := goodIn_r _ [9, 10, 2, 3, 11, 12, 13, 14, 15, 16, 19, 20, 21, 22, 23, 24, 25, 26] (by decide +kernel) (by decide +kernel)
set_option maxRecDepth 20000 in
theorem gX1_init_X4_init_n17 : GoodIn wsX1_init (wsX4_init) := ggX1_init_X4_init
theorem dX1_init_0 : decode cX1_init 0 = .ok (.aload_n 0, 1) := by decide +kernel
theorem dX1_init_1 : decode cX1_init 1 = .ok (.invokespecial 3, 3) := by decide +kernel
theorem dX1_init_4 : decode cX1_init 4 = .ok (.aload_n 0, 1) := by decide +kernel
theorem dX1_init_5 : decode cX1_init 5 = .ok (.iconst 4, 1) := by decide +kernel
theorem dX1_init_6 : decode cX1_init 6 = .ok (.anewarray 9, 3) := by decide +kernel
theorem dX1_init_9 : decode cX1_init 9 = .ok (.putfield 11, 3) := by decide +kernel
theorem dX1_init_12 : decode cX1_init 12 = .ok (.iconst 0, 1) := by decide +kernel
theorem dX1_init_13 : decode cX1_init 13 = .ok (.istore_n 1, 1) := by decide +kernel
theorem dX1_init_14 : decode cX1_init 14 = .ok (.iload_n 1, 1) := by decide +kernel
theorem dX1_init_15 : decode cX1_init 15 = .ok (.iconst 4, 1) := by decide +kernel
theorem dX1_init_16 : decode cX1_init 16 = .ok (.if_icmp .ge 22, 3) := by decide +kernel
theorem dX1_init_19 : decode cX1_init 19 = .ok (.aload_n 0, 1) := by decide +kernel
theorem dX1_init_20 : decode cX1_init 20 = .ok (.getfield 11, 3) := by decide +kernel
theorem dX1_init_23 : decode cX1_init 23 = .ok (.iload_n 1, 1) := by decide +kernel
theorem dX1_init_24 : decode cX1_init 24 = .ok (.new 9, 3) := by decide +kernel
theorem dX1_init_27 : decode cX1_init 27 = .ok (.dup, 1) := by decide +kernel
theorem dX1_init_28 : decode cX1_init 28 = .ok (.invokespecial 17, 3) := by decide +kernel
theorem dX1_init_31 : decode cX1_init 31 = .ok (.aastore, 1) := by decide +kernel
theorem dX1_init_32 : decode cX1_init 32 = .ok (.iinc 1 1, 3) := by decide +kernel
theorem dX1_init_35 : decode cX1_init 35 = .ok (.goto (-21), 3) := by decide +kernel
theorem dX1_init_38 : decode cX1_init 38 = .ok (.return_, 1) := by decide +kernel
set_option maxRecDepth 20000 in
theorem ggX1_save_X1_forgetOldest : GoodIn wsX1_save wsX1_forgetOldest := goodIn_r _ [7, 2, 1, 25, 26] (by decide +kernel) (by decide +kernel)
set_option maxRecDepth 20000 in
theorem gX1_save_X1_forgetOldest : GoodIn wsX1_save (wsV RX1 22 RX1 yX1_forgetOldest wsX1_forgetOldest) := goodIn_app (goodIn_of _ (by decide +kernel)) ggX1_save_X1_forgetOldest
set_option maxRecDepth 20000 in
theorem ggX1_save_X4_copyFrom : GoodIn wsX1_save wsX4_copyFrom := goodIn_r _ [12, 13, 14, 15, 16, 17, 18, 19, 20, 21, 22, 23, 24, 27, 28, 29, 30, 31, 32, 33, 34] (by decide +kernel) (by decide +kernel)
set_option maxRecDepth 20000 in
theorem gX1_save_X4_copyFrom : GoodIn wsX1_save (wsV RX1 25 RX4 yX4_copyFrom wsX4_copyFrom) := goodIn_app (goodIn_of _ (by decide +kernel)) ggX1_save_X4_copyFrom
theorem dX1_save_0 : decode cX1_save 0 = .ok (.aload_n 0, 1) := by decide +kernel
theorem dX1_save_1 : decode cX1_save 1 = .ok (.getfield 18, 3) := by decide +kernel
theorem dX1_save_4 : decode cX1_save 4 = .ok (.iconst 4, 1) := by decide +kernel
theorem dX1_save_5 : decode cX1_save 5 = .ok (.if_icmp .lt 7, 3) := by decide +kernel
theorem dX1_save_8 : decode cX1_save 8 = .ok (.aload_n 0, 1) := by decide +kernel
theorem dX1_save_9 : decode cX1_save 9 = .ok (.invokevirtual 22, 3) := by decide +kernel
theorem dX1_save_12 : decode cX1_save 12 = .ok (.aload_n 0, 1) := by decide +kernel
theorem dX1_save_13 : decode cX1_save 13 = .ok (.getfield 11, 3) := by decide +kernel
theorem dX1_save_16 : decode cX1_save 16 = .ok (.aload_n 0, 1) := by decide +kernel
theorem dX1_save_17 : decode cX1_save 17 = .ok (.getfield 18, 3) := by decide +kernel
theorem dX1_save_20 : decode cX1_save 20 = .ok (.aaload, 1) := by decide +kernel
theorem dX1_save_21 : decode cX1_save 21 = .ok (.astore_n 2, 1) := by decide +kernel
theorem dX1_save_22 : decode cX1_save 22 = .ok (.aload_n 2, 1) := by decide +kernel
theorem dX1_save_23 : decode cX1_save 23 = .ok (.ifnull 18, 3) := by decide +kernel
theorem dX1_save_26 : decode cX1_save 26 = .ok (.aload_n 2, 1) := by decide +kernel
theorem dX1_save_27 : decode cX1_save 27 = .ok (.aload_n 1, 1) := by decide +kernel
theorem dX1_save_28 : decode cX1_save 28 = .ok (.invokevirtual 25, 3) := by decide +kernel
theorem dX1_save_31 : decode cX1_save 31 = .ok (.aload_n 0, 1) := by decide +kernel
theorem dX1_save_32 : decode cX1_save 32 = .ok (.dup, 1) := by decide +kernel
theorem dX1_save_33 : decode cX1_save 33 = .ok (.getfield 18, 3) := by decide +kernel
theorem dX1_save_36 : decode cX1_save 36 = .ok (.iconst 1, 1) := by decide +kernel
theorem dX1_save_37 : decode cX1_save 37 = .ok (.iadd, 1) := by decide +kernel
theorem dX1_save_38 : decode cX1_save 38 = .ok (.putfield 18, 3) := by decide +kernel
theorem dX1_save_41 : decode cX1_save 41 = .ok (.return_, 1) := by decide +kernel
theorem dX1_forgetOldest_0 : decode cX1_forgetOldest 0 = .ok (.aload_n 0, 1) := by decide +kernel
theorem dX1_forgetOldest_1 : decode cX1_forgetOldest 1 = .ok (.getfield 11, 3) := by decide +kernel
theorem dX1_forgetOldest_4 : decode cX1_forgetOldest 4 = .ok (.iconst 0, 1) := by decide +kernel
theorem dX1_forgetOldest_5 : decode cX1_forgetOldest 5 = .ok (.aaload, 1) := by decide +kernel
theorem dX1_forgetOldest_6 : decode cX1_forgetOldest 6 = .ok (.astore_n 1, 1) := by decide +kernel
theorem dX1_forgetOldest_7 : decode cX1_forgetOldest 7 = .ok (.iconst 1, 1) := by decide +kernel
theorem dX1_forgetOldest_8 : decode cX1_forgetOldest 8 = .ok (.istore_n 2, 1) := by decide +kernel
theorem dX1_forgetOldest_9 : decode cX1_forgetOldest 9 = .ok (.iload_n 2, 1) := by decide +kernel
theorem dX1_forgetOldest_10 : decode cX1_forgetOldest 10 = .ok (.iconst 4, 1) := by decide +kernel
theorem dX1_forgetOldest_11 : decode cX1_forgetOldest 11 = .ok (.if_icmp .ge 23, 3) := by decide +kernel
theorem dX1_forgetOldest_14 : decode cX1_forgetOldest 14 = .ok (.aload_n 0, 1) := by decide +kernel
theorem dX1_forgetOldest_15 : decode cX1_forgetOldest 15 = .ok (.getfield 11, 3) := by decide +kernel
theorem dX1_forgetOldest_18 : decode cX1_forgetOldest 18 = .ok (.iload_n 2, 1) := by decide +kernel
theorem dX1_forgetOldest_19 : decode cX1_forgetOldest 19 = .ok (.iconst 1, 1) := by decide +kernel
theorem dX1_forgetOldest_20 : decode cX1_forgetOldest 20 = .ok (.isub, 1) := by decide +kernel
theorem dX1_forgetOldest_21 : decode cX1_forgetOldest 21 = .ok (.aload_n 0, 1) := by decide +kernel
theorem dX1_forgetOldest_22 : decode cX1_forgetOldest 22 = .ok (.getfield 11, 3) := by decide +kernel
theorem dX1_forgetOldest_25 : decode cX1_forgetOldest 25 = .ok (.iload_n 2, 1) := by decide +kernel
theorem dX1_forgetOldest_26 : decode cX1_forgetOldest 26 = .ok (.aaload, 1) := by decide +kernel
theorem dX1_forgetOldest_27 : decode cX1_forgetOldest 27 = .ok (.aastore, 1) := by decide +kernel
theorem dX1_forgetOldest_28 : decode cX1_forgetOldest 28 = .ok (.iinc 2 1, 3) := by decide +kernel
theorem dX1_forgetOldest_31 : decode cX1_forgetOldest 31 = .ok (.goto (-22), 3) := by decide +kernel
theorem dX1_forgetOldest_34 : decode cX1_forgetOldest 34 = .ok (.aload_n 0, 1) := by decide +kernel
theorem dX1_forgetOldest_35 : decode cX1_forgetOldest 35 = .ok (.getfield 11, 3) := by decide +kernel
theorem dX1_forgetOldest_38 : decode cX1_forgetOldest 38 = .ok (.iconst 3, 1) := by decide +kernel
theorem dX1_forgetOldest_39 : decode cX1_forgetOldest 39 = .ok (.aload_n 1, 1) := by decide +kernel
theorem dX1_forgetOldest_40 : decode cX1_forgetOldest 40 = .ok (.aastore, 1) := by decide +kernel
theorem dX1_forgetOldest_41 : decode cX1_forgetOldest 41 = .ok (.aload_n 0, 1) := by decide +kernel
theorem dX1_forgetOldest_42 : decode cX1_forgetOldest 42 = .ok (.iconst 3, 1) := by decide +kernel
theorem dX1_forgetOldest_43 : decode cX1_forgetOldest 43 = .ok (.putfield 18, 3) := by decide +kernel
theorem dX1_forgetOldest_46 : decode cX1_forgetOldest 46 = .ok (.return_, 1) := by decide +kernel
set_option maxRecDepth 20000 in
theorem ggX1_restore_X4_copyFrom : GoodIn wsX1_restore wsX4_copyFrom := goodIn_r _ [7, 8, 9, 10, 11, 12, 13, 14, 15, 16, 17, 18, 19, 22, 23, 24, 25, 26, 27, 28, 29] (by decide +kernel) (by decide +kernel)
set_option maxRecDepth 20000 in
theorem gX1_restore_X4_copyFrom : GoodIn wsX1_restore (wsV RX1 25 RX4 yX4_copyFrom wsX4_copyFrom) := goodIn_app (goodIn_of _ (by decide +kernel)) ggX1_restore_X4_copyFrom
theorem dX1_restore_0 : decode cX1_restore 0 = .ok (.aload_n 0, 1) := by decide +kernel
theorem dX1_restore_1 : decode cX1_restore 1 = .ok (.dup, 1) := by decide +kernel
theorem dX1_restore_2 : decode cX1_restore 2 = .ok (.getfield 18, 3) := by decide +kernel
theorem dX1_restore_5 : decode cX1_restore 5 = .ok (.iconst 1, 1) := by decide +kernel
theorem dX1_restore_6 : decode cX1_restore 6 = .ok (.isub, 1) := by decide +kernel
theorem dX1_restore_7 : decode cX1_restore 7 = .ok (.putfield 18, 3) := by decide +kernel
theorem dX1_restore_10 : decode cX1_restore 10 = .ok (.aload_n 0, 1) := by decide +kernel
theorem dX1_restore_11 : decode cX1_restore 11 = .ok (.getfield 11, 3) := by decide +kernel
theorem dX1_restore_14 : decode cX1_restore 14 = .ok (.aload_n 0, 1) := by decide +kernel
theorem dX1_restore_15 : decode cX1_restore 15 = .ok (.getfield 18, 3) := by decide +kernel
theorem dX1_restore_18 : decode cX1_restore 18 = .ok (.aaload, 1) := by decide +kernel
theorem dX1_restore_19 : decode cX1_restore 19 = .ok (.astore_n 2, 1) := by decide +kernel
theorem dX1_restore_20 : decode cX1_restore 20 = .ok (.aload_n 2, 1) := by decide +kernel
theorem dX1_restore_21 : decode cX1_restore 21 = .ok (.ifnull 8, 3) := by decide +kernel
theorem dX1_restore_24 : decode cX1_restore 24 = .ok (.aload_n 1, 1) := by decide +kernel
theorem dX1_restore_25 : decode cX1_restore 25 = .ok (.aload_n 2, 1) := by decide +kernel
theorem dX1_restore_26 : decode cX1_restore 26 = .ok (.invokevirtual 25, 3) := by decide +kernel
theorem dX1_restore_29 : decode cX1_restore 29 = .ok (.return_, 1) := by decide +kernel
theorem dX2_init_0 : decode cX2_init 0 = .ok (.aload_n 0, 1) := by decide +kernel
theorem dX2_init_1 : decode cX2_init 1 = .ok (.invokespecial 3, 3) := by decide +kernel
theorem dX2_init_4 : decode cX2_init 4 = .ok (.aload_n 0, 1) := by decide +kernel
theorem dX2_init_5 : decode cX2_init 5 = .ok (.sipush 3125, 3) := by decide +kernel
theorem dX2_init_8 : decode cX2_init 8 = .ok (.newarray .int, 2) := by decide +kernel
theorem dX2_init_10 : decode cX2_init 10 = .ok (.putfield 11, 3) := by decide +kernel
theorem dX2_init_13 : decode cX2_init 13 = .ok (.aload_n 0, 1) := by decide +kernel
theorem dX2_init_14 : decode cX2_init 14 = .ok (.sipush 3125, 3) := by decide +kernel
theorem dX2_init_17 : decode cX2_init 17 = .ok (.newarray .int, 2) := by decide +kernel
theorem dX2_init_19 : decode cX2_init 19 = .ok (.putfield 15, 3) := by decide +kernel
theorem dX2_init_22 : decode cX2_init 22 = .ok (.aload_n 0, 1) := by decide +kernel
theorem dX2_init_23 : decode cX2_init 23 = .ok (.iconst 5, 1) := by decide +kernel
theorem dX2_init_24 : decode cX2_init 24 = .ok (.newarray .int, 2) := by decide +kernel
theorem dX2_init_26 : decode cX2_init 26 = .ok (.putfield 18, 3) := by decide +kernel
theorem dX2_init_29 : decode cX2_init 29 = .ok (.aload_n 0, 1) := by decide +kernel
theorem dX2_init_30 : decode cX2_init 30 = .ok (.aload_n 1, 1) := by decide +kernel
theorem dX2_init_31 : decode cX2_init 31 = .ok (.putfield 21, 3) := by decide +kernel
theorem dX2_init_34 : decode cX2_init 34 = .ok (.aload_n 0, 1) := by decide +kernel
theorem dX2_init_35 : decode cX2_init 35 = .ok (.aload_n 2, 1) := by decide +kernel
theorem dX2_init_36 : decode cX2_init 36 = .ok (.putfield 25, 3) := by decide +kernel
theorem dX2_init_39 : decode cX2_init 39 = .ok (.return_, 1) := by decide +kernel
set_option maxRecDepth 20000 in
theorem ggX2_refresh_X2_readDigits : GoodIn wsX2_refresh wsX2_readDigits := goodIn_r _ [8, 2, 3, 9, 10, 41, 42, 43, 44, 45, 46, 47, 48, 49, 50, 51, 52, 53] (by decide +kernel) (by decide +kernel)
set_option maxRecDepth 20000 in
theorem gX2_refresh_X2_readDigits : GoodIn wsX2_refresh (wsV RX2 41 RX2 yX2_readDigits wsX2_readDigits) := goodIn_app (goodIn_of _ (by decide +kernel)) ggX2_refresh_X2_readDigits
set_option maxRecDepth 20000 in
theorem ggX2_refresh_X2_weigh : GoodIn wsX2_refresh wsX2_weigh := goodIn_r _ [14, 15, 16, 17, 18, 19, 20, 21, 7, 22, 2, 3, 10, 23, 24, 25, 26, 27, 28, 29, 30, 31, 1, 9, 32, 33, 34, 35, 36, 37, 38, 39, 40, 41, 42, 43, 44, 45, 54, 55, 56, 57, 58, 59, 60, 61, 62, 63, 64, 65, 66, 46, 47, 48, 49, 50, 51, 52, 53] (by decide +kernel) (by decide +kernel)
set_option maxRecDepth 20000 in
theorem gX2_refresh_X2_weigh : GoodIn wsX2_refresh (wsV RX2 45 RX2 yX2_weigh wsX2_weigh) := goodIn_app (goodIn_of _ (by decide +kernel)) ggX2_refresh_X2_weigh
theorem dX2_refresh_0 : decode cX2_refresh 0 = .ok (.getstatic 38, 3) := by decide +kernel
theorem dX2_refresh_3 : decode cX2_refresh 3 = .ok (.aload_n 0, 1) := by decide +kernel
theorem dX2_refresh_4 : decode cX2_refresh 4 = .ok (.getfield 21, 3) := by decide +kernel
theorem dX2_refresh_7 : decode cX2_refresh 7 = .ok (.getfield 29, 3) := by decide +kernel
theorem dX2_refresh_10 : decode cX2_refresh 10 = .ok (.iaload, 1) := by decide +kernel
theorem dX2_refresh_11 : decode cX2_refresh 11 = .ok (.iconst 1, 1) := by decide +kernel
theorem dX2_refresh_12 : decode cX2_refresh 12 = .ok (.isub, 1) := by decide +kernel
theorem dX2_refresh_13 : decode cX2_refresh 13 = .ok (.istore_n 1, 1) := by decide +kernel
theorem dX2_refresh_14 : decode cX2_refresh 14 = .ok (.iload_n 1, 1) := by decide +kernel
theorem dX2_refresh_15 : decode cX2_refresh 15 = .ok (.ifCond .lt 22, 3) := by decide +kernel
theorem dX2_refresh_18 : decode cX2_refresh 18 = .ok (.aload_n 0, 1) := by decide +kernel
theorem dX2_refresh_19 : decode cX2_refresh 19 = .ok (.iload_n 1, 1) := by decide +kernel
theorem dX2_refresh_20 : decode cX2_refresh 20 = .ok (.invokevirtual 41, 3) := by decide +kernel
theorem dX2_refresh_23 : decode cX2_refresh 23 = .ok (.ifCond .eq 8, 3) := by decide +kernel
theorem dX2_refresh_26 : decode cX2_refresh 26 = .ok (.aload_n 0, 1) := by decide +kernel
theorem dX2_refresh_27 : decode cX2_refresh 27 = .ok (.iload_n 1, 1) := by decide +kernel
theorem dX2_refresh_28 : decode cX2_refresh 28 = .ok (.invokevirtual 45, 3) := by decide +kernel
theorem dX2_refresh_31 : decode cX2_refresh 31 = .ok (.iinc 1 (-1), 3) := by decide +kernel
theorem dX2_refresh_34 : decode cX2_refresh 34 = .ok (.goto (-20), 3) := by decide +kernel
theorem dX2_refresh_37 : decode cX2_refresh 37 = .ok (.return_, 1) := by decide +kernel
theorem dX2_readDigits_0 : decode cX2_readDigits 0 = .ok (.iload_n 1, 1) := by decide +kernel
theorem dX2_readDigits_1 : decode cX2_readDigits 1 = .ok (.istore_n 2, 1) := by decide +kernel
theorem dX2_readDigits_2 : decode cX2_readDigits 2 = .ok (.iconst 0, 1) := by decide +kernel
theorem dX2_readDigits_3 : decode cX2_readDigits 3 = .ok (.istore_n 3, 1) := by decide +kernel
theorem dX2_readDigits_4 : decode cX2_readDigits 4 = .ok (.iload_n 3, 1) := by decide +kernel
theorem dX2_readDigits_5 : decode cX2_readDigits 5 = .ok (.aload_n 0, 1) := by decide +kernel
theorem dX2_readDigits_6 : decode cX2_readDigits 6 = .ok (.getfield 21, 3) := by decide +kernel
theorem dX2_readDigits_9 : decode cX2_readDigits 9 = .ok (.getfield 29, 3) := by decide +kernel
theorem dX2_readDigits_12 : decode cX2_readDigits 12 = .ok (.if_icmp .ge 42, 3) := by decide +kernel
theorem dX2_readDigits_15 : decode cX2_readDigits 15 = .ok (.iload_n 2, 1) := by decide +kernel
theorem dX2_readDigits_16 : decode cX2_readDigits 16 = .ok (.iconst 5, 1) := by decide +kernel
theorem dX2_readDigits_17 : decode cX2_readDigits 17 = .ok (.irem, 1) := by decide +kernel
theorem dX2_readDigits_18 : decode cX2_readDigits 18 = .ok (.istore 4, 2) := by decide +kernel
theorem dX2_readDigits_20 : decode cX2_readDigits 20 = .ok (.iload 4, 2) := by decide +kernel
theorem dX2_readDigits_22 : decode cX2_readDigits 22 = .ok (.aload_n 0, 1) := by decide +kernel
theorem dX2_readDigits_23 : decode cX2_readDigits 23 = .ok (.getfield 21, 3) := by decide +kernel
theorem dX2_readDigits_26 : decode cX2_readDigits 26 = .ok (.getfield 35, 3) := by decide +kernel
theorem dX2_readDigits_29 : decode cX2_readDigits 29 = .ok (.iload_n 3, 1) := by decide +kernel
theorem dX2_readDigits_30 : decode cX2_readDigits 30 = .ok (.iaload, 1) := by decide +kernel
theorem dX2_readDigits_31 : decode cX2_readDigits 31 = .ok (.if_icmp .le 5, 3) := by decide +kernel
theorem dX2_readDigits_34 : decode cX2_readDigits 34 = .ok (.iconst 0, 1) := by decide +kernel
theorem dX2_readDigits_35 : decode cX2_readDigits 35 = .ok (.ireturn, 1) := by decide +kernel
theorem dX2_readDigits_36 : decode cX2_readDigits 36 = .ok (.aload_n 0, 1) := by decide +kernel
theorem dX2_readDigits_37 : decode cX2_readDigits 37 = .ok (.getfield 18, 3) := by decide +kernel
theorem dX2_readDigits_40 : decode cX2_readDigits 40 = .ok (.iload_n 3, 1) := by decide +kernel
theorem dX2_readDigits_41 : decode cX2_readDigits 41 = .ok (.iload 4, 2) := by decide +kernel
theorem dX2_readDigits_43 : decode cX2_readDigits 43 = .ok (.iastore, 1) := by decide +kernel
theorem dX2_readDigits_44 : decode cX2_readDigits 44 = .ok (.iload_n 2, 1) := by decide +kernel
theorem dX2_readDigits_45 : decode cX2_readDigits 45 = .ok (.iconst 5, 1) := by decide +kernel
theorem dX2_readDigits_46 : decode cX2_readDigits 46 = .ok (.idiv, 1) := by decide +kernel
theorem dX2_readDigits_47 : decode cX2_readDigits 47 = .ok (.istore_n 2, 1) := by decide +kernel
theorem dX2_readDigits_48 : decode cX2_readDigits 48 = .ok (.iinc 3 1, 3) := by decide +kernel
theorem dX2_readDigits_51 : decode cX2_readDigits 51 = .ok (.goto (-47), 3) := by decide +kernel
theorem dX2_readDigits_54 : decode cX2_readDigits 54 = .ok (.iconst 1, 1) := by decide +kernel
theorem dX2_readDigits_55 : decode cX2_readDigits 55 = .ok (.ireturn, 1) := by decide +kernel
set_option maxRecDepth 20000 in
theorem ggX2_weigh_X2_firstOpen : GoodIn wsX2_weigh wsX2_firstOpen := goodIn_r _ [9, 10, 11, 12, 33, 34, 35, 36, 37, 51, 52, 53, 54, 55, 56, 57, 58] (by decide +kernel) (by decide +kernel)
set_option maxRecDepth 20000 in
theorem gX2_weigh_X2_firstOpen : GoodIn wsX2_weigh (wsV RX2 49 RX2 yX2_firstOpen wsX2_firstOpen) := goodIn_app (goodIn_of _ (by decide +kernel)) ggX2_weigh_X2_firstOpen
set_option maxRecDepth 20000 in
theorem ggX2_weigh_X2_caseOfDigits : GoodIn wsX2_weigh wsX2_caseOfDigits := goodIn_r _ [16, 10, 11, 12, 2, 17, 33, 34, 35, 36, 37, 51, 52, 53, 54, 55, 56, 57, 58, 38, 39, 40, 41, 42, 43, 44, 45, 46, 47, 48, 49, 50] (by decide +kernel) (by decide +kernel)
set_option maxRecDepth 20000 in
theorem gX2_weigh_X2_caseOfDigits : GoodIn wsX2_weigh (wsV RX2 58 RX2 yX2_caseOfDigits wsX2_caseOfDigits) := goodIn_app (goodIn_of _ (by decide +kernel)) ggX2_weigh_X2_caseOfDigits
set_option maxRecDepth 20000 in
theorem ggX2_weigh_X2_commonAfter : GoodIn wsX2_weigh wsX2_commonAfter := goodIn_r _ [21, 1, 22, 10, 23, 33, 34, 35, 36, 37, 51, 52, 53, 54, 55, 56, 57, 58] (by decide +kernel) (by decide +kernel)
set_option maxRecDepth 20000 in
theorem gX2_weigh_X2_commonAfter : GoodIn wsX2_weigh (wsV RX2 61 RX2 yX2_commonAfter wsX2_commonAfter) := goodIn_app (goodIn_of _ (by decide +kernel)) ggX2_weigh_X2_commonAfter
set_option maxRecDepth 20000 in
theorem ggX2_weigh_X2_leastWorst : GoodIn wsX2_weigh wsX2_leastWorst := goodIn_r _ [27, 10, 11, 12, 28, 29, 30, 8, 31, 23, 4, 22, 32, 33, 34, 35, 36, 37, 51, 52, 53, 54, 55, 56, 57, 58] (by decide +kernel) (by decide +kernel)
set_option maxRecDepth 20000 in
theorem gX2_weigh_X2_leastWorst : GoodIn wsX2_weigh (wsV RX2 65 RX2 yX2_leastWorst wsX2_leastWorst) := goodIn_app (goodIn_of _ (by decide +kernel)) ggX2_weigh_X2_leastWorst
theorem dX2_weigh_0 : decode cX2_weigh 0 = .ok (.aload_n 0, 1) := by decide +kernel
theorem dX2_weigh_1 : decode cX2_weigh 1 = .ok (.invokevirtual 49, 3) := by decide +kernel
theorem dX2_weigh_4 : decode cX2_weigh 4 = .ok (.istore_n 2, 1) := by decide +kernel
theorem dX2_weigh_5 : decode cX2_weigh 5 = .ok (.iload_n 2, 1) := by decide +kernel
theorem dX2_weigh_6 : decode cX2_weigh 6 = .ok (.ifCond .ge 24, 3) := by decide +kernel
theorem dX2_weigh_9 : decode cX2_weigh 9 = .ok (.aload_n 0, 1) := by decide +kernel
theorem dX2_weigh_10 : decode cX2_weigh 10 = .ok (.getfield 11, 3) := by decide +kernel
theorem dX2_weigh_13 : decode cX2_weigh 13 = .ok (.iload_n 1, 1) := by decide +kernel
theorem dX2_weigh_14 : decode cX2_weigh 14 = .ok (.aload_n 0, 1) := by decide +kernel
theorem dX2_weigh_15 : decode cX2_weigh 15 = .ok (.getfield 25, 3) := by decide +kernel
theorem dX2_weigh_18 : decode cX2_weigh 18 = .ok (.getfield 53, 3) := by decide +kernel
theorem dX2_weigh_21 : decode cX2_weigh 21 = .ok (.aload_n 0, 1) := by decide +kernel
theorem dX2_weigh_22 : decode cX2_weigh 22 = .ok (.invokevirtual 58, 3) := by decide +kernel
theorem dX2_weigh_25 : decode cX2_weigh 25 = .ok (.iaload, 1) := by decide +kernel
theorem dX2_weigh_26 : decode cX2_weigh 26 = .ok (.iastore, 1) := by decide +kernel
theorem dX2_weigh_27 : decode cX2_weigh 27 = .ok (.goto 15, 3) := by decide +kernel
theorem dX2_weigh_30 : decode cX2_weigh 30 = .ok (.aload_n 0, 1) := by decide +kernel
theorem dX2_weigh_31 : decode cX2_weigh 31 = .ok (.getfield 11, 3) := by decide +kernel
theorem dX2_weigh_34 : decode cX2_weigh 34 = .ok (.iload_n 1, 1) := by decide +kernel
theorem dX2_weigh_35 : decode cX2_weigh 35 = .ok (.aload_n 0, 1) := by decide +kernel
theorem dX2_weigh_36 : decode cX2_weigh 36 = .ok (.iload_n 1, 1) := by decide +kernel
theorem dX2_weigh_37 : decode cX2_weigh 37 = .ok (.iload_n 2, 1) := by decide +kernel
theorem dX2_weigh_38 : decode cX2_weigh 38 = .ok (.invokevirtual 61, 3) := by decide +kernel
theorem dX2_weigh_41 : decode cX2_weigh 41 = .ok (.iastore, 1) := by decide +kernel
theorem dX2_weigh_42 : decode cX2_weigh 42 = .ok (.aload_n 0, 1) := by decide +kernel
theorem dX2_weigh_43 : decode cX2_weigh 43 = .ok (.getfield 15, 3) := by decide +kernel
theorem dX2_weigh_46 : decode cX2_weigh 46 = .ok (.iload_n 1, 1) := by decide +kernel
theorem dX2_weigh_47 : decode cX2_weigh 47 = .ok (.aload_n 0, 1) := by decide +kernel
theorem dX2_weigh_48 : decode cX2_weigh 48 = .ok (.getfield 11, 3) := by decide +kernel
theorem dX2_weigh_51 : decode cX2_weigh 51 = .ok (.iload_n 1, 1) := by decide +kernel
theorem dX2_weigh_52 : decode cX2_weigh 52 = .ok (.iaload, 1) := by decide +kernel
theorem dX2_weigh_53 : decode cX2_weigh 53 = .ok (.bipush 11, 2) := by decide +kernel
theorem dX2_weigh_55 : decode cX2_weigh 55 = .ok (.if_icmp .ne 11, 3) := by decide +kernel
theorem dX2_weigh_58 : decode cX2_weigh 58 = .ok (.aload_n 0, 1) := by decide +kernel
theorem dX2_weigh_59 : decode cX2_weigh 59 = .ok (.iload_n 1, 1) := by decide +kernel
theorem dX2_weigh_60 : decode cX2_weigh 60 = .ok (.invokevirtual 65, 3) := by decide +kernel
theorem dX2_weigh_63 : decode cX2_weigh 63 = .ok (.goto 4, 3) := by decide +kernel
theorem dX2_weigh_66 : decode cX2_weigh 66 = .ok (.iconst 0, 1) := by decide +kernel
theorem dX2_weigh_67 : decode cX2_weigh 67 = .ok (.iastore, 1) := by decide +kernel
theorem dX2_weigh_68 : decode cX2_weigh 68 = .ok (.return_, 1) := by decide +kernel
theorem dX2_firstOpen_0 : decode cX2_firstOpen 0 = .ok (.iconst 0, 1) := by decide +kernel
theorem dX2_firstOpen_1 : decode cX2_firstOpen 1 = .ok (.istore_n 1, 1) := by decide +kernel
theorem dX2_firstOpen_2 : decode cX2_firstOpen 2 = .ok (.iload_n 1, 1) := by decide +kernel
theorem dX2_firstOpen_3 : decode cX2_firstOpen 3 = .ok (.aload_n 0, 1) := by decide +kernel
theorem dX2_firstOpen_4 : decode cX2_firstOpen 4 = .ok (.getfield 21, 3) := by decide +kernel
theorem dX2_firstOpen_7 : decode cX2_firstOpen 7 = .ok (.getfield 29, 3) := by decide +kernel
theorem dX2_firstOpen_10 : decode cX2_firstOpen 10 = .ok (.if_icmp .ge 20, 3) := by decide +kernel
theorem dX2_firstOpen_13 : decode cX2_firstOpen 13 = .ok (.aload_n 0, 1) := by decide +kernel
theorem dX2_firstOpen_14 : decode cX2_firstOpen 14 = .ok (.getfield 18, 3) := by decide +kernel
theorem dX2_firstOpen_17 : decode cX2_firstOpen 17 = .ok (.iload_n 1, 1) := by decide +kernel
theorem dX2_firstOpen_18 : decode cX2_firstOpen 18 = .ok (.iaload, 1) := by decide +kernel
theorem dX2_firstOpen_19 : decode cX2_firstOpen 19 = .ok (.ifCond .ne 5, 3) := by decide +kernel
theorem dX2_firstOpen_22 : decode cX2_firstOpen 22 = .ok (.iload_n 1, 1) := by decide +kernel
theorem dX2_firstOpen_23 : decode cX2_firstOpen 23 = .ok (.ireturn, 1) := by decide +kernel
theorem dX2_firstOpen_24 : decode cX2_firstOpen 24 = .ok (.iinc 1 1, 3) := by decide +kernel
theorem dX2_firstOpen_27 : decode cX2_firstOpen 27 = .ok (.goto (-25), 3) := by decide +kernel
theorem dX2_firstOpen_30 : decode cX2_firstOpen 30 = .ok (.iconst (-1), 1) := by decide +kernel
theorem dX2_firstOpen_31 : decode cX2_firstOpen 31 = .ok (.ireturn, 1) := by decide +kernel
theorem dX2_caseOfDigits_0 : decode cX2_caseOfDigits 0 = .ok (.iconst 0, 1) := by decide +kernel
theorem dX2_caseOfDigits_1 : decode cX2_caseOfDigits 1 = .ok (.istore_n 1, 1) := by decide +kernel
theorem dX2_caseOfDigits_2 : decode cX2_caseOfDigits 2 = .ok (.iconst 0, 1) := by decide +kernel
theorem dX2_caseOfDigits_3 : decode cX2_caseOfDigits 3 = .ok (.istore_n 2, 1) := by decide +kernel
theorem dX2_caseOfDigits_4 : decode cX2_caseOfDigits 4 = .ok (.iload_n 2, 1) := by decide +kernel
theorem dX2_caseOfDigits_5 : decode cX2_caseOfDigits 5 = .ok (.aload_n 0, 1) := by decide +kernel
theorem dX2_caseOfDigits_6 : decode cX2_caseOfDigits 6 = .ok (.getfield 21, 3) := by decide +kernel
theorem dX2_caseOfDigits_9 : decode cX2_caseOfDigits 9 = .ok (.getfield 29, 3) := by decide +kernel
theorem dX2_caseOfDigits_12 : decode cX2_caseOfDigits 12 = .ok (.if_icmp .ge 30, 3) := by decide +kernel
theorem dX2_caseOfDigits_15 : decode cX2_caseOfDigits 15 = .ok (.iload_n 1, 1) := by decide +kernel
theorem dX2_caseOfDigits_16 : decode cX2_caseOfDigits 16 = .ok (.aload_n 0, 1) := by decide +kernel
theorem dX2_caseOfDigits_17 : decode cX2_caseOfDigits 17 = .ok (.getfield 18, 3) := by decide +kernel
theorem dX2_caseOfDigits_20 : decode cX2_caseOfDigits 20 = .ok (.iload_n 2, 1) := by decide +kernel
theorem dX2_caseOfDigits_21 : decode cX2_caseOfDigits 21 = .ok (.iaload, 1) := by decide +kernel
theorem dX2_caseOfDigits_22 : decode cX2_caseOfDigits 22 = .ok (.iconst 1, 1) := by decide +kernel
theorem dX2_caseOfDigits_23 : decode cX2_caseOfDigits 23 = .ok (.isub, 1) := by decide +kernel
theorem dX2_caseOfDigits_24 : decode cX2_caseOfDigits 24 = .ok (.aload_n 0, 1) := by decide +kernel
theorem dX2_caseOfDigits_25 : decode cX2_caseOfDigits 25 = .ok (.getfield 25, 3) := by decide +kernel
theorem dX2_caseOfDigits_28 : decode cX2_caseOfDigits 28 = .ok (.getfield 69, 3) := by decide +kernel
theorem dX2_caseOfDigits_31 : decode cX2_caseOfDigits 31 = .ok (.iload_n 2, 1) := by decide +kernel
theorem dX2_caseOfDigits_32 : decode cX2_caseOfDigits 32 = .ok (.iaload, 1) := by decide +kernel
theorem dX2_caseOfDigits_33 : decode cX2_caseOfDigits 33 = .ok (.imul, 1) := by decide +kernel
theorem dX2_caseOfDigits_34 : decode cX2_caseOfDigits 34 = .ok (.iadd, 1) := by decide +kernel
theorem dX2_caseOfDigits_35 : decode cX2_caseOfDigits 35 = .ok (.istore_n 1, 1) := by decide +kernel
theorem dX2_caseOfDigits_36 : decode cX2_caseOfDigits 36 = .ok (.iinc 2 1, 3) := by decide +kernel
theorem dX2_caseOfDigits_39 : decode cX2_caseOfDigits 39 = .ok (.goto (-35), 3) := by decide +kernel
theorem dX2_caseOfDigits_42 : decode cX2_caseOfDigits 42 = .ok (.iload_n 1, 1) := by decide +kernel
theorem dX2_caseOfDigits_43 : decode cX2_caseOfDigits 43 = .ok (.ireturn, 1) := by decide +kernel
theorem dX2_commonAfter_0 : decode cX2_commonAfter 0 = .ok (.aload_n 0, 1) := by decide +kernel
theorem dX2_commonAfter_1 : decode cX2_commonAfter 1 = .ok (.getfield 11, 3) := by decide +kernel
theorem dX2_commonAfter_4 : decode cX2_commonAfter 4 = .ok (.iload_n 1, 1) := by decide +kernel
theorem dX2_commonAfter_5 : decode cX2_commonAfter 5 = .ok (.getstatic 38, 3) := by decide +kernel
theorem dX2_commonAfter_8 : decode cX2_commonAfter 8 = .ok (.iload_n 2, 1) := by decide +kernel
theorem dX2_commonAfter_9 : decode cX2_commonAfter 9 = .ok (.iaload, 1) := by decide +kernel
theorem dX2_commonAfter_10 : decode cX2_commonAfter 10 = .ok (.iadd, 1) := by decide +kernel
theorem dX2_commonAfter_11 : decode cX2_commonAfter 11 = .ok (.iaload, 1) := by decide +kernel
theorem dX2_commonAfter_12 : decode cX2_commonAfter 12 = .ok (.istore_n 3, 1) := by decide +kernel
theorem dX2_commonAfter_13 : decode cX2_commonAfter 13 = .ok (.iconst 2, 1) := by decide +kernel
theorem dX2_commonAfter_14 : decode cX2_commonAfter 14 = .ok (.istore 4, 2) := by decide +kernel
theorem dX2_commonAfter_16 : decode cX2_commonAfter 16 = .ok (.iload 4, 2) := by decide +kernel
theorem dX2_commonAfter_18 : decode cX2_commonAfter 18 = .ok (.aload_n 0, 1) := by decide +kernel
theorem dX2_commonAfter_19 : decode cX2_commonAfter 19 = .ok (.getfield 21, 3) := by decide +kernel
theorem dX2_commonAfter_22 : decode cX2_commonAfter 22 = .ok (.getfield 35, 3) := by decide +kernel
theorem dX2_commonAfter_25 : decode cX2_commonAfter 25 = .ok (.iload_n 2, 1) := by decide +kernel
theorem dX2_commonAfter_26 : decode cX2_commonAfter 26 = .ok (.iaload, 1) := by decide +kernel
theorem dX2_commonAfter_27 : decode cX2_commonAfter 27 = .ok (.if_icmp .gt 31, 3) := by decide +kernel
theorem dX2_commonAfter_30 : decode cX2_commonAfter 30 = .ok (.aload_n 0, 1) := by decide +kernel
theorem dX2_commonAfter_31 : decode cX2_commonAfter 31 = .ok (.getfield 11, 3) := by decide +kernel
theorem dX2_commonAfter_34 : decode cX2_commonAfter 34 = .ok (.iload_n 1, 1) := by decide +kernel
theorem dX2_commonAfter_35 : decode cX2_commonAfter 35 = .ok (.iload 4, 2) := by decide +kernel
theorem dX2_commonAfter_37 : decode cX2_commonAfter 37 = .ok (.getstatic 38, 3) := by decide +kernel
theorem dX2_commonAfter_40 : decode cX2_commonAfter 40 = .ok (.iload_n 2, 1) := by decide +kernel
theorem dX2_commonAfter_41 : decode cX2_commonAfter 41 = .ok (.iaload, 1) := by decide +kernel
theorem dX2_commonAfter_42 : decode cX2_commonAfter 42 = .ok (.imul, 1) := by decide +kernel
theorem dX2_commonAfter_43 : decode cX2_commonAfter 43 = .ok (.iadd, 1) := by decide +kernel
theorem dX2_commonAfter_44 : decode cX2_commonAfter 44 = .ok (.iaload, 1) := by decide +kernel
theorem dX2_commonAfter_45 : decode cX2_commonAfter 45 = .ok (.iload_n 3, 1) := by decide +kernel
theorem dX2_commonAfter_46 : decode cX2_commonAfter 46 = .ok (.if_icmp .eq 6, 3) := by decide +kernel
theorem dX2_commonAfter_49 : decode cX2_commonAfter 49 = .ok (.bipush 11, 2) := by decide +kernel
theorem dX2_commonAfter_51 : decode cX2_commonAfter 51 = .ok (.ireturn, 1) := by decide +kernel
theorem dX2_commonAfter_52 : decode cX2_commonAfter 52 = .ok (.iinc 4 1, 3) := by decide +kernel
theorem dX2_commonAfter_55 : decode cX2_commonAfter 55 = .ok (.goto (-39), 3) := by decide +kernel
theorem dX2_commonAfter_58 : decode cX2_commonAfter 58 = .ok (.iload_n 3, 1) := by decide +kernel
theorem dX2_commonAfter_59 : decode cX2_commonAfter 59 = .ok (.ireturn, 1) := by decide +kernel
set_option maxRecDepth 20000 in
theorem ggX2_leastWorst_X2_worstAsking : GoodIn wsX2_leastWorst wsX2_worstAsking := goodIn_r _ [8, 1, 9, 10, 11, 12, 13, 14, 15, 16, 17, 18, 19, 20, 21, 22, 23, 24, 25] (by decide +kernel) (by decide +kernel)
set_option maxRecDepth 20000 in
theorem gX2_leastWorst_X2_worstAsking : GoodIn wsX2_leastWorst (wsV RX2 72 RX2 yX2_worstAsking wsX2_worstAsking) := goodIn_app (goodIn_of _ (by decide +kernel)) ggX2_leastWorst_X2_worstAsking
theorem dX2_leastWorst_0 : decode cX2_leastWorst 0 = .ok (.bipush 100, 2) := by decide +kernel
theorem dX2_leastWorst_2 : decode cX2_leastWorst 2 = .ok (.istore_n 2, 1) := by decide +kernel
theorem dX2_leastWorst_3 : decode cX2_leastWorst 3 = .ok (.iconst 0, 1) := by decide +kernel
theorem dX2_leastWorst_4 : decode cX2_leastWorst 4 = .ok (.istore_n 3, 1) := by decide +kernel
theorem dX2_leastWorst_5 : decode cX2_leastWorst 5 = .ok (.iload_n 3, 1) := by decide +kernel
theorem dX2_leastWorst_6 : decode cX2_leastWorst 6 = .ok (.aload_n 0, 1) := by decide +kernel
theorem dX2_leastWorst_7 : decode cX2_leastWorst 7 = .ok (.getfield 21, 3) := by decide +kernel
theorem dX2_leastWorst_10 : decode cX2_leastWorst 10 = .ok (.getfield 29, 3) := by decide +kernel
theorem dX2_leastWorst_13 : decode cX2_leastWorst 13 = .ok (.if_icmp .ge 39, 3) := by decide +kernel
theorem dX2_leastWorst_16 : decode cX2_leastWorst 16 = .ok (.aload_n 0, 1) := by decide +kernel
theorem dX2_leastWorst_17 : decode cX2_leastWorst 17 = .ok (.getfield 18, 3) := by decide +kernel
theorem dX2_leastWorst_20 : decode cX2_leastWorst 20 = .ok (.iload_n 3, 1) := by decide +kernel
theorem dX2_leastWorst_21 : decode cX2_leastWorst 21 = .ok (.iaload, 1) := by decide +kernel
theorem dX2_leastWorst_22 : decode cX2_leastWorst 22 = .ok (.ifCond .ne 24, 3) := by decide +kernel
theorem dX2_leastWorst_25 : decode cX2_leastWorst 25 = .ok (.aload_n 0, 1) := by decide +kernel
theorem dX2_leastWorst_26 : decode cX2_leastWorst 26 = .ok (.iload_n 1, 1) := by decide +kernel
theorem dX2_leastWorst_27 : decode cX2_leastWorst 27 = .ok (.iload_n 3, 1) := by decide +kernel
theorem dX2_leastWorst_28 : decode cX2_leastWorst 28 = .ok (.invokevirtual 72, 3) := by decide +kernel
theorem dX2_leastWorst_31 : decode cX2_leastWorst 31 = .ok (.istore 4, 2) := by decide +kernel
theorem dX2_leastWorst_33 : decode cX2_leastWorst 33 = .ok (.iload 4, 2) := by decide +kernel
theorem dX2_leastWorst_35 : decode cX2_leastWorst 35 = .ok (.iload_n 2, 1) := by decide +kernel
theorem dX2_leastWorst_36 : decode cX2_leastWorst 36 = .ok (.if_icmp .ge 8, 3) := by decide +kernel
theorem dX2_leastWorst_39 : decode cX2_leastWorst 39 = .ok (.iload 4, 2) := by decide +kernel
theorem dX2_leastWorst_41 : decode cX2_leastWorst 41 = .ok (.goto 4, 3) := by decide +kernel
theorem dX2_leastWorst_44 : decode cX2_leastWorst 44 = .ok (.iload_n 2, 1) := by decide +kernel
theorem dX2_leastWorst_45 : decode cX2_leastWorst 45 = .ok (.istore_n 2, 1) := by decide +kernel
theorem dX2_leastWorst_46 : decode cX2_leastWorst 46 = .ok (.iinc 3 1, 3) := by decide +kernel
theorem dX2_leastWorst_49 : decode cX2_leastWorst 49 = .ok (.goto (-44), 3) := by decide +kernel
theorem dX2_leastWorst_52 : decode cX2_leastWorst 52 = .ok (.iload_n 2, 1) := by decide +kernel
theorem dX2_leastWorst_53 : decode cX2_leastWorst 53 = .ok (.ireturn, 1) := by decide +kernel
theorem dX2_worstAsking_0 : decode cX2_worstAsking 0 = .ok (.iconst 0, 1) := by decide +kernel
theorem dX2_worstAsking_1 : decode cX2_worstAsking 1 = .ok (.istore_n 3, 1) := by decide +kernel
theorem dX2_worstAsking_2 : decode cX2_worstAsking 2 = .ok (.iconst 1, 1) := by decide +kernel
theorem dX2_worstAsking_3 : decode cX2_worstAsking 3 = .ok (.istore 4, 2) := by decide +kernel
theorem dX2_worstAsking_5 : decode cX2_worstAsking 5 = .ok (.iload 4, 2) := by decide +kernel
theorem dX2_worstAsking_7 : decode cX2_worstAsking 7 = .ok (.aload_n 0, 1) := by decide +kernel
theorem dX2_worstAsking_8 : decode cX2_worstAsking 8 = .ok (.getfield 21, 3) := by decide +kernel
theorem dX2_worstAsking_11 : decode cX2_worstAsking 11 = .ok (.getfield 35, 3) := by decide +kernel
theorem dX2_worstAsking_14 : decode cX2_worstAsking 14 = .ok (.iload_n 2, 1) := by decide +kernel
theorem dX2_worstAsking_15 : decode cX2_worstAsking 15 = .ok (.iaload, 1) := by decide +kernel
theorem dX2_worstAsking_16 : decode cX2_worstAsking 16 = .ok (.if_icmp .gt 39, 3) := by decide +kernel
theorem dX2_worstAsking_19 : decode cX2_worstAsking 19 = .ok (.aload_n 0, 1) := by decide +kernel
theorem dX2_worstAsking_20 : decode cX2_worstAsking 20 = .ok (.getfield 15, 3) := by decide +kernel
theorem dX2_worstAsking_23 : decode cX2_worstAsking 23 = .ok (.iload_n 1, 1) := by decide +kernel
theorem dX2_worstAsking_24 : decode cX2_worstAsking 24 = .ok (.iload 4, 2) := by decide +kernel
theorem dX2_worstAsking_26 : decode cX2_worstAsking 26 = .ok (.getstatic 38, 3) := by decide +kernel
theorem dX2_worstAsking_29 : decode cX2_worstAsking 29 = .ok (.iload_n 2, 1) := by decide +kernel
theorem dX2_worstAsking_30 : decode cX2_worstAsking 30 = .ok (.iaload, 1) := by decide +kernel
theorem dX2_worstAsking_31 : decode cX2_worstAsking 31 = .ok (.imul, 1) := by decide +kernel
theorem dX2_worstAsking_32 : decode cX2_worstAsking 32 = .ok (.iadd, 1) := by decide +kernel
theorem dX2_worstAsking_33 : decode cX2_worstAsking 33 = .ok (.iaload, 1) := by decide +kernel
theorem dX2_worstAsking_34 : decode cX2_worstAsking 34 = .ok (.istore 5, 2) := by decide +kernel
theorem dX2_worstAsking_36 : decode cX2_worstAsking 36 = .ok (.iload 5, 2) := by decide +kernel
theorem dX2_worstAsking_38 : decode cX2_worstAsking 38 = .ok (.iload_n 3, 1) := by decide +kernel
theorem dX2_worstAsking_39 : decode cX2_worstAsking 39 = .ok (.if_icmp .le 8, 3) := by decide +kernel
theorem dX2_worstAsking_42 : decode cX2_worstAsking 42 = .ok (.iload 5, 2) := by decide +kernel
theorem dX2_worstAsking_44 : decode cX2_worstAsking 44 = .ok (.goto 4, 3) := by decide +kernel
theorem dX2_worstAsking_47 : decode cX2_worstAsking 47 = .ok (.iload_n 3, 1) := by decide +kernel
theorem dX2_worstAsking_48 : decode cX2_worstAsking 48 = .ok (.istore_n 3, 1) := by decide +kernel
theorem dX2_worstAsking_49 : decode cX2_worstAsking 49 = .ok (.iinc 4 1, 3) := by decide +kernel
theorem dX2_worstAsking_52 : decode cX2_worstAsking 52 = .ok (.goto (-47), 3) := by decide +kernel
theorem dX2_worstAsking_55 : decode cX2_worstAsking 55 = .ok (.aload_n 0, 1) := by decide +kernel
theorem dX2_worstAsking_56 : decode cX2_worstAsking 56 = .ok (.getfield 21, 3) := by decide +kernel
theorem dX2_worstAsking_59 : decode cX2_worstAsking 59 = .ok (.getfield 75, 3) := by decide +kernel
theorem dX2_worstAsking_62 : decode cX2_worstAsking 62 = .ok (.iload_n 2, 1) := by decide +kernel
theorem dX2_worstAsking_63 : decode cX2_worstAsking 63 = .ok (.iaload, 1) := by decide +kernel
theorem dX2_worstAsking_64 : decode cX2_worstAsking 64 = .ok (.iload_n 3, 1) := by decide +kernel
theorem dX2_worstAsking_65 : decode cX2_worstAsking 65 = .ok (.iadd, 1) := by decide +kernel
theorem dX2_worstAsking_66 : decode cX2_worstAsking 66 = .ok (.ireturn, 1) := by decide +kernel
set_option maxRecDepth 20000 in
theorem ggX2_question_X2_readDigits : GoodIn wsX2_question wsX2_readDigits := goodIn_r _ [10, 2, 3, 11, 4, 18, 19, 20, 21, 22, 23, 24, 25, 26, 27, 28, 29, 30] (by decide +kernel) (by decide +kernel)
set_option maxRecDepth 20000 in
theorem gX2_question_X2_readDigits : GoodIn wsX2_question (wsV RX2 41 RX2 yX2_readDigits wsX2_readDigits) := goodIn_app (goodIn_of _ (by decide +kernel)) ggX2_question_X2_readDigits
set_option maxRecDepth 20000 in
theorem ggX2_question_X2_worstAsking : GoodIn wsX2_question wsX2_worstAsking := goodIn_r _ [15, 2, 11, 5, 16, 17, 18, 19, 20, 21, 22, 23, 24, 25, 26, 27, 28, 29, 30] (by decide +kernel) (by decide +kernel)
set_option maxRecDepth 20000 in
theorem gX2_question_X2_worstAsking : GoodIn wsX2_question (wsV RX2 72 RX2 yX2_worstAsking wsX2_worstAsking) := goodIn_app (goodIn_of _ (by decide +kernel)) ggX2_question_X2_worstAsking
theorem dX2_question_0 : decode cX2_question 0 = .ok (.aload_n 0, 1) := by decide +kernel
theorem dX2_question_1 : decode cX2_question 1 = .ok (.getfield 11, 3) := by decide +kernel
theorem dX2_question_4 : decode cX2_question 4 = .ok (.iload_n 1, 1) := by decide +kernel
theorem dX2_question_5 : decode cX2_question 5 = .ok (.iaload, 1) := by decide +kernel
theorem dX2_question_6 : decode cX2_question 6 = .ok (.bipush 11, 2) := by decide +kernel
theorem dX2_question_8 : decode cX2_question 8 = .ok (.if_icmp .ne 11, 3) := by decide +kernel
theorem dX2_question_11 : decode cX2_question 11 = .ok (.aload_n 0, 1) := by decide +kernel
theorem dX2_question_12 : decode cX2_question 12 = .ok (.iload_n 1, 1) := by decide +kernel
theorem dX2_question_13 : decode cX2_question 13 = .ok (.invokevirtual 41, 3) := by decide +kernel
theorem dX2_question_16 : decode cX2_question 16 = .ok (.ifCond .ne 5, 3) := by decide +kernel
theorem dX2_question_19 : decode cX2_question 19 = .ok (.iconst (-1), 1) := by decide +kernel
theorem dX2_question_20 : decode cX2_question 20 = .ok (.ireturn, 1) := by decide +kernel
theorem dX2_question_21 : decode cX2_question 21 = .ok (.iconst 0, 1) := by decide +kernel
theorem dX2_question_22 : decode cX2_question 22 = .ok (.istore_n 2, 1) := by decide +kernel
theorem dX2_question_23 : decode cX2_question 23 = .ok (.iload_n 2, 1) := by decide +kernel
theorem dX2_question_24 : decode cX2_question 24 = .ok (.aload_n 0, 1) := by decide +kernel
theorem dX2_question_25 : decode cX2_question 25 = .ok (.getfield 21, 3) := by decide +kernel
theorem dX2_question_28 : decode cX2_question 28 = .ok (.getfield 29, 3) := by decide +kernel
theorem dX2_question_31 : decode cX2_question 31 = .ok (.if_icmp .ge 35, 3) := by decide +kernel
theorem dX2_question_34 : decode cX2_question 34 = .ok (.aload_n 0, 1) := by decide +kernel
theorem dX2_question_35 : decode cX2_question 35 = .ok (.getfield 18, 3) := by decide +kernel
theorem dX2_question_38 : decode cX2_question 38 = .ok (.iload_n 2, 1) := by decide +kernel
theorem dX2_question_39 : decode cX2_question 39 = .ok (.iaload, 1) := by decide +kernel
theorem dX2_question_40 : decode cX2_question 40 = .ok (.ifCond .ne 20, 3) := by decide +kernel
theorem dX2_question_43 : decode cX2_question 43 = .ok (.aload_n 0, 1) := by decide +kernel
theorem dX2_question_44 : decode cX2_question 44 = .ok (.iload_n 1, 1) := by decide +kernel
theorem dX2_question_45 : decode cX2_question 45 = .ok (.iload_n 2, 1) := by decide +kernel
theorem dX2_question_46 : decode cX2_question 46 = .ok (.invokevirtual 72, 3) := by decide +kernel
theorem dX2_question_49 : decode cX2_question 49 = .ok (.aload_n 0, 1) := by decide +kernel
theorem dX2_question_50 : decode cX2_question 50 = .ok (.getfield 15, 3) := by decide +kernel
theorem dX2_question_53 : decode cX2_question 53 = .ok (.iload_n 1, 1) := by decide +kernel
theorem dX2_question_54 : decode cX2_question 54 = .ok (.iaload, 1) := by decide +kernel
theorem dX2_question_55 : decode cX2_question 55 = .ok (.if_icmp .ne 5, 3) := by decide +kernel
theorem dX2_question_58 : decode cX2_question 58 = .ok (.iload_n 2, 1) := by decide +kernel
theorem dX2_question_59 : decode cX2_question 59 = .ok (.ireturn, 1) := by decide +kernel
theorem dX2_question_60 : decode cX2_question 60 = .ok (.iinc 2 1, 3) := by decide +kernel
theorem dX2_question_63 : decode cX2_question 63 = .ok (.goto (-40), 3) := by decide +kernel
theorem dX2_question_66 : decode cX2_question 66 = .ok (.iconst (-1), 1) := by decide +kernel
theorem dX2_question_67 : decode cX2_question 67 = .ok (.ireturn, 1) := by decide +kernel
theorem dX3_init_0 : decode cX3_init 0 = .ok (.aload_n 0, 1) := by decide +kernel
theorem dX3_init_1 : decode cX3_init 1 = .ok (.invokespecial 3, 3) := by decide +kernel
theorem dX3_init_4 : decode cX3_init 4 = .ok (.aload_n 0, 1) := by decide +kernel
theorem dX3_init_5 : decode cX3_init 5 = .ok (.sipush 150, 3) := by decide +kernel
theorem dX3_init_8 : decode cX3_init 8 = .ok (.newarray .byte, 2) := by decide +kernel
theorem dX3_init_10 : decode cX3_init 10 = .ok (.putfield 9, 3) := by decide +kernel
theorem dX3_init_13 : decode cX3_init 13 = .ok (.aload_n 0, 1) := by decide +kernel
theorem dX3_init_14 : decode cX3_init 14 = .ok (.aload_n 1, 1) := by decide +kernel
theorem dX3_init_15 : decode cX3_init 15 = .ok (.putfield 15, 3) := by decide +kernel
theorem dX3_init_18 : decode cX3_init 18 = .ok (.return_, 1) := by decide +kernel
theorem dX4_init_0 : decode cX4_init 0 = .ok (.aload_n 0, 1) := by decide +kernel
theorem dX4_init_1 : decode cX4_init 1 = .ok (.invokespecial 3, 3) := by decide +kernel
theorem dX4_init_4 : decode cX4_init 4 = .ok (.aload_n 0, 1) := by decide +kernel
theorem dX4_init_5 : decode cX4_init 5 = .ok (.iconst 5, 1) := by decide +kernel
theorem dX4_init_6 : decode cX4_init 6 = .ok (.newarray .int, 2) := by decide +kernel
theorem dX4_init_8 : decode cX4_init 8 = .ok (.putfield 9, 3) := by decide +kernel
theorem dX4_init_11 : decode cX4_init 11 = .ok (.aload_n 0, 1) := by decide +kernel
theorem dX4_init_12 : decode cX4_init 12 = .ok (.iconst 5, 1) := by decide +kernel
theorem dX4_init_13 : decode cX4_init 13 = .ok (.newarray .int, 2) := by decide +kernel
theorem dX4_init_15 : decode cX4_init 15 = .ok (.putfield 15, 3) := by decide +kernel
theorem dX4_init_18 : decode cX4_init 18 = .ok (.aload_n 0, 1) := by decide +kernel
theorem dX4_init_19 : decode cX4_init 19 = .ok (.bipush 20, 2) := by decide +kernel
theorem dX4_init_21 : decode cX4_init 21 = .ok (.newarray .int, 2) := by decide +kernel
theorem dX4_init_23 : decode cX4_init 23 = .ok (.putfield 18, 3) := by decide +kernel
theorem dX4_init_26 : decode cX4_init 26 = .ok (.aload_n 0, 1) := by decide +kernel
theorem dX4_init_27 : decode cX4_init 27 = .ok (.bipush 20, 2) := by decide +kernel
theorem dX4_init_29 : decode cX4_init 29 = .ok (.newarray .int, 2) := by decide +kernel
theorem dX4_init_31 : decode cX4_init 31 = .ok (.putfield 21, 3) := by decide +kernel
theorem dX4_init_34 : decode cX4_init 34 = .ok (.aload_n 0, 1) := by decide +kernel
theorem dX4_init_35 : decode cX4_init 35 = .ok (.bipush 20, 2) := by decide +kernel
theorem dX4_init_37 : decode cX4_init 37 = .ok (.newarray .int, 2) := by decide +kernel
theorem dX4_init_39 : decode cX4_init 39 = .ok (.putfield 24, 3) := by decide +kernel
theorem dX4_init_42 : decode cX4_init 42 = .ok (.return_, 1) := by decide +kernel
theorem dX4_copyFrom_0 : decode cX4_copyFrom 0 = .ok (.aload_n 0, 1) := by decide +kernel
theorem dX4_copyFrom_1 : decode cX4_copyFrom 1 = .ok (.aload_n 1, 1) := by decide +kernel
theorem dX4_copyFrom_2 : decode cX4_copyFrom 2 = .ok (.getfield 27, 3) := by decide +kernel
theorem dX4_copyFrom_5 : decode cX4_copyFrom 5 = .ok (.putfield 27, 3) := by decide +kernel
theorem dX4_copyFrom_8 : decode cX4_copyFrom 8 = .ok (.aload_n 0, 1) := by decide +kernel
theorem dX4_copyFrom_9 : decode cX4_copyFrom 9 = .ok (.aload_n 1, 1) := by decide +kernel
theorem dX4_copyFrom_10 : decode cX4_copyFrom 10 = .ok (.getfield 31, 3) := by decide +kernel
theorem dX4_copyFrom_13 : decode cX4_copyFrom 13 = .ok (.putfield 31, 3) := by decide +kernel
theorem dX4_copyFrom_16 : decode cX4_copyFrom 16 = .ok (.aload_n 0, 1) := by decide +kernel
theorem dX4_copyFrom_17 : decode cX4_copyFrom 17 = .ok (.aload_n 1, 1) := by decide +kernel
theorem dX4_copyFrom_18 : decode cX4_copyFrom 18 = .ok (.getfield 34, 3) := by decide +kernel
theorem dX4_copyFrom_21 : decode cX4_copyFrom 21 = .ok (.putfield 34, 3) := by decide +kernel
theorem dX4_copyFrom_24 : decode cX4_copyFrom 24 = .ok (.aload_n 1, 1) := by decide +kernel
theorem dX4_copyFrom_25 : decode cX4_copyFrom 25 = .ok (.getfield 9, 3) := by decide +kernel
theorem dX4_copyFrom_28 : decode cX4_copyFrom 28 = .ok (.iconst 0, 1) := by decide +kernel
theorem dX4_copyFrom_29 : decode cX4_copyFrom 29 = .ok (.aload_n 0, 1) := by decide +kernel
theorem dX4_copyFrom_30 : decode cX4_copyFrom 30 = .ok (.getfield 9, 3) := by decide +kernel
theorem dX4_copyFrom_33 : decode cX4_copyFrom 33 = .ok (.iconst 0, 1) := by decide +kernel
theorem dX4_copyFrom_34 : decode cX4_copyFrom 34 = .ok (.iconst 5, 1) := by decide +kernel
theorem dX4_copyFrom_35 : decode cX4_copyFrom 35 = .ok (.invokestatic 37, 3) := by decide +kernel
theorem dX4_copyFrom_38 : decode cX4_copyFrom 38 = .ok (.aload_n 1, 1) := by decide +kernel
theorem dX4_copyFrom_39 : decode cX4_copyFrom 39 = .ok (.getfield 15, 3) := by decide +kernel
theorem dX4_copyFrom_42 : decode cX4_copyFrom 42 = .ok (.iconst 0, 1) := by decide +kernel
theorem dX4_copyFrom_43 : decode cX4_copyFrom 43 = .ok (.aload_n 0, 1) := by decide +kernel
theorem dX4_copyFrom_44 : decode cX4_copyFrom 44 = .ok (.getfield 15, 3) := by decide +kernel
theorem dX4_copyFrom_47 : decode cX4_copyFrom 47 = .ok (.iconst 0, 1) := by decide +kernel
theorem dX4_copyFrom_48 : decode cX4_copyFrom 48 = .ok (.iconst 5, 1) := by decide +kernel
theorem dX4_copyFrom_49 : decode cX4_copyFrom 49 = .ok (.invokestatic 37, 3) := by decide +kernel
theorem dX4_copyFrom_52 : decode cX4_copyFrom 52 = .ok (.aload_n 1, 1) := by decide +kernel
theorem dX4_copyFrom_53 : decode cX4_copyFrom 53 = .ok (.getfield 18, 3) := by decide +kernel
theorem dX4_copyFrom_56 : decode cX4_copyFrom 56 = .ok (.iconst 0, 1) := by decide +kernel
theorem dX4_copyFrom_57 : decode cX4_copyFrom 57 = .ok (.aload_n 0, 1) := by decide +kernel
theorem dX4_copyFrom_58 : decode cX4_copyFrom 58 = .ok (.getfield 18, 3) := by decide +kernel
theorem dX4_copyFrom_61 : decode cX4_copyFrom 61 = .ok (.iconst 0, 1) := by decide +kernel
theorem dX4_copyFrom_62 : decode cX4_copyFrom 62 = .ok (.bipush 20, 2) := by decide +kernel
theorem dX4_copyFrom_64 : decode cX4_copyFrom 64 = .ok (.invokestatic 37, 3) := by decide +kernel
theorem dX4_copyFrom_67 : decode cX4_copyFrom 67 = .ok (.aload_n 1, 1) := by decide +kernel
theorem dX4_copyFrom_68 : decode cX4_copyFrom 68 = .ok (.getfield 21, 3) := by decide +kernel
theorem dX4_copyFrom_71 : decode cX4_copyFrom 71 = .ok (.iconst 0, 1) := by decide +kernel
theorem dX4_copyFrom_72 : decode cX4_copyFrom 72 = .ok (.aload_n 0, 1) := by decide +kernel
theorem dX4_copyFrom_73 : decode cX4_copyFrom 73 = .ok (.getfield 21, 3) := by decide +kernel
theorem dX4_copyFrom_76 : decode cX4_copyFrom 76 = .ok (.iconst 0, 1) := by decide +kernel
theorem dX4_copyFrom_77 : decode cX4_copyFrom 77 = .ok (.bipush 20, 2) := by decide +kernel
theorem dX4_copyFrom_79 : decode cX4_copyFrom 79 = .ok (.invokestatic 37, 3) := by decide +kernel
theorem dX4_copyFrom_82 : decode cX4_copyFrom 82 = .ok (.aload_n 1, 1) := by decide +kernel
theorem dX4_copyFrom_83 : decode cX4_copyFrom 83 = .ok (.getfield 24, 3) := by decide +kernel
theorem dX4_copyFrom_86 : decode cX4_copyFrom 86 = .ok (.iconst 0, 1) := by decide +kernel
theorem dX4_copyFrom_87 : decode cX4_copyFrom 87 = .ok (.aload_n 0, 1) := by decide +kernel
theorem dX4_copyFrom_88 : decode cX4_copyFrom 88 = .ok (.getfield 24, 3) := by decide +kernel
theorem dX4_copyFrom_91 : decode cX4_copyFrom 91 = .ok (.iconst 0, 1) := by decide +kernel
theorem dX4_copyFrom_92 : decode cX4_copyFrom 92 = .ok (.bipush 20, 2) := by decide +kernel
theorem dX4_copyFrom_94 : decode cX4_copyFrom 94 = .ok (.invokestatic 37, 3) := by decide +kernel
theorem dX4_copyFrom_97 : decode cX4_copyFrom 97 = .ok (.return_, 1) := by decide +kernel
theorem dX4_fullSet_0 : decode cX4_fullSet 0 = .ok (.iconst 1, 1) := by decide +kernel
theorem dX4_fullSet_1 : decode cX4_fullSet 1 = .ok (.aload_n 0, 1) := by decide +kernel
theorem dX4_fullSet_2 : decode cX4_fullSet 2 = .ok (.getfield 9, 3) := by decide +kernel
theorem dX4_fullSet_5 : decode cX4_fullSet 5 = .ok (.iload_n 1, 1) := by decide +kernel
theorem dX4_fullSet_6 : decode cX4_fullSet 6 = .ok (.iaload, 1) := by decide +kernel
theorem dX4_fullSet_7 : decode cX4_fullSet 7 = .ok (.ishl, 1) := by decide +kernel
theorem dX4_fullSet_8 : decode cX4_fullSet 8 = .ok (.iconst 1, 1) := by decide +kernel
theorem dX4_fullSet_9 : decode cX4_fullSet 9 = .ok (.isub, 1) := by decide +kernel
theorem dX4_fullSet_10 : decode cX4_fullSet 10 = .ok (.ireturn, 1) := by decide +kernel
set_option maxRecDepth 20000 in
theorem ggX4_isSet_X4_fullSet : GoodIn wsX4_isSet wsX4_fullSet := goodIn_r _ [5, 6, 7, 8, 9, 10, 11, 12, 13, 14] (by decide +kernel) (by decide +kernel)
set_option maxRecDepth 20000 in
theorem gX4_isSet_X4_fullSet : GoodIn wsX4_isSet (wsV RX4 43 RX4 yX4_fullSet wsX4_fullSet) := goodIn_app (goodIn_of _ (by decide +kernel)) ggX4_isSet_X4_fullSet
theorem dX4_isSet_0 : decode cX4_isSet 0 = .ok (.iload_n 2, 1) := by decide +kernel
theorem dX4_isSet_1 : decode cX4_isSet 1 = .ok (.ifCond .le 16, 3) := by decide +kernel
theorem dX4_isSet_4 : decode cX4_isSet 4 = .ok (.iload_n 2, 1) := by decide +kernel
theorem dX4_isSet_5 : decode cX4_isSet 5 = .ok (.aload_n 0, 1) := by decide +kernel
theorem dX4_isSet_6 : decode cX4_isSet 6 = .ok (.iload_n 1, 1) := by decide +kernel
theorem dX4_isSet_7 : decode cX4_isSet 7 = .ok (.invokevirtual 43, 3) := by decide +kernel
theorem dX4_isSet_10 : decode cX4_isSet 10 = .ok (.if_icmp .gt 7, 3) := by decide +kernel
theorem dX4_isSet_13 : decode cX4_isSet 13 = .ok (.iconst 1, 1) := by decide +kernel
theorem dX4_isSet_14 : decode cX4_isSet 14 = .ok (.goto 4, 3) := by decide +kernel
theorem dX4_isSet_17 : decode cX4_isSet 17 = .ok (.iconst 0, 1) := by decide +kernel
theorem dX4_isSet_18 : decode cX4_isSet 18 = .ok (.ireturn, 1) := by decide +kernel
set_option maxRecDepth 20000 in
theorem ggX4_areSets_X4_isSet : GoodIn wsX4_areSets wsX4_isSet := goodIn_r _ [6, 7, 8, 9, 5, 10, 11, 12, 13, 14, 15, 16, 17, 18, 19] (by decide +kernel) (by decide +kernel)
set_option maxRecDepth 20000 in
theorem gX4_areSets_X4_isSet : GoodIn wsX4_areSets (wsV RX4 47 RX4 yX4_isSet wsX4_isSet) := goodIn_app (goodIn_of _ (by decide +kernel)) ggX4_areSets_X4_isSet
theorem dX4_areSets_0 : decode cX4_areSets 0 = .ok (.iload_n 1, 1) := by decide +kernel
theorem dX4_areSets_1 : decode cX4_areSets 1 = .ok (.ifCond .lt 14, 3) := by decide +kernel
theorem dX4_areSets_4 : decode cX4_areSets 4 = .ok (.iload_n 1, 1) := by decide +kernel
theorem dX4_areSets_5 : decode cX4_areSets 5 = .ok (.iconst 4, 1) := by decide +kernel
theorem dX4_areSets_6 : decode cX4_areSets 6 = .ok (.aload_n 0, 1) := by decide +kernel
theorem dX4_areSets_7 : decode cX4_areSets 7 = .ok (.getfield 27, 3) := by decide +kernel
theorem dX4_areSets_10 : decode cX4_areSets 10 = .ok (.imul, 1) := by decide +kernel
theorem dX4_areSets_11 : decode cX4_areSets 11 = .ok (.iushr, 1) := by decide +kernel
theorem dX4_areSets_12 : decode cX4_areSets 12 = .ok (.ifCond .eq 5, 3) := by decide +kernel
theorem dX4_areSets_15 : decode cX4_areSets 15 = .ok (.iconst 0, 1) := by decide +kernel
theorem dX4_areSets_16 : decode cX4_areSets 16 = .ok (.ireturn, 1) := by decide +kernel
theorem dX4_areSets_17 : decode cX4_areSets 17 = .ok (.iconst 0, 1) := by decide +kernel
theorem dX4_areSets_18 : decode cX4_areSets 18 = .ok (.istore_n 2, 1) := by decide +kernel
theorem dX4_areSets_19 : decode cX4_areSets 19 = .ok (.iload_n 2, 1) := by decide +kernel
theorem dX4_areSets_20 : decode cX4_areSets 20 = .ok (.aload_n 0, 1) := by decide +kernel
theorem dX4_areSets_21 : decode cX4_areSets 21 = .ok (.getfield 27, 3) := by decide +kernel
theorem dX4_areSets_24 : decode cX4_areSets 24 = .ok (.if_icmp .ge 27, 3) := by decide +kernel
theorem dX4_areSets_27 : decode cX4_areSets 27 = .ok (.aload_n 0, 1) := by decide +kernel
theorem dX4_areSets_28 : decode cX4_areSets 28 = .ok (.iload_n 2, 1) := by decide +kernel
theorem dX4_areSets_29 : decode cX4_areSets 29 = .ok (.iload_n 1, 1) := by decide +kernel
theorem dX4_areSets_30 : decode cX4_areSets 30 = .ok (.iconst 4, 1) := by decide +kernel
theorem dX4_areSets_31 : decode cX4_areSets 31 = .ok (.iload_n 2, 1) := by decide +kernel
theorem dX4_areSets_32 : decode cX4_areSets 32 = .ok (.imul, 1) := by decide +kernel
theorem dX4_areSets_33 : decode cX4_areSets 33 = .ok (.ishr, 1) := by decide +kernel
theorem dX4_areSets_34 : decode cX4_areSets 34 = .ok (.bipush 15, 2) := by decide +kernel
theorem dX4_areSets_36 : decode cX4_areSets 36 = .ok (.iand, 1) := by decide +kernel
theorem dX4_areSets_37 : decode cX4_areSets 37 = .ok (.invokevirtual 47, 3) := by decide +kernel
theorem dX4_areSets_40 : decode cX4_areSets 40 = .ok (.ifCond .ne 5, 3) := by decide +kernel
theorem dX4_areSets_43 : decode cX4_areSets 43 = .ok (.iconst 0, 1) := by decide +kernel
theorem dX4_areSets_44 : decode cX4_areSets 44 = .ok (.ireturn, 1) := by decide +kernel
theorem dX4_areSets_45 : decode cX4_areSets 45 = .ok (.iinc 2 1, 3) := by decide +kernel
theorem dX4_areSets_48 : decode cX4_areSets 48 = .ok (.goto (-29), 3) := by decide +kernel
theorem dX4_areSets_51 : decode cX4_areSets 51 = .ok (.iconst 1, 1) := by decide +kernel
theorem dX4_areSets_52 : decode cX4_areSets 52 = .ok (.ireturn, 1) := by decide +kernel
theorem dX4_placeOf_0 : decode cX4_placeOf 0 = .ok (.iconst 0, 1) := by decide +kernel
theorem dX4_placeOf_1 : decode cX4_placeOf 1 = .ok (.istore_n 2, 1) := by decide +kernel
theorem dX4_placeOf_2 : decode cX4_placeOf 2 = .ok (.iload_n 2, 1) := by decide +kernel
theorem dX4_placeOf_3 : decode cX4_placeOf 3 = .ok (.aload_n 0, 1) := by decide +kernel
theorem dX4_placeOf_4 : decode cX4_placeOf 4 = .ok (.getfield 34, 3) := by decide +kernel
theorem dX4_placeOf_7 : decode cX4_placeOf 7 = .ok (.if_icmp .ge 21, 3) := by decide +kernel
theorem dX4_placeOf_10 : decode cX4_placeOf 10 = .ok (.aload_n 0, 1) := by decide +kernel
theorem dX4_placeOf_11 : decode cX4_placeOf 11 = .ok (.getfield 18, 3) := by decide +kernel
theorem dX4_placeOf_14 : decode cX4_placeOf 14 = .ok (.iload_n 2, 1) := by decide +kernel
theorem dX4_placeOf_15 : decode cX4_placeOf 15 = .ok (.iaload, 1) := by decide +kernel
theorem dX4_placeOf_16 : decode cX4_placeOf 16 = .ok (.iload_n 1, 1) := by decide +kernel
theorem dX4_placeOf_17 : decode cX4_placeOf 17 = .ok (.if_icmp .ne 5, 3) := by decide +kernel
theorem dX4_placeOf_20 : decode cX4_placeOf 20 = .ok (.iload_n 2, 1) := by decide +kernel
theorem dX4_placeOf_21 : decode cX4_placeOf 21 = .ok (.ireturn, 1) := by decide +kernel
theorem dX4_placeOf_22 : decode cX4_placeOf 22 = .ok (.iinc 2 1, 3) := by decide +kernel
theorem dX4_placeOf_25 : decode cX4_placeOf 25 = .ok (.goto (-23), 3) := by decide +kernel
theorem dX4_placeOf_28 : decode cX4_placeOf 28 = .ok (.iconst (-1), 1) := by decide +kernel
theorem dX4_placeOf_29 : decode cX4_placeOf 29 = .ok (.ireturn, 1) := by decide +kernel
theorem dX4_setAt_0 : decode cX4_setAt 0 = .ok (.aload_n 0, 1) := by decide +kernel
theorem dX4_setAt_1 : decode cX4_setAt 1 = .ok (.getfield 21, 3) := by decide +kernel
theorem dX4_setAt_4 : decode cX4_setAt 4 = .ok (.iload_n 1, 1) := by decide +kernel
theorem dX4_setAt_5 : decode cX4_setAt 5 = .ok (.iaload, 1) := by decide +kernel
theorem dX4_setAt_6 : decode cX4_setAt 6 = .ok (.iconst 4, 1) := by decide +kernel
theorem dX4_setAt_7 : decode cX4_setAt 7 = .ok (.iload_n 2, 1) := by decide +kernel
theorem dX4_setAt_8 : decode cX4_setAt 8 = .ok (.imul, 1) := by decide +kernel
theorem dX4_setAt_9 : decode cX4_setAt 9 = .ok (.ishr, 1) := by decide +kernel
theorem dX4_setAt_10 : decode cX4_setAt 10 = .ok (.bipush 15, 2) := by decide +kernel
theorem dX4_setAt_12 : decode cX4_setAt 12 = .ok (.iand, 1) := by decide +kernel
theorem dX4_setAt_13 : decode cX4_setAt 13 = .ok (.ireturn, 1) := by decide +kernel
set_option maxRecDepth 20000 in
theorem ggX4_replaceSet_X4_setAt : GoodIn wsX4_replaceSet wsX4_setAt := goodIn_r _ [6, 1, 7, 8, 9, 10, 11, 12, 13, 14] (by decide +kernel) (by decide +kernel)
set_option maxRecDepth 20000 in
theorem gX4_replaceSet_X4_setAt : GoodIn wsX4_replaceSet (wsV RX4 51 RX4 yX4_setAt wsX4_setAt) := goodIn_app (goodIn_of _ (by decide +kernel)) ggX4_replaceSet_X4_setAt
theorem dX4_replaceSet_0 : decode cX4_replaceSet 0 = .ok (.aload_n 0, 1) := by decide +kernel
theorem dX4_replaceSet_1 : decode cX4_replaceSet 1 = .ok (.iload_n 1, 1) := by decide +kernel
theorem dX4_replaceSet_2 : decode cX4_replaceSet 2 = .ok (.iload_n 2, 1) := by decide +kernel
theorem dX4_replaceSet_3 : decode cX4_replaceSet 3 = .ok (.invokevirtual 51, 3) := by decide +kernel
theorem dX4_replaceSet_6 : decode cX4_replaceSet 6 = .ok (.istore 4, 2) := by decide +kernel
theorem dX4_replaceSet_8 : decode cX4_replaceSet 8 = .ok (.iconst 4, 1) := by decide +kernel
theorem dX4_replaceSet_9 : decode cX4_replaceSet 9 = .ok (.iload_n 2, 1) := by decide +kernel
theorem dX4_replaceSet_10 : decode cX4_replaceSet 10 = .ok (.imul, 1) := by decide +kernel
theorem dX4_replaceSet_11 : decode cX4_replaceSet 11 = .ok (.istore 5, 2) := by decide +kernel
theorem dX4_replaceSet_13 : decode cX4_replaceSet 13 = .ok (.aload_n 0, 1) := by decide +kernel
theorem dX4_replaceSet_14 : decode cX4_replaceSet 14 = .ok (.getfield 21, 3) := by decide +kernel
theorem dX4_replaceSet_17 : decode cX4_replaceSet 17 = .ok (.iload_n 1, 1) := by decide +kernel
theorem dX4_replaceSet_18 : decode cX4_replaceSet 18 = .ok (.aload_n 0, 1) := by decide +kernel
theorem dX4_replaceSet_19 : decode cX4_replaceSet 19 = .ok (.getfield 21, 3) := by decide +kernel
theorem dX4_replaceSet_22 : decode cX4_replaceSet 22 = .ok (.iload_n 1, 1) := by decide +kernel
theorem dX4_replaceSet_23 : decode cX4_replaceSet 23 = .ok (.iaload, 1) := by decide +kernel
theorem dX4_replaceSet_24 : decode cX4_replaceSet 24 = .ok (.bipush 15, 2) := by decide +kernel
theorem dX4_replaceSet_26 : decode cX4_replaceSet 26 = .ok (.iload 5, 2) := by decide +kernel
theorem dX4_replaceSet_28 : decode cX4_replaceSet 28 = .ok (.ishl, 1) := by decide +kernel
theorem dX4_replaceSet_29 : decode cX4_replaceSet 29 = .ok (.iconst (-1), 1) := by decide +kernel
theorem dX4_replaceSet_30 : decode cX4_replaceSet 30 = .ok (.ixor, 1) := by decide +kernel
theorem dX4_replaceSet_31 : decode cX4_replaceSet 31 = .ok (.iand, 1) := by decide +kernel
theorem dX4_replaceSet_32 : decode cX4_replaceSet 32 = .ok (.iload_n 3, 1) := by decide +kernel
theorem dX4_replaceSet_33 : decode cX4_replaceSet 33 = .ok (.iload 5, 2) := by decide +kernel
theorem dX4_replaceSet_35 : decode cX4_replaceSet 35 = .ok (.ishl, 1) := by decide +kernel
theorem dX4_replaceSet_36 : decode cX4_replaceSet 36 = .ok (.ior, 1) := by decide +kernel
theorem dX4_replaceSet_37 : decode cX4_replaceSet 37 = .ok (.iastore, 1) := by decide +kernel
theorem dX4_replaceSet_38 : decode cX4_replaceSet 38 = .ok (.iload 4, 2) := by decide +kernel
theorem dX4_replaceSet_40 : decode cX4_replaceSet 40 = .ok (.ireturn, 1) := by decide +kernel
set_option maxRecDepth 20000 in
theorem ggX4_appendCondition_X4_fullSet : GoodIn wsX4_appendCondition wsX4_fullSet := goodIn_r _ [10, 2, 11, 12, 13, 14, 15, 16, 17, 18] (by decide +kernel) (by decide +kernel)
set_option maxRecDepth 20000 in
theorem gX4_appendCondition_X4_fullSet : GoodIn wsX4_appendCondition (wsV RX4 43 RX4 yX4_fullSet wsX4_fullSet) := goodIn_app (goodIn_of _ (by decide +kernel)) ggX4_appendCondition_X4_fullSet
theorem dX4_appendCondition_0 : decode cX4_appendCondition 0 = .ok (.aload_n 0, 1) := by decide +kernel
theorem dX4_appendCondition_1 : decode cX4_appendCondition 1 = .ok (.getfield 27, 3) := by decide +kernel
theorem dX4_appendCondition_4 : decode cX4_appendCondition 4 = .ok (.istore_n 3, 1) := by decide +kernel
theorem dX4_appendCondition_5 : decode cX4_appendCondition 5 = .ok (.aload_n 0, 1) := by decide +kernel
theorem dX4_appendCondition_6 : decode cX4_appendCondition 6 = .ok (.getfield 9, 3) := by decide +kernel
theorem dX4_appendCondition_9 : decode cX4_appendCondition 9 = .ok (.iload_n 3, 1) := by decide +kernel
theorem dX4_appendCondition_10 : decode cX4_appendCondition 10 = .ok (.iload_n 1, 1) := by decide +kernel
theorem dX4_appendCondition_11 : decode cX4_appendCondition 11 = .ok (.iastore, 1) := by decide +kernel
theorem dX4_appendCondition_12 : decode cX4_appendCondition 12 = .ok (.aload_n 0, 1) := by decide +kernel
theorem dX4_appendCondition_13 : decode cX4_appendCondition 13 = .ok (.getfield 15, 3) := by decide +kernel
theorem dX4_appendCondition_16 : decode cX4_appendCondition 16 = .ok (.iload_n 3, 1) := by decide +kernel
theorem dX4_appendCondition_17 : decode cX4_appendCondition 17 = .ok (.iload_n 2, 1) := by decide +kernel
theorem dX4_appendCondition_18 : decode cX4_appendCondition 18 = .ok (.iastore, 1) := by decide +kernel
theorem dX4_appendCondition_19 : decode cX4_appendCondition 19 = .ok (.aload_n 0, 1) := by decide +kernel
theorem dX4_appendCondition_20 : decode cX4_appendCondition 20 = .ok (.dup, 1) := by decide +kernel
theorem dX4_appendCondition_21 : decode cX4_appendCondition 21 = .ok (.getfield 27, 3) := by decide +kernel
theorem dX4_appendCondition_24 : decode cX4_appendCondition 24 = .ok (.iconst 1, 1) := by decide +kernel
theorem dX4_appendCondition_25 : decode cX4_appendCondition 25 = .ok (.iadd, 1) := by decide +kernel
theorem dX4_appendCondition_26 : decode cX4_appendCondition 26 = .ok (.putfield 27, 3) := by decide +kernel
theorem dX4_appendCondition_29 : decode cX4_appendCondition 29 = .ok (.iconst 0, 1) := by decide +kernel
theorem dX4_appendCondition_30 : decode cX4_appendCondition 30 = .ok (.istore 4, 2) := by decide +kernel
theorem dX4_appendCondition_32 : decode cX4_appendCondition 32 = .ok (.iload 4, 2) := by decide +kernel
theorem dX4_appendCondition_34 : decode cX4_appendCondition 34 = .ok (.aload_n 0, 1) := by decide +kernel
theorem dX4_appendCondition_35 : decode cX4_appendCondition 35 = .ok (.getfield 34, 3) := by decide +kernel
theorem dX4_appendCondition_38 : decode cX4_appendCondition 38 = .ok (.if_icmp .ge 28, 3) := by decide +kernel
theorem dX4_appendCondition_41 : decode cX4_appendCondition 41 = .ok (.aload_n 0, 1) := by decide +kernel
theorem dX4_appendCondition_42 : decode cX4_appendCondition 42 = .ok (.getfield 21, 3) := by decide +kernel
theorem dX4_appendCondition_45 : decode cX4_appendCondition 45 = .ok (.iload 4, 2) := by decide +kernel
theorem dX4_appendCondition_47 : decode cX4_appendCondition 47 = .ok (.dup2, 1) := by decide +kernel
theorem dX4_appendCondition_48 : decode cX4_appendCondition 48 = .ok (.iaload, 1) := by decide +kernel
theorem dX4_appendCondition_49 : decode cX4_appendCondition 49 = .ok (.aload_n 0, 1) := by decide +kernel
theorem dX4_appendCondition_50 : decode cX4_appendCondition 50 = .ok (.iload_n 3, 1) := by decide +kernel
theorem dX4_appendCondition_51 : decode cX4_appendCondition 51 = .ok (.invokevirtual 43, 3) := by decide +kernel
theorem dX4_appendCondition_54 : decode cX4_appendCondition 54 = .ok (.iconst 4, 1) := by decide +kernel
theorem dX4_appendCondition_55 : decode cX4_appendCondition 55 = .ok (.iload_n 3, 1) := by decide +kernel
theorem dX4_appendCondition_56 : decode cX4_appendCondition 56 = .ok (.imul, 1) := by decide +kernel
theorem dX4_appendCondition_57 : decode cX4_appendCondition 57 = .ok (.ishl, 1) := by decide +kernel
theorem dX4_appendCondition_58 : decode cX4_appendCondition 58 = .ok (.ior, 1) := by decide +kernel
theorem dX4_appendCondition_59 : decode cX4_appendCondition 59 = .ok (.iastore, 1) := by decide +kernel
theorem dX4_appendCondition_60 : decode cX4_appendCondition 60 = .ok (.iinc 4 1, 3) := by decide +kernel
theorem dX4_appendCondition_63 : decode cX4_appendCondition 63 = .ok (.goto (-31), 3) := by decide +kernel
theorem dX4_appendCondition_66 : decode cX4_appendCondition 66 = .ok (.iload_n 3, 1) := by decide +kernel
theorem dX4_appendCondition_67 : decode cX4_appendCondition 67 = .ok (.ireturn, 1) := by decide +kernel
theorem dX4_appendRow_0 : decode cX4_appendRow 0 = .ok (.aload_n 0, 1) := by decide +kernel
theorem dX4_appendRow_1 : decode cX4_appendRow 1 = .ok (.getfield 31, 3) := by decide +kernel
theorem dX4_appendRow_4 : decode cX4_appendRow 4 = .ok (.istore_n 3, 1) := by decide +kernel
theorem dX4_appendRow_5 : decode cX4_appendRow 5 = .ok (.aload_n 0, 1) := by decide +kernel
theorem dX4_appendRow_6 : decode cX4_appendRow 6 = .ok (.getfield 18, 3) := by decide +kernel
theorem dX4_appendRow_9 : decode cX4_appendRow 9 = .ok (.aload_n 0, 1) := by decide +kernel
theorem dX4_appendRow_10 : decode cX4_appendRow 10 = .ok (.getfield 34, 3) := by decide +kernel
theorem dX4_appendRow_13 : decode cX4_appendRow 13 = .ok (.iload_n 3, 1) := by decide +kernel
theorem dX4_appendRow_14 : decode cX4_appendRow 14 = .ok (.iastore, 1) := by decide +kernel
theorem dX4_appendRow_15 : decode cX4_appendRow 15 = .ok (.aload_n 0, 1) := by decide +kernel
theorem dX4_appendRow_16 : decode cX4_appendRow 16 = .ok (.getfield 21, 3) := by decide +kernel
theorem dX4_appendRow_19 : decode cX4_appendRow 19 = .ok (.aload_n 0, 1) := by decide +kernel
theorem dX4_appendRow_20 : decode cX4_appendRow 20 = .ok (.getfield 34, 3) := by decide +kernel
theorem dX4_appendRow_23 : decode cX4_appendRow 23 = .ok (.iload_n 1, 1) := by decide +kernel
theorem dX4_appendRow_24 : decode cX4_appendRow 24 = .ok (.iastore, 1) := by decide +kernel
theorem dX4_appendRow_25 : decode cX4_appendRow 25 = .ok (.aload_n 0, 1) := by decide +kernel
theorem dX4_appendRow_26 : decode cX4_appendRow 26 = .ok (.getfield 24, 3) := by decide +kernel
theorem dX4_appendRow_29 : decode cX4_appendRow 29 = .ok (.aload_n 0, 1) := by decide +kernel
theorem dX4_appendRow_30 : decode cX4_appendRow 30 = .ok (.getfield 34, 3) := by decide +kernel
theorem dX4_appendRow_33 : decode cX4_appendRow 33 = .ok (.iload_n 2, 1) := by decide +kernel
theorem dX4_appendRow_34 : decode cX4_appendRow 34 = .ok (.iastore, 1) := by decide +kernel
theorem dX4_appendRow_35 : decode cX4_appendRow 35 = .ok (.aload_n 0, 1) := by decide +kernel
theorem dX4_appendRow_36 : decode cX4_appendRow 36 = .ok (.dup, 1) := by decide +kernel
theorem dX4_appendRow_37 : decode cX4_appendRow 37 = .ok (.getfield 34, 3) := by decide +kernel
theorem dX4_appendRow_40 : decode cX4_appendRow 40 = .ok (.iconst 1, 1) := by decide +kernel
theorem dX4_appendRow_41 : decode cX4_appendRow 41 = .ok (.iadd, 1) := by decide +kernel
theorem dX4_appendRow_42 : decode cX4_appendRow 42 = .ok (.putfield 34, 3) := by decide +kernel
theorem dX4_appendRow_45 : decode cX4_appendRow 45 = .ok (.aload_n 0, 1) := by decide +kernel
theorem dX4_appendRow_46 : decode cX4_appendRow 46 = .ok (.dup, 1) := by decide +kernel
theorem dX4_appendRow_47 : decode cX4_appendRow 47 = .ok (.getfield 31, 3) := by decide +kernel
theorem dX4_appendRow_50 : decode cX4_appendRow 50 = .ok (.iconst 1, 1) := by decide +kernel
theorem dX4_appendRow_51 : decode cX4_appendRow 51 = .ok (.iadd, 1) := by decide +kernel
theorem dX4_appendRow_52 : decode cX4_appendRow 52 = .ok (.putfield 31, 3) := by decide +kernel
theorem dX4_appendRow_55 : decode cX4_appendRow 55 = .ok (.iload_n 3, 1) := by decide +kernel
theorem dX4_appendRow_56 : decode cX4_appendRow 56 = .ok (.ireturn, 1) := by decide +kernel
set_option maxRecDepth 20000 in
theorem ggX4_removeAt_X4_copyRow : GoodIn wsX4_removeAt wsX4_copyRow := goodIn_r _ [6, 7, 8, 9, 10, 11, 12, 13, 14, 15, 16, 17] (by decide +kernel) (by decide +kernel)
set_option maxRecDepth 20000 in
theorem gX4_removeAt_X4_copyRow : GoodIn wsX4_removeAt (wsV RX4 55 RX4 yX4_copyRow wsX4_copyRow) := goodIn_app (goodIn_of _ (by decide +kernel)) ggX4_removeAt_X4_copyRow
theorem dX4_removeAt_0 : decode cX4_removeAt 0 = .ok (.iload_n 1, 1) := by decide +kernel
theorem dX4_removeAt_1 : decode cX4_removeAt 1 = .ok (.iconst 1, 1) := by decide +kernel
theorem dX4_removeAt_2 : decode cX4_removeAt 2 = .ok (.iadd, 1) := by decide +kernel
theorem dX4_removeAt_3 : decode cX4_removeAt 3 = .ok (.istore_n 2, 1) := by decide +kernel
theorem dX4_removeAt_4 : decode cX4_removeAt 4 = .ok (.iload_n 2, 1) := by decide +kernel
theorem dX4_removeAt_5 : decode cX4_removeAt 5 = .ok (.aload_n 0, 1) := by decide +kernel
theorem dX4_removeAt_6 : decode cX4_removeAt 6 = .ok (.getfield 34, 3) := by decide +kernel
theorem dX4_removeAt_9 : decode cX4_removeAt 9 = .ok (.if_icmp .ge 17, 3) := by decide +kernel
theorem dX4_removeAt_12 : decode cX4_removeAt 12 = .ok (.aload_n 0, 1) := by decide +kernel
theorem dX4_removeAt_13 : decode cX4_removeAt 13 = .ok (.iload_n 2, 1) := by decide +kernel
theorem dX4_removeAt_14 : decode cX4_removeAt 14 = .ok (.iload_n 2, 1) := by decide +kernel
theorem dX4_removeAt_15 : decode cX4_removeAt 15 = .ok (.iconst 1, 1) := by decide +kernel
theorem dX4_removeAt_16 : decode cX4_removeAt 16 = .ok (.isub, 1) := by decide +kernel
theorem dX4_removeAt_17 : decode cX4_removeAt 17 = .ok (.invokevirtual 55, 3) := by decide +kernel
theorem dX4_removeAt_20 : decode cX4_removeAt 20 = .ok (.iinc 2 1, 3) := by decide +kernel
theorem dX4_removeAt_23 : decode cX4_removeAt 23 = .ok (.goto (-19), 3) := by decide +kernel
theorem dX4_removeAt_26 : decode cX4_removeAt 26 = .ok (.aload_n 0, 1) := by decide +kernel
theorem dX4_removeAt_27 : decode cX4_removeAt 27 = .ok (.dup, 1) := by decide +kernel
theorem dX4_removeAt_28 : decode cX4_removeAt 28 = .ok (.getfield 34, 3) := by decide +kernel
theorem dX4_removeAt_31 : decode cX4_removeAt 31 = .ok (.iconst 1, 1) := by decide +kernel
theorem dX4_removeAt_32 : decode cX4_removeAt 32 = .ok (.isub, 1) := by decide +kernel
theorem dX4_removeAt_33 : decode cX4_removeAt 33 = .ok (.putfield 34, 3) := by decide +kernel
theorem dX4_removeAt_36 : decode cX4_removeAt 36 = .ok (.return_, 1) := by decide +kernel
theorem dX4_copyRow_0 : decode cX4_copyRow 0 = .ok (.aload_n 0, 1) := by decide +kernel
theorem dX4_copyRow_1 : decode cX4_copyRow 1 = .ok (.getfield 18, 3) := by decide +kernel
theorem dX4_copyRow_4 : decode cX4_copyRow 4 = .ok (.iload_n 2, 1) := by decide +kernel
theorem dX4_copyRow_5 : decode cX4_copyRow 5 = .ok (.aload_n 0, 1) := by decide +kernel
theorem dX4_copyRow_6 : decode cX4_copyRow 6 = .ok (.getfield 18, 3) := by decide +kernel
theorem dX4_copyRow_9 : decode cX4_copyRow 9 = .ok (.iload_n 1, 1) := by decide +kernel
theorem dX4_copyRow_10 : decode cX4_copyRow 10 = .ok (.iaload, 1) := by decide +kernel
theorem dX4_copyRow_11 : decode cX4_copyRow 11 = .ok (.iastore, 1) := by decide +kernel
theorem dX4_copyRow_12 : decode cX4_copyRow 12 = .ok (.aload_n 0, 1) := by decide +kernel
theorem dX4_copyRow_13 : decode cX4_copyRow 13 = .ok (.getfield 21, 3) := by decide +kernel
theorem dX4_copyRow_16 : decode cX4_copyRow 16 = .ok (.iload_n 2, 1) := by decide +kernel
theorem dX4_copyRow_17 : decode cX4_copyRow 17 = .ok (.aload_n 0, 1) := by decide +kernel
theorem dX4_copyRow_18 : decode cX4_copyRow 18 = .ok (.getfield 21, 3) := by decide +kernel
theorem dX4_copyRow_21 : decode cX4_copyRow 21 = .ok (.iload_n 1, 1) := by decide +kernel
theorem dX4_copyRow_22 : decode cX4_copyRow 22 = .ok (.iaload, 1) := by decide +kernel
theorem dX4_copyRow_23 : decode cX4_copyRow 23 = .ok (.iastore, 1) := by decide +kernel
theorem dX4_copyRow_24 : decode cX4_copyRow 24 = .ok (.aload_n 0, 1) := by decide +kernel
theorem dX4_copyRow_25 : decode cX4_copyRow 25 = .ok (.getfield 24, 3) := by decide +kernel
theorem dX4_copyRow_28 : decode cX4_copyRow 28 = .ok (.iload_n 2, 1) := by decide +kernel
theorem dX4_copyRow_29 : decode cX4_copyRow 29 = .ok (.aload_n 0, 1) := by decide +kernel
theorem dX4_copyRow_30 : decode cX4_copyRow 30 = .ok (.getfield 24, 3) := by decide +kernel
theorem dX4_copyRow_33 : decode cX4_copyRow 33 = .ok (.iload_n 1, 1) := by decide +kernel
theorem dX4_copyRow_34 : decode cX4_copyRow 34 = .ok (.iaload, 1) := by decide +kernel
theorem dX4_copyRow_35 : decode cX4_copyRow 35 = .ok (.iastore, 1) := by decide +kernel
theorem dX4_copyRow_36 : decode cX4_copyRow 36 = .ok (.return_, 1) := by decide +kernel
set_option maxRecDepth 20000 in
theorem ggX4_liftAt_X4_copyRow : GoodIn wsX4_liftAt wsX4_copyRow := goodIn_r _ [8, 1, 2, 3, 9, 10, 11, 12, 13, 14, 15, 16] (by decide +kernel) (by decide +kernel)
set_option maxRecDepth 20000 in
theorem gX4_liftAt_X4_copyRow : GoodIn wsX4_liftAt (wsV RX4 55 RX4 yX4_copyRow wsX4_copyRow) := goodIn_app (goodIn_of _ (by decide +kernel)) ggX4_liftAt_X4_copyRow
theorem dX4_liftAt_0 : decode cX4_liftAt 0 = .ok (.aload_n 0, 1) := by decide +kernel
theorem dX4_liftAt_1 : decode cX4_liftAt 1 = .ok (.getfield 18, 3) := by decide +kernel
theorem dX4_liftAt_4 : decode cX4_liftAt 4 = .ok (.iload_n 1, 1) := by decide +kernel
theorem dX4_liftAt_5 : decode cX4_liftAt 5 = .ok (.iaload, 1) := by decide +kernel
theorem dX4_liftAt_6 : decode cX4_liftAt 6 = .ok (.istore_n 2, 1) := by decide +kernel
theorem dX4_liftAt_7 : decode cX4_liftAt 7 = .ok (.aload_n 0, 1) := by decide +kernel
theorem dX4_liftAt_8 : decode cX4_liftAt 8 = .ok (.getfield 21, 3) := by decide +kernel
theorem dX4_liftAt_11 : decode cX4_liftAt 11 = .ok (.iload_n 1, 1) := by decide +kernel
theorem dX4_liftAt_12 : decode cX4_liftAt 12 = .ok (.iaload, 1) := by decide +kernel
theorem dX4_liftAt_13 : decode cX4_liftAt 13 = .ok (.istore_n 3, 1) := by decide +kernel
theorem dX4_liftAt_14 : decode cX4_liftAt 14 = .ok (.aload_n 0, 1) := by decide +kernel
theorem dX4_liftAt_15 : decode cX4_liftAt 15 = .ok (.getfield 24, 3) := by decide +kernel
theorem dX4_liftAt_18 : decode cX4_liftAt 18 = .ok (.iload_n 1, 1) := by decide +kernel
theorem dX4_liftAt_19 : decode cX4_liftAt 19 = .ok (.iaload, 1) := by decide +kernel
theorem dX4_liftAt_20 : decode cX4_liftAt 20 = .ok (.istore 4, 2) := by decide +kernel
theorem dX4_liftAt_22 : decode cX4_liftAt 22 = .ok (.aload_n 0, 1) := by decide +kernel
theorem dX4_liftAt_23 : decode cX4_liftAt 23 = .ok (.iload_n 1, 1) := by decide +kernel
theorem dX4_liftAt_24 : decode cX4_liftAt 24 = .ok (.iconst 1, 1) := by decide +kernel
theorem dX4_liftAt_25 : decode cX4_liftAt 25 = .ok (.isub, 1) := by decide +kernel
theorem dX4_liftAt_26 : decode cX4_liftAt 26 = .ok (.iload_n 1, 1) := by decide +kernel
theorem dX4_liftAt_27 : decode cX4_liftAt 27 = .ok (.invokevirtual 55, 3) := by decide +kernel
theorem dX4_liftAt_30 : decode cX4_liftAt 30 = .ok (.aload_n 0, 1) := by decide +kernel
theorem dX4_liftAt_31 : decode cX4_liftAt 31 = .ok (.getfield 18, 3) := by decide +kernel
theorem dX4_liftAt_34 : decode cX4_liftAt 34 = .ok (.iload_n 1, 1) := by decide +kernel
theorem dX4_liftAt_35 : decode cX4_liftAt 35 = .ok (.iconst 1, 1) := by decide +kernel
theorem dX4_liftAt_36 : decode cX4_liftAt 36 = .ok (.isub, 1) := by decide +kernel
theorem dX4_liftAt_37 : decode cX4_liftAt 37 = .ok (.iload_n 2, 1) := by decide +kernel
theorem dX4_liftAt_38 : decode cX4_liftAt 38 = .ok (.iastore, 1) := by decide +kernel
theorem dX4_liftAt_39 : decode cX4_liftAt 39 = .ok (.aload_n 0, 1) := by decide +kernel
theorem dX4_liftAt_40 : decode cX4_liftAt 40 = .ok (.getfield 21, 3) := by decide +kernel
theorem dX4_liftAt_43 : decode cX4_liftAt 43 = .ok (.iload_n 1, 1) := by decide +kernel
theorem dX4_liftAt_44 : decode cX4_liftAt 44 = .ok (.iconst 1, 1) := by decide +kernel
theorem dX4_liftAt_45 : decode cX4_liftAt 45 = .ok (.isub, 1) := by decide +kernel
theorem dX4_liftAt_46 : decode cX4_liftAt 46 = .ok (.iload_n 3, 1) := by decide +kernel
theorem dX4_liftAt_47 : decode cX4_liftAt 47 = .ok (.iastore, 1) := by decide +kernel
theorem dX4_liftAt_48 : decode cX4_liftAt 48 = .ok (.aload_n 0, 1) := by decide +kernel
theorem dX4_liftAt_49 : decode cX4_liftAt 49 = .ok (.getfield 24, 3) := by decide +kernel
theorem dX4_liftAt_52 : decode cX4_liftAt 52 = .ok (.iload_n 1, 1) := by decide +kernel
theorem dX4_liftAt_53 : decode cX4_liftAt 53 = .ok (.iconst 1, 1) := by decide +kernel
theorem dX4_liftAt_54 : decode cX4_liftAt 54 = .ok (.isub, 1) := by decide +kernel
theorem dX4_liftAt_55 : decode cX4_liftAt 55 = .ok (.iload 4, 2) := by decide +kernel
theorem dX4_liftAt_57 : decode cX4_liftAt 57 = .ok (.iastore, 1) := by decide +kernel
theorem dX4_liftAt_58 : decode cX4_liftAt 58 = .ok (.return_, 1) := by decide +kernel
set_option maxRecDepth 20000 in
theorem ggX4_casesToldAt_X4_setAt : GoodIn wsX4_casesToldAt wsX4_setAt := goodIn_r _ [6, 7, 15, 16, 17, 18, 19, 20, 21, 22] (by decide +kernel) (by decide +kernel)
set_option maxRecDepth 20000 in
theorem gX4_casesToldAt_X4_setAt : GoodIn wsX4_casesToldAt (wsV RX4 51 RX4 yX4_setAt wsX4_setAt) := goodIn_app (goodIn_of _ (by decide +kernel)) ggX4_casesToldAt_X4_setAt
set_option maxRecDepth 20000 in
theorem ggX4_casesToldAt_J6_bitCount_0f7a4 : GoodIn wsX4_casesToldAt wsJ6_bitCount_0f7a4 := goodIn_r _ [11, 12, 13, 14] (by decide +kernel) (by decide +kernel)
set_option maxRecDepth 20000 in
theorem gX4_casesToldAt_J6_bitCount_0f7a4 : GoodIn wsX4_casesToldAt (va_wsS RX4 73 yJ6_bitCount_0f7a4 wsJ6_bitCount_0f7a4) := goodIn_app (goodIn_of _ (by decide +kernel)) ggX4_casesToldAt_J6_bitCount_0f7a4
theorem dX4_casesToldAt_0 : decode cX4_casesToldAt 0 = .ok (.iconst 1, 1) := by decide +kernel
theorem dX4_casesToldAt_1 : decode cX4_casesToldAt 1 = .ok (.istore_n 2, 1) := by decide +kernel
theorem dX4_casesToldAt_2 : decode cX4_casesToldAt 2 = .ok (.iconst 0, 1) := by decide +kernel
theorem dX4_casesToldAt_3 : decode cX4_casesToldAt 3 = .ok (.istore_n 3, 1) := by decide +kernel
theorem dX4_casesToldAt_4 : decode cX4_casesToldAt 4 = .ok (.iload_n 3, 1) := by decide +kernel
theorem dX4_casesToldAt_5 : decode cX4_casesToldAt 5 = .ok (.aload_n 0, 1) := by decide +kernel
theorem dX4_casesToldAt_6 : decode cX4_casesToldAt 6 = .ok (.getfield 27, 3) := by decide +kernel
theorem dX4_casesToldAt_9 : decode cX4_casesToldAt 9 = .ok (.if_icmp .ge 21, 3) := by decide +kernel
theorem dX4_casesToldAt_12 : decode cX4_casesToldAt 12 = .ok (.iload_n 2, 1) := by decide +kernel
theorem dX4_casesToldAt_13 : decode cX4_casesToldAt 13 = .ok (.aload_n 0, 1) := by decide +kernel
theorem dX4_casesToldAt_14 : decode cX4_casesToldAt 14 = .ok (.iload_n 1, 1) := by decide +kernel
theorem dX4_casesToldAt_15 : decode cX4_casesToldAt 15 = .ok (.iload_n 3, 1) := by decide +kernel
theorem dX4_casesToldAt_16 : decode cX4_casesToldAt 16 = .ok (.invokevirtual 51, 3) := by decide +kernel
theorem dX4_casesToldAt_19 : decode cX4_casesToldAt 19 = .ok (.invokestatic 73, 3) := by decide +kernel
theorem dX4_casesToldAt_22 : decode cX4_casesToldAt 22 = .ok (.imul, 1) := by decide +kernel
theorem dX4_casesToldAt_23 : decode cX4_casesToldAt 23 = .ok (.istore_n 2, 1) := by decide +kernel
theorem dX4_casesToldAt_24 : decode cX4_casesToldAt 24 = .ok (.iinc 3 1, 3) := by decide +kernel
theorem dX4_casesToldAt_27 : decode cX4_casesToldAt 27 = .ok (.goto (-23), 3) := by decide +kernel
theorem dX4_casesToldAt_30 : decode cX4_casesToldAt 30 = .ok (.iload_n 2, 1) := by decide +kernel
theorem dX4_casesToldAt_31 : decode cX4_casesToldAt 31 = .ok (.ireturn, 1) := by decide +kernel
