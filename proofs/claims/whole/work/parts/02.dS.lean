theorem dS_init_0 : decode prog_1_method_1_code 0 = .ok (.aload_n 0, 1) := by decide +kernel
theorem dS_init_1 : decode prog_1_method_1_code 1 = .ok (.invokespecial 3, 3) := by decide +kernel
theorem dS_init_4 : decode prog_1_method_1_code 4 = .ok (.aload_n 0, 1) := by decide +kernel
theorem dS_init_5 : decode prog_1_method_1_code 5 = .ok (.bipush 7, 2) := by decide +kernel
theorem dS_init_7 : decode prog_1_method_1_code 7 = .ok (.newarray .int, 2) := by decide +kernel
theorem dS_init_9 : decode prog_1_method_1_code 9 = .ok (.dup, 1) := by decide +kernel
theorem dS_init_10 : decode prog_1_method_1_code 10 = .ok (.iconst 0, 1) := by decide +kernel
theorem dS_init_11 : decode prog_1_method_1_code 11 = .ok (.iconst 0, 1) := by decide +kernel
theorem dS_init_12 : decode prog_1_method_1_code 12 = .ok (.iastore, 1) := by decide +kernel
theorem dS_init_13 : decode prog_1_method_1_code 13 = .ok (.dup, 1) := by decide +kernel
theorem dS_init_14 : decode prog_1_method_1_code 14 = .ok (.iconst 1, 1) := by decide +kernel
theorem dS_init_15 : decode prog_1_method_1_code 15 = .ok (.iconst 0, 1) := by decide +kernel
theorem dS_init_16 : decode prog_1_method_1_code 16 = .ok (.iastore, 1) := by decide +kernel
theorem dS_init_17 : decode prog_1_method_1_code 17 = .ok (.dup, 1) := by decide +kernel
theorem dS_init_18 : decode prog_1_method_1_code 18 = .ok (.iconst 2, 1) := by decide +kernel
theorem dS_init_19 : decode prog_1_method_1_code 19 = .ok (.bipush 8, 2) := by decide +kernel
theorem dS_init_21 : decode prog_1_method_1_code 21 = .ok (.iastore, 1) := by decide +kernel
theorem dS_init_22 : decode prog_1_method_1_code 22 = .ok (.dup, 1) := by decide +kernel
theorem dS_init_23 : decode prog_1_method_1_code 23 = .ok (.iconst 3, 1) := by decide +kernel
theorem dS_init_24 : decode prog_1_method_1_code 24 = .ok (.iconst 4, 1) := by decide +kernel
theorem dS_init_25 : decode prog_1_method_1_code 25 = .ok (.iastore, 1) := by decide +kernel
theorem dS_init_26 : decode prog_1_method_1_code 26 = .ok (.dup, 1) := by decide +kernel
theorem dS_init_27 : decode prog_1_method_1_code 27 = .ok (.iconst 4, 1) := by decide +kernel
theorem dS_init_28 : decode prog_1_method_1_code 28 = .ok (.ldc 9, 2) := by decide +kernel
theorem dS_init_30 : decode prog_1_method_1_code 30 = .ok (.iastore, 1) := by decide +kernel
theorem dS_init_31 : decode prog_1_method_1_code 31 = .ok (.dup, 1) := by decide +kernel
theorem dS_init_32 : decode prog_1_method_1_code 32 = .ok (.iconst 5, 1) := by decide +kernel
theorem dS_init_33 : decode prog_1_method_1_code 33 = .ok (.sipush 255, 3) := by decide +kernel
theorem dS_init_36 : decode prog_1_method_1_code 36 = .ok (.iastore, 1) := by decide +kernel
theorem dS_init_37 : decode prog_1_method_1_code 37 = .ok (.dup, 1) := by decide +kernel
theorem dS_init_38 : decode prog_1_method_1_code 38 = .ok (.bipush 6, 2) := by decide +kernel
theorem dS_init_40 : decode prog_1_method_1_code 40 = .ok (.iconst 4, 1) := by decide +kernel
theorem dS_init_41 : decode prog_1_method_1_code 41 = .ok (.iastore, 1) := by decide +kernel
theorem dS_init_42 : decode prog_1_method_1_code 42 = .ok (.putfield 10, 3) := by decide +kernel
theorem dS_init_45 : decode prog_1_method_1_code 45 = .ok (.aload_n 0, 1) := by decide +kernel
theorem dS_init_46 : decode prog_1_method_1_code 46 = .ok (.new 14, 3) := by decide +kernel
theorem dS_init_49 : decode prog_1_method_1_code 49 = .ok (.dup, 1) := by decide +kernel
theorem dS_init_50 : decode prog_1_method_1_code 50 = .ok (.invokespecial 16, 3) := by decide +kernel
theorem dS_init_53 : decode prog_1_method_1_code 53 = .ok (.putfield 17, 3) := by decide +kernel
theorem dS_init_56 : decode prog_1_method_1_code 56 = .ok (.aload_n 0, 1) := by decide +kernel
theorem dS_init_57 : decode prog_1_method_1_code 57 = .ok (.new 14, 3) := by decide +kernel
theorem dS_init_60 : decode prog_1_method_1_code 60 = .ok (.dup, 1) := by decide +kernel
theorem dS_init_61 : decode prog_1_method_1_code 61 = .ok (.invokespecial 16, 3) := by decide +kernel
theorem dS_init_64 : decode prog_1_method_1_code 64 = .ok (.putfield 21, 3) := by decide +kernel
theorem dS_init_67 : decode prog_1_method_1_code 67 = .ok (.aload_n 0, 1) := by decide +kernel
theorem dS_init_68 : decode prog_1_method_1_code 68 = .ok (.new 14, 3) := by decide +kernel
theorem dS_init_71 : decode prog_1_method_1_code 71 = .ok (.dup, 1) := by decide +kernel
theorem dS_init_72 : decode prog_1_method_1_code 72 = .ok (.invokespecial 16, 3) := by decide +kernel
theorem dS_init_75 : decode prog_1_method_1_code 75 = .ok (.putfield 24, 3) := by decide +kernel
theorem dS_init_78 : decode prog_1_method_1_code 78 = .ok (.aload_n 0, 1) := by decide +kernel
theorem dS_init_79 : decode prog_1_method_1_code 79 = .ok (.new 14, 3) := by decide +kernel
theorem dS_init_82 : decode prog_1_method_1_code 82 = .ok (.dup, 1) := by decide +kernel
theorem dS_init_83 : decode prog_1_method_1_code 83 = .ok (.invokespecial 16, 3) := by decide +kernel
theorem dS_init_86 : decode prog_1_method_1_code 86 = .ok (.putfield 27, 3) := by decide +kernel
theorem dS_init_89 : decode prog_1_method_1_code 89 = .ok (.aload_n 0, 1) := by decide +kernel
theorem dS_init_90 : decode prog_1_method_1_code 90 = .ok (.new 30, 3) := by decide +kernel
theorem dS_init_93 : decode prog_1_method_1_code 93 = .ok (.dup, 1) := by decide +kernel
theorem dS_init_94 : decode prog_1_method_1_code 94 = .ok (.invokespecial 32, 3) := by decide +kernel
theorem dS_init_97 : decode prog_1_method_1_code 97 = .ok (.putfield 33, 3) := by decide +kernel
theorem dS_init_100 : decode prog_1_method_1_code 100 = .ok (.aload_n 0, 1) := by decide +kernel
theorem dS_init_101 : decode prog_1_method_1_code 101 = .ok (.iconst (-1), 1) := by decide +kernel
theorem dS_init_102 : decode prog_1_method_1_code 102 = .ok (.putfield 37, 3) := by decide +kernel
theorem dS_init_105 : decode prog_1_method_1_code 105 = .ok (.aload_n 0, 1) := by decide +kernel
theorem dS_init_106 : decode prog_1_method_1_code 106 = .ok (.iconst 0, 1) := by decide +kernel
theorem dS_init_107 : decode prog_1_method_1_code 107 = .ok (.putfield 41, 3) := by decide +kernel
theorem dS_init_110 : decode prog_1_method_1_code 110 = .ok (.aload_n 0, 1) := by decide +kernel
theorem dS_init_111 : decode prog_1_method_1_code 111 = .ok (.iconst 0, 1) := by decide +kernel
theorem dS_init_112 : decode prog_1_method_1_code 112 = .ok (.putfield 44, 3) := by decide +kernel
theorem dS_init_115 : decode prog_1_method_1_code 115 = .ok (.return_, 1) := by decide +kernel
theorem dR_init_0 : decode prog_3_method_1_code 0 = .ok (.aload_n 0, 1) := by decide +kernel
theorem dR_init_1 : decode prog_3_method_1_code 1 = .ok (.invokespecial 3, 3) := by decide +kernel
theorem dR_init_4 : decode prog_3_method_1_code 4 = .ok (.aload_n 0, 1) := by decide +kernel
theorem dR_init_5 : decode prog_3_method_1_code 5 = .ok (.bipush 16, 2) := by decide +kernel
theorem dR_init_7 : decode prog_3_method_1_code 7 = .ok (.newarray .int, 2) := by decide +kernel
theorem dR_init_9 : decode prog_3_method_1_code 9 = .ok (.putfield 9, 3) := by decide +kernel
theorem dR_init_12 : decode prog_3_method_1_code 12 = .ok (.aload_n 0, 1) := by decide +kernel
theorem dR_init_13 : decode prog_3_method_1_code 13 = .ok (.bipush 16, 2) := by decide +kernel
theorem dR_init_15 : decode prog_3_method_1_code 15 = .ok (.newarray .int, 2) := by decide +kernel
theorem dR_init_17 : decode prog_3_method_1_code 17 = .ok (.putfield 15, 3) := by decide +kernel
theorem dR_init_20 : decode prog_3_method_1_code 20 = .ok (.aload_n 0, 1) := by decide +kernel
theorem dR_init_21 : decode prog_3_method_1_code 21 = .ok (.bipush 16, 2) := by decide +kernel
theorem dR_init_23 : decode prog_3_method_1_code 23 = .ok (.newarray .int, 2) := by decide +kernel
theorem dR_init_25 : decode prog_3_method_1_code 25 = .ok (.putfield 18, 3) := by decide +kernel
theorem dR_init_28 : decode prog_3_method_1_code 28 = .ok (.aload_n 0, 1) := by decide +kernel
theorem dR_init_29 : decode prog_3_method_1_code 29 = .ok (.bipush 16, 2) := by decide +kernel
theorem dR_init_31 : decode prog_3_method_1_code 31 = .ok (.newarray .int, 2) := by decide +kernel
theorem dR_init_33 : decode prog_3_method_1_code 33 = .ok (.putfield 21, 3) := by decide +kernel
theorem dR_init_36 : decode prog_3_method_1_code 36 = .ok (.aload_n 0, 1) := by decide +kernel
theorem dR_init_37 : decode prog_3_method_1_code 37 = .ok (.iconst 0, 1) := by decide +kernel
theorem dR_init_38 : decode prog_3_method_1_code 38 = .ok (.putfield 24, 3) := by decide +kernel
theorem dR_init_41 : decode prog_3_method_1_code 41 = .ok (.return_, 1) := by decide +kernel
theorem dS_click_0 : decode prog_1_method_18_code 0 = .ok (.aload_n 0, 1) := by decide +kernel
theorem dS_click_1 : decode prog_1_method_18_code 1 = .ok (.getfield 41, 3) := by decide +kernel
theorem dS_click_4 : decode prog_1_method_18_code 4 = .ok (.aload_n 0, 1) := by decide +kernel
theorem dS_click_5 : decode prog_1_method_18_code 5 = .ok (.invokevirtual 252, 3) := by decide +kernel
theorem dS_click_8 : decode prog_1_method_18_code 8 = .ok (.invokestatic 260, 3) := by decide +kernel
theorem dS_click_11 : decode prog_1_method_18_code 11 = .ok (.if_icmp .ge 20, 3) := by decide +kernel
theorem dS_click_14 : decode prog_1_method_18_code 14 = .ok (.aload_n 0, 1) := by decide +kernel
theorem dS_click_15 : decode prog_1_method_18_code 15 = .ok (.aload_n 0, 1) := by decide +kernel
theorem dS_click_16 : decode prog_1_method_18_code 16 = .ok (.getfield 37, 3) := by decide +kernel
theorem dS_click_19 : decode prog_1_method_18_code 19 = .ok (.aload_n 0, 1) := by decide +kernel
theorem dS_click_20 : decode prog_1_method_18_code 20 = .ok (.getfield 41, 3) := by decide +kernel
theorem dS_click_23 : decode prog_1_method_18_code 23 = .ok (.iconst 1, 1) := by decide +kernel
theorem dS_click_24 : decode prog_1_method_18_code 24 = .ok (.iadd, 1) := by decide +kernel
theorem dS_click_25 : decode prog_1_method_18_code 25 = .ok (.iconst 0, 1) := by decide +kernel
theorem dS_click_26 : decode prog_1_method_18_code 26 = .ok (.invokevirtual 264, 3) := by decide +kernel
theorem dS_click_29 : decode prog_1_method_18_code 29 = .ok (.iconst 1, 1) := by decide +kernel
theorem dS_click_30 : decode prog_1_method_18_code 30 = .ok (.ireturn, 1) := by decide +kernel
theorem dS_click_31 : decode prog_1_method_18_code 31 = .ok (.aload_n 0, 1) := by decide +kernel
theorem dS_click_32 : decode prog_1_method_18_code 32 = .ok (.aload_n 0, 1) := by decide +kernel
theorem dS_click_33 : decode prog_1_method_18_code 33 = .ok (.getfield 37, 3) := by decide +kernel
theorem dS_click_36 : decode prog_1_method_18_code 36 = .ok (.iconst 1, 1) := by decide +kernel
theorem dS_click_37 : decode prog_1_method_18_code 37 = .ok (.iadd, 1) := by decide +kernel
theorem dS_click_38 : decode prog_1_method_18_code 38 = .ok (.invokevirtual 268, 3) := by decide +kernel
theorem dS_click_41 : decode prog_1_method_18_code 41 = .ok (.ifnonnull 5, 3) := by decide +kernel
theorem dS_click_44 : decode prog_1_method_18_code 44 = .ok (.iconst 0, 1) := by decide +kernel
theorem dS_click_45 : decode prog_1_method_18_code 45 = .ok (.ireturn, 1) := by decide +kernel
theorem dS_click_46 : decode prog_1_method_18_code 46 = .ok (.aload_n 0, 1) := by decide +kernel
theorem dS_click_47 : decode prog_1_method_18_code 47 = .ok (.aload_n 0, 1) := by decide +kernel
theorem dS_click_48 : decode prog_1_method_18_code 48 = .ok (.getfield 37, 3) := by decide +kernel
theorem dS_click_51 : decode prog_1_method_18_code 51 = .ok (.iconst 1, 1) := by decide +kernel
theorem dS_click_52 : decode prog_1_method_18_code 52 = .ok (.iadd, 1) := by decide +kernel
theorem dS_click_53 : decode prog_1_method_18_code 53 = .ok (.iconst 0, 1) := by decide +kernel
theorem dS_click_54 : decode prog_1_method_18_code 54 = .ok (.iconst 0, 1) := by decide +kernel
theorem dS_click_55 : decode prog_1_method_18_code 55 = .ok (.invokevirtual 264, 3) := by decide +kernel
theorem dS_click_58 : decode prog_1_method_18_code 58 = .ok (.iconst 1, 1) := by decide +kernel
theorem dS_click_59 : decode prog_1_method_18_code 59 = .ok (.ireturn, 1) := by decide +kernel
theorem dS_slideShown_0 : decode prog_1_method_46_code 0 = .ok (.aload_n 0, 1) := by decide +kernel
theorem dS_slideShown_1 : decode prog_1_method_46_code 1 = .ok (.aload_n 0, 1) := by decide +kernel
theorem dS_slideShown_2 : decode prog_1_method_46_code 2 = .ok (.getfield 37, 3) := by decide +kernel
theorem dS_slideShown_5 : decode prog_1_method_46_code 5 = .ok (.invokevirtual 268, 3) := by decide +kernel
theorem dS_slideShown_8 : decode prog_1_method_46_code 8 = .ok (.areturn, 1) := by decide +kernel
theorem dS_findSlide_0 : decode prog_1_method_45_code 0 = .ok (.iload_n 1, 1) := by decide +kernel
theorem dS_findSlide_1 : decode prog_1_method_45_code 1 = .ok (.ifCond .lt 32, 3) := by decide +kernel
theorem dS_findSlide_4 : decode prog_1_method_45_code 4 = .ok (.iload_n 1, 1) := by decide +kernel
theorem dS_findSlide_5 : decode prog_1_method_45_code 5 = .ok (.aload_n 0, 1) := by decide +kernel
theorem dS_findSlide_6 : decode prog_1_method_45_code 6 = .ok (.getfield 21, 3) := by decide +kernel
theorem dS_findSlide_9 : decode prog_1_method_45_code 9 = .ok (.invokeinterface 71 1, 5) := by decide +kernel
theorem dS_findSlide_14 : decode prog_1_method_45_code 14 = .ok (.if_icmp .ge 19, 3) := by decide +kernel
theorem dS_findSlide_17 : decode prog_1_method_45_code 17 = .ok (.aload_n 0, 1) := by decide +kernel
theorem dS_findSlide_18 : decode prog_1_method_45_code 18 = .ok (.getfield 21, 3) := by decide +kernel
theorem dS_findSlide_21 : decode prog_1_method_45_code 21 = .ok (.iload_n 1, 1) := by decide +kernel
theorem dS_findSlide_22 : decode prog_1_method_45_code 22 = .ok (.invokeinterface 195 2, 5) := by decide +kernel
theorem dS_findSlide_27 : decode prog_1_method_45_code 27 = .ok (.checkcast 82, 3) := by decide +kernel
theorem dS_findSlide_30 : decode prog_1_method_45_code 30 = .ok (.goto 4, 3) := by decide +kernel
theorem dS_findSlide_33 : decode prog_1_method_45_code 33 = .ok (.aconst_null, 1) := by decide +kernel
theorem dS_findSlide_34 : decode prog_1_method_45_code 34 = .ok (.areturn, 1) := by decide +kernel
theorem dS_lastBuild_0 : decode prog_1_method_41_code 0 = .ok (.aload_n 0, 1) := by decide +kernel
theorem dS_lastBuild_1 : decode prog_1_method_41_code 1 = .ok (.invokestatic 213, 3) := by decide +kernel
theorem dS_lastBuild_4 : decode prog_1_method_41_code 4 = .ok (.astore_n 1, 1) := by decide +kernel
theorem dS_lastBuild_5 : decode prog_1_method_41_code 5 = .ok (.aload_n 1, 1) := by decide +kernel
theorem dS_lastBuild_6 : decode prog_1_method_41_code 6 = .ok (.ifnonnull 7, 3) := by decide +kernel
theorem dS_lastBuild_9 : decode prog_1_method_41_code 9 = .ok (.iconst 0, 1) := by decide +kernel
theorem dS_lastBuild_10 : decode prog_1_method_41_code 10 = .ok (.goto 7, 3) := by decide +kernel
theorem dS_lastBuild_13 : decode prog_1_method_41_code 13 = .ok (.aload_n 1, 1) := by decide +kernel
theorem dS_lastBuild_14 : decode prog_1_method_41_code 14 = .ok (.getfield 246, 3) := by decide +kernel
theorem dS_lastBuild_17 : decode prog_1_method_41_code 17 = .ok (.ireturn, 1) := by decide +kernel
theorem dS_lastEffect_0 : decode prog_1_method_40_code 0 = .ok (.aload_n 0, 1) := by decide +kernel
theorem dS_lastEffect_1 : decode prog_1_method_40_code 1 = .ok (.ifnull 15, 3) := by decide +kernel
theorem dS_lastEffect_4 : decode prog_1_method_40_code 4 = .ok (.aload_n 0, 1) := by decide +kernel
theorem dS_lastEffect_5 : decode prog_1_method_40_code 5 = .ok (.getfield 229, 3) := by decide +kernel
theorem dS_lastEffect_8 : decode prog_1_method_40_code 8 = .ok (.invokeinterface 322 1, 5) := by decide +kernel
theorem dS_lastEffect_13 : decode prog_1_method_40_code 13 = .ok (.ifCond .eq 5, 3) := by decide +kernel
theorem dS_lastEffect_16 : decode prog_1_method_40_code 16 = .ok (.aconst_null, 1) := by decide +kernel
theorem dS_lastEffect_17 : decode prog_1_method_40_code 17 = .ok (.areturn, 1) := by decide +kernel
theorem dS_lastEffect_18 : decode prog_1_method_40_code 18 = .ok (.aload_n 0, 1) := by decide +kernel
theorem dS_lastEffect_19 : decode prog_1_method_40_code 19 = .ok (.getfield 229, 3) := by decide +kernel
theorem dS_lastEffect_22 : decode prog_1_method_40_code 22 = .ok (.aload_n 0, 1) := by decide +kernel
theorem dS_lastEffect_23 : decode prog_1_method_40_code 23 = .ok (.getfield 229, 3) := by decide +kernel
theorem dS_lastEffect_26 : decode prog_1_method_40_code 26 = .ok (.invokeinterface 71 1, 5) := by decide +kernel
theorem dS_lastEffect_31 : decode prog_1_method_40_code 31 = .ok (.iconst 1, 1) := by decide +kernel
theorem dS_lastEffect_32 : decode prog_1_method_40_code 32 = .ok (.isub, 1) := by decide +kernel
theorem dS_lastEffect_33 : decode prog_1_method_40_code 33 = .ok (.invokeinterface 195 2, 5) := by decide +kernel
theorem dS_lastEffect_38 : decode prog_1_method_40_code 38 = .ok (.checkcast 224, 3) := by decide +kernel
theorem dS_lastEffect_41 : decode prog_1_method_40_code 41 = .ok (.areturn, 1) := by decide +kernel
theorem dS_show_0 : decode prog_1_method_47_code 0 = .ok (.aload_n 0, 1) := by decide +kernel
theorem dS_show_1 : decode prog_1_method_47_code 1 = .ok (.iload_n 1, 1) := by decide +kernel
theorem dS_show_2 : decode prog_1_method_47_code 2 = .ok (.putfield 37, 3) := by decide +kernel
theorem dS_show_5 : decode prog_1_method_47_code 5 = .ok (.aload_n 0, 1) := by decide +kernel
theorem dS_show_6 : decode prog_1_method_47_code 6 = .ok (.iload_n 2, 1) := by decide +kernel
theorem dS_show_7 : decode prog_1_method_47_code 7 = .ok (.putfield 41, 3) := by decide +kernel
theorem dS_show_10 : decode prog_1_method_47_code 10 = .ok (.aload_n 0, 1) := by decide +kernel
theorem dS_show_11 : decode prog_1_method_47_code 11 = .ok (.iload_n 3, 1) := by decide +kernel
theorem dS_show_12 : decode prog_1_method_47_code 12 = .ok (.putfield 44, 3) := by decide +kernel
theorem dS_show_15 : decode prog_1_method_47_code 15 = .ok (.return_, 1) := by decide +kernel
theorem dS_back_0 : decode prog_1_method_19_code 0 = .ok (.aload_n 0, 1) := by decide +kernel
theorem dS_back_1 : decode prog_1_method_19_code 1 = .ok (.getfield 41, 3) := by decide +kernel
theorem dS_back_4 : decode prog_1_method_19_code 4 = .ok (.ifCond .le 19, 3) := by decide +kernel
theorem dS_back_7 : decode prog_1_method_19_code 7 = .ok (.aload_n 0, 1) := by decide +kernel
theorem dS_back_8 : decode prog_1_method_19_code 8 = .ok (.aload_n 0, 1) := by decide +kernel
theorem dS_back_9 : decode prog_1_method_19_code 9 = .ok (.getfield 37, 3) := by decide +kernel
theorem dS_back_12 : decode prog_1_method_19_code 12 = .ok (.aload_n 0, 1) := by decide +kernel
theorem dS_back_13 : decode prog_1_method_19_code 13 = .ok (.getfield 41, 3) := by decide +kernel
theorem dS_back_16 : decode prog_1_method_19_code 16 = .ok (.iconst 1, 1) := by decide +kernel
theorem dS_back_17 : decode prog_1_method_19_code 17 = .ok (.isub, 1) := by decide +kernel
theorem dS_back_18 : decode prog_1_method_19_code 18 = .ok (.invokevirtual 271, 3) := by decide +kernel
theorem dS_back_21 : decode prog_1_method_19_code 21 = .ok (.iconst 1, 1) := by decide +kernel
theorem dS_back_22 : decode prog_1_method_19_code 22 = .ok (.ireturn, 1) := by decide +kernel
theorem dS_back_23 : decode prog_1_method_19_code 23 = .ok (.aload_n 0, 1) := by decide +kernel
theorem dS_back_24 : decode prog_1_method_19_code 24 = .ok (.aload_n 0, 1) := by decide +kernel
theorem dS_back_25 : decode prog_1_method_19_code 25 = .ok (.getfield 37, 3) := by decide +kernel
theorem dS_back_28 : decode prog_1_method_19_code 28 = .ok (.iconst 1, 1) := by decide +kernel
theorem dS_back_29 : decode prog_1_method_19_code 29 = .ok (.isub, 1) := by decide +kernel
theorem dS_back_30 : decode prog_1_method_19_code 30 = .ok (.invokevirtual 268, 3) := by decide +kernel
theorem dS_back_33 : decode prog_1_method_19_code 33 = .ok (.astore_n 1, 1) := by decide +kernel
theorem dS_back_34 : decode prog_1_method_19_code 34 = .ok (.aload_n 1, 1) := by decide +kernel
theorem dS_back_35 : decode prog_1_method_19_code 35 = .ok (.ifnonnull 5, 3) := by decide +kernel
theorem dS_back_38 : decode prog_1_method_19_code 38 = .ok (.iconst 0, 1) := by decide +kernel
theorem dS_back_39 : decode prog_1_method_19_code 39 = .ok (.ireturn, 1) := by decide +kernel
theorem dS_back_40 : decode prog_1_method_19_code 40 = .ok (.aload_n 0, 1) := by decide +kernel
theorem dS_back_41 : decode prog_1_method_19_code 41 = .ok (.aload_n 0, 1) := by decide +kernel
theorem dS_back_42 : decode prog_1_method_19_code 42 = .ok (.getfield 37, 3) := by decide +kernel
theorem dS_back_45 : decode prog_1_method_19_code 45 = .ok (.iconst 1, 1) := by decide +kernel
theorem dS_back_46 : decode prog_1_method_19_code 46 = .ok (.isub, 1) := by decide +kernel
theorem dS_back_47 : decode prog_1_method_19_code 47 = .ok (.aload_n 1, 1) := by decide +kernel
theorem dS_back_48 : decode prog_1_method_19_code 48 = .ok (.invokestatic 260, 3) := by decide +kernel
theorem dS_back_51 : decode prog_1_method_19_code 51 = .ok (.invokevirtual 271, 3) := by decide +kernel
theorem dS_back_54 : decode prog_1_method_19_code 54 = .ok (.iconst 1, 1) := by decide +kernel
theorem dS_back_55 : decode prog_1_method_19_code 55 = .ok (.ireturn, 1) := by decide +kernel
theorem dS_showEnd_0 : decode prog_1_method_48_code 0 = .ok (.aload_n 0, 1) := by decide +kernel
theorem dS_showEnd_1 : decode prog_1_method_48_code 1 = .ok (.iload_n 1, 1) := by decide +kernel
theorem dS_showEnd_2 : decode prog_1_method_48_code 2 = .ok (.iload_n 2, 1) := by decide +kernel
theorem dS_showEnd_3 : decode prog_1_method_48_code 3 = .ok (.aload_n 0, 1) := by decide +kernel
theorem dS_showEnd_4 : decode prog_1_method_48_code 4 = .ok (.iload_n 1, 1) := by decide +kernel
theorem dS_showEnd_5 : decode prog_1_method_48_code 5 = .ok (.invokevirtual 268, 3) := by decide +kernel
theorem dS_showEnd_8 : decode prog_1_method_48_code 8 = .ok (.iload_n 2, 1) := by decide +kernel
theorem dS_showEnd_9 : decode prog_1_method_48_code 9 = .ok (.invokestatic 285, 3) := by decide +kernel
theorem dS_showEnd_12 : decode prog_1_method_48_code 12 = .ok (.invokevirtual 264, 3) := by decide +kernel
theorem dS_showEnd_15 : decode prog_1_method_48_code 15 = .ok (.return_, 1) := by decide +kernel
theorem dS_lengthOfBuild_0 : decode prog_1_method_44_code 0 = .ok (.aload_n 0, 1) := by decide +kernel
theorem dS_lengthOfBuild_1 : decode prog_1_method_44_code 1 = .ok (.ifnonnull 5, 3) := by decide +kernel
theorem dS_lengthOfBuild_4 : decode prog_1_method_44_code 4 = .ok (.iconst 0, 1) := by decide +kernel
theorem dS_lengthOfBuild_5 : decode prog_1_method_44_code 5 = .ok (.ireturn, 1) := by decide +kernel
theorem dS_lengthOfBuild_6 : decode prog_1_method_44_code 6 = .ok (.iconst 0, 1) := by decide +kernel
theorem dS_lengthOfBuild_7 : decode prog_1_method_44_code 7 = .ok (.istore_n 2, 1) := by decide +kernel
theorem dS_lengthOfBuild_8 : decode prog_1_method_44_code 8 = .ok (.iconst 0, 1) := by decide +kernel
theorem dS_lengthOfBuild_9 : decode prog_1_method_44_code 9 = .ok (.istore_n 3, 1) := by decide +kernel
theorem dS_lengthOfBuild_10 : decode prog_1_method_44_code 10 = .ok (.iload_n 3, 1) := by decide +kernel
theorem dS_lengthOfBuild_11 : decode prog_1_method_44_code 11 = .ok (.aload_n 0, 1) := by decide +kernel
theorem dS_lengthOfBuild_12 : decode prog_1_method_44_code 12 = .ok (.getfield 229, 3) := by decide +kernel
theorem dS_lengthOfBuild_15 : decode prog_1_method_44_code 15 = .ok (.invokeinterface 71 1, 5) := by decide +kernel
theorem dS_lengthOfBuild_20 : decode prog_1_method_44_code 20 = .ok (.if_icmp .ge 43, 3) := by decide +kernel
theorem dS_lengthOfBuild_23 : decode prog_1_method_44_code 23 = .ok (.aload_n 0, 1) := by decide +kernel
theorem dS_lengthOfBuild_24 : decode prog_1_method_44_code 24 = .ok (.getfield 229, 3) := by decide +kernel
theorem dS_lengthOfBuild_27 : decode prog_1_method_44_code 27 = .ok (.iload_n 3, 1) := by decide +kernel
theorem dS_lengthOfBuild_28 : decode prog_1_method_44_code 28 = .ok (.invokeinterface 195 2, 5) := by decide +kernel
theorem dS_lengthOfBuild_33 : decode prog_1_method_44_code 33 = .ok (.checkcast 224, 3) := by decide +kernel
theorem dS_lengthOfBuild_36 : decode prog_1_method_44_code 36 = .ok (.astore 4, 2) := by decide +kernel
theorem dS_lengthOfBuild_38 : decode prog_1_method_44_code 38 = .ok (.aload 4, 2) := by decide +kernel
theorem dS_lengthOfBuild_40 : decode prog_1_method_44_code 40 = .ok (.getfield 246, 3) := by decide +kernel
theorem dS_lengthOfBuild_43 : decode prog_1_method_44_code 43 = .ok (.iload_n 1, 1) := by decide +kernel
theorem dS_lengthOfBuild_44 : decode prog_1_method_44_code 44 = .ok (.if_icmp .ne 13, 3) := by decide +kernel
theorem dS_lengthOfBuild_47 : decode prog_1_method_44_code 47 = .ok (.iload_n 2, 1) := by decide +kernel
theorem dS_lengthOfBuild_48 : decode prog_1_method_44_code 48 = .ok (.aload 4, 2) := by decide +kernel
theorem dS_lengthOfBuild_50 : decode prog_1_method_44_code 50 = .ok (.getfield 243, 3) := by decide +kernel
theorem dS_lengthOfBuild_53 : decode prog_1_method_44_code 53 = .ok (.invokestatic 329, 3) := by decide +kernel
theorem dS_lengthOfBuild_56 : decode prog_1_method_44_code 56 = .ok (.istore_n 2, 1) := by decide +kernel
theorem dS_lengthOfBuild_57 : decode prog_1_method_44_code 57 = .ok (.iinc 3 1, 3) := by decide +kernel
theorem dS_lengthOfBuild_60 : decode prog_1_method_44_code 60 = .ok (.goto (-50), 3) := by decide +kernel
theorem dS_lengthOfBuild_63 : decode prog_1_method_44_code 63 = .ok (.iload_n 2, 1) := by decide +kernel
theorem dS_lengthOfBuild_64 : decode prog_1_method_44_code 64 = .ok (.ireturn, 1) := by decide +kernel
theorem dS_state_0 : decode prog_1_method_22_code 0 = .ok (.iload_n 1, 1) := by decide +kernel
theorem dS_state_1 : decode prog_1_method_22_code 1 = .ok (.tableswitch 70 0 4 #[35, 40, 45, 50, 58], 35) := by decide +kernel
theorem dS_state_36 : decode prog_1_method_22_code 36 = .ok (.aload_n 0, 1) := by decide +kernel
theorem dS_state_37 : decode prog_1_method_22_code 37 = .ok (.getfield 37, 3) := by decide +kernel
theorem dS_state_40 : decode prog_1_method_22_code 40 = .ok (.ireturn, 1) := by decide +kernel
theorem dS_state_41 : decode prog_1_method_22_code 41 = .ok (.aload_n 0, 1) := by decide +kernel
theorem dS_state_42 : decode prog_1_method_22_code 42 = .ok (.getfield 41, 3) := by decide +kernel
theorem dS_state_45 : decode prog_1_method_22_code 45 = .ok (.ireturn, 1) := by decide +kernel
theorem dS_state_46 : decode prog_1_method_22_code 46 = .ok (.aload_n 0, 1) := by decide +kernel
theorem dS_state_47 : decode prog_1_method_22_code 47 = .ok (.getfield 44, 3) := by decide +kernel
theorem dS_state_50 : decode prog_1_method_22_code 50 = .ok (.ireturn, 1) := by decide +kernel
theorem dS_state_51 : decode prog_1_method_22_code 51 = .ok (.aload_n 0, 1) := by decide +kernel
theorem dS_state_52 : decode prog_1_method_22_code 52 = .ok (.invokevirtual 252, 3) := by decide +kernel
theorem dS_state_55 : decode prog_1_method_22_code 55 = .ok (.invokestatic 260, 3) := by decide +kernel
theorem dS_state_58 : decode prog_1_method_22_code 58 = .ok (.ireturn, 1) := by decide +kernel
theorem dS_state_59 : decode prog_1_method_22_code 59 = .ok (.aload_n 0, 1) := by decide +kernel
theorem dS_state_60 : decode prog_1_method_22_code 60 = .ok (.invokevirtual 252, 3) := by decide +kernel
theorem dS_state_63 : decode prog_1_method_22_code 63 = .ok (.aload_n 0, 1) := by decide +kernel
theorem dS_state_64 : decode prog_1_method_22_code 64 = .ok (.getfield 41, 3) := by decide +kernel
theorem dS_state_67 : decode prog_1_method_22_code 67 = .ok (.invokestatic 285, 3) := by decide +kernel
theorem dS_state_70 : decode prog_1_method_22_code 70 = .ok (.ireturn, 1) := by decide +kernel
theorem dS_state_71 : decode prog_1_method_22_code 71 = .ok (.iconst (-1), 1) := by decide +kernel
theorem dS_state_72 : decode prog_1_method_22_code 72 = .ok (.ireturn, 1) := by decide +kernel
theorem dS_pixel_0 : decode prog_1_method_24_code 0 = .ok (.iload_n 1, 1) := by decide +kernel
theorem dS_pixel_1 : decode prog_1_method_24_code 1 = .ok (.iconst 0, 1) := by decide +kernel
theorem dS_pixel_2 : decode prog_1_method_24_code 2 = .ok (.bipush 23, 2) := by decide +kernel
theorem dS_pixel_4 : decode prog_1_method_24_code 4 = .ok (.invokestatic 47, 3) := by decide +kernel
theorem dS_pixel_7 : decode prog_1_method_24_code 7 = .ok (.ifCond .eq 13, 3) := by decide +kernel
theorem dS_pixel_10 : decode prog_1_method_24_code 10 = .ok (.iload_n 2, 1) := by decide +kernel
theorem dS_pixel_11 : decode prog_1_method_24_code 11 = .ok (.iconst 0, 1) := by decide +kernel
theorem dS_pixel_12 : decode prog_1_method_24_code 12 = .ok (.bipush 15, 2) := by decide +kernel
theorem dS_pixel_14 : decode prog_1_method_24_code 14 = .ok (.invokestatic 47, 3) := by decide +kernel
theorem dS_pixel_17 : decode prog_1_method_24_code 17 = .ok (.ifCond .ne 5, 3) := by decide +kernel
theorem dS_pixel_20 : decode prog_1_method_24_code 20 = .ok (.iconst (-1), 1) := by decide +kernel
theorem dS_pixel_21 : decode prog_1_method_24_code 21 = .ok (.ireturn, 1) := by decide +kernel
theorem dS_pixel_22 : decode prog_1_method_24_code 22 = .ok (.ldc_w 292, 3) := by decide +kernel
theorem dS_pixel_25 : decode prog_1_method_24_code 25 = .ok (.istore_n 3, 1) := by decide +kernel
theorem dS_pixel_26 : decode prog_1_method_24_code 26 = .ok (.iconst 0, 1) := by decide +kernel
theorem dS_pixel_27 : decode prog_1_method_24_code 27 = .ok (.istore 4, 2) := by decide +kernel
theorem dS_pixel_29 : decode prog_1_method_24_code 29 = .ok (.iload 4, 2) := by decide +kernel
theorem dS_pixel_31 : decode prog_1_method_24_code 31 = .ok (.iconst 2, 1) := by decide +kernel
theorem dS_pixel_32 : decode prog_1_method_24_code 32 = .ok (.if_icmp .gt 26, 3) := by decide +kernel
theorem dS_pixel_35 : decode prog_1_method_24_code 35 = .ok (.aload_n 0, 1) := by decide +kernel
theorem dS_pixel_36 : decode prog_1_method_24_code 36 = .ok (.aload_n 0, 1) := by decide +kernel
theorem dS_pixel_37 : decode prog_1_method_24_code 37 = .ok (.invokevirtual 252, 3) := by decide +kernel
theorem dS_pixel_40 : decode prog_1_method_24_code 40 = .ok (.iload 4, 2) := by decide +kernel
theorem dS_pixel_42 : decode prog_1_method_24_code 42 = .ok (.invokestatic 293, 3) := by decide +kernel
theorem dS_pixel_45 : decode prog_1_method_24_code 45 = .ok (.iload_n 1, 1) := by decide +kernel
theorem dS_pixel_46 : decode prog_1_method_24_code 46 = .ok (.iload_n 2, 1) := by decide +kernel
theorem dS_pixel_47 : decode prog_1_method_24_code 47 = .ok (.iload_n 3, 1) := by decide +kernel
theorem dS_pixel_48 : decode prog_1_method_24_code 48 = .ok (.invokevirtual 297, 3) := by decide +kernel
theorem dS_pixel_51 : decode prog_1_method_24_code 51 = .ok (.istore_n 3, 1) := by decide +kernel
theorem dS_pixel_52 : decode prog_1_method_24_code 52 = .ok (.iinc 4 1, 3) := by decide +kernel
theorem dS_pixel_55 : decode prog_1_method_24_code 55 = .ok (.goto (-26), 3) := by decide +kernel
theorem dS_pixel_58 : decode prog_1_method_24_code 58 = .ok (.iload_n 3, 1) := by decide +kernel
theorem dS_pixel_59 : decode prog_1_method_24_code 59 = .ok (.ireturn, 1) := by decide +kernel
theorem dS_isWithin_0 : decode prog_1_method_25_code 0 = .ok (.iload_n 0, 1) := by decide +kernel
theorem dS_isWithin_1 : decode prog_1_method_25_code 1 = .ok (.iload_n 1, 1) := by decide +kernel
theorem dS_isWithin_2 : decode prog_1_method_25_code 2 = .ok (.if_icmp .lt 12, 3) := by decide +kernel
theorem dS_isWithin_5 : decode prog_1_method_25_code 5 = .ok (.iload_n 0, 1) := by decide +kernel
theorem dS_isWithin_6 : decode prog_1_method_25_code 6 = .ok (.iload_n 2, 1) := by decide +kernel
theorem dS_isWithin_7 : decode prog_1_method_25_code 7 = .ok (.if_icmp .gt 7, 3) := by decide +kernel
theorem dS_isWithin_10 : decode prog_1_method_25_code 10 = .ok (.iconst 1, 1) := by decide +kernel
theorem dS_isWithin_11 : decode prog_1_method_25_code 11 = .ok (.goto 4, 3) := by decide +kernel
theorem dS_isWithin_14 : decode prog_1_method_25_code 14 = .ok (.iconst 0, 1) := by decide +kernel
theorem dS_isWithin_15 : decode prog_1_method_25_code 15 = .ok (.ireturn, 1) := by decide +kernel
theorem dS_pageUnder_0 : decode prog_1_method_55_code 0 = .ok (.aload_n 0, 1) := by decide +kernel
theorem dS_pageUnder_1 : decode prog_1_method_55_code 1 = .ok (.astore_n 2, 1) := by decide +kernel
theorem dS_pageUnder_2 : decode prog_1_method_55_code 2 = .ok (.aload_n 2, 1) := by decide +kernel
theorem dS_pageUnder_3 : decode prog_1_method_55_code 3 = .ok (.ifnull 19, 3) := by decide +kernel
theorem dS_pageUnder_6 : decode prog_1_method_55_code 6 = .ok (.aload_n 2, 1) := by decide +kernel
theorem dS_pageUnder_7 : decode prog_1_method_55_code 7 = .ok (.getfield 206, 3) := by decide +kernel
theorem dS_pageUnder_10 : decode prog_1_method_55_code 10 = .ok (.iload_n 1, 1) := by decide +kernel
theorem dS_pageUnder_11 : decode prog_1_method_55_code 11 = .ok (.if_icmp .le 11, 3) := by decide +kernel
theorem dS_pageUnder_14 : decode prog_1_method_55_code 14 = .ok (.aload_n 2, 1) := by decide +kernel
theorem dS_pageUnder_15 : decode prog_1_method_55_code 15 = .ok (.getfield 154, 3) := by decide +kernel
theorem dS_pageUnder_18 : decode prog_1_method_55_code 18 = .ok (.astore_n 2, 1) := by decide +kernel
theorem dS_pageUnder_19 : decode prog_1_method_55_code 19 = .ok (.goto (-17), 3) := by decide +kernel
theorem dS_pageUnder_22 : decode prog_1_method_55_code 22 = .ok (.aload_n 2, 1) := by decide +kernel
theorem dS_pageUnder_23 : decode prog_1_method_55_code 23 = .ok (.areturn, 1) := by decide +kernel
theorem dS_paintPage_0 : decode prog_1_method_56_code 0 = .ok (.aload_n 1, 1) := by decide +kernel
theorem dS_paintPage_1 : decode prog_1_method_56_code 1 = .ok (.ifnonnull 6, 3) := by decide +kernel
theorem dS_paintPage_4 : decode prog_1_method_56_code 4 = .ok (.iload 4, 2) := by decide +kernel
theorem dS_paintPage_6 : decode prog_1_method_56_code 6 = .ok (.ireturn, 1) := by decide +kernel
theorem dS_paintPage_7 : decode prog_1_method_56_code 7 = .ok (.iload 4, 2) := by decide +kernel
theorem dS_paintPage_9 : decode prog_1_method_56_code 9 = .ok (.istore 5, 2) := by decide +kernel
theorem dS_paintPage_11 : decode prog_1_method_56_code 11 = .ok (.iconst 0, 1) := by decide +kernel
theorem dS_paintPage_12 : decode prog_1_method_56_code 12 = .ok (.istore 6, 2) := by decide +kernel
theorem dS_paintPage_14 : decode prog_1_method_56_code 14 = .ok (.iload 6, 2) := by decide +kernel
theorem dS_paintPage_16 : decode prog_1_method_56_code 16 = .ok (.aload_n 1, 1) := by decide +kernel
theorem dS_paintPage_17 : decode prog_1_method_56_code 17 = .ok (.getfield 115, 3) := by decide +kernel
theorem dS_paintPage_20 : decode prog_1_method_56_code 20 = .ok (.invokeinterface 71 1, 5) := by decide +kernel
theorem dS_paintPage_25 : decode prog_1_method_56_code 25 = .ok (.if_icmp .ge 117, 3) := by decide +kernel
theorem dS_paintPage_28 : decode prog_1_method_56_code 28 = .ok (.aload_n 1, 1) := by decide +kernel
theorem dS_paintPage_29 : decode prog_1_method_56_code 29 = .ok (.getfield 115, 3) := by decide +kernel
theorem dS_paintPage_32 : decode prog_1_method_56_code 32 = .ok (.iload 6, 2) := by decide +kernel
theorem dS_paintPage_34 : decode prog_1_method_56_code 34 = .ok (.invokeinterface 195 2, 5) := by decide +kernel
theorem dS_paintPage_39 : decode prog_1_method_56_code 39 = .ok (.checkcast 110, 3) := by decide +kernel
theorem dS_paintPage_42 : decode prog_1_method_56_code 42 = .ok (.astore 7, 2) := by decide +kernel
theorem dS_paintPage_44 : decode prog_1_method_56_code 44 = .ok (.aload_n 1, 1) := by decide +kernel
theorem dS_paintPage_45 : decode prog_1_method_56_code 45 = .ok (.getfield 206, 3) := by decide +kernel
theorem dS_paintPage_48 : decode prog_1_method_56_code 48 = .ok (.iconst 2, 1) := by decide +kernel
theorem dS_paintPage_49 : decode prog_1_method_56_code 49 = .ok (.if_icmp .eq 12, 3) := by decide +kernel
theorem dS_paintPage_52 : decode prog_1_method_56_code 52 = .ok (.aload 7, 2) := by decide +kernel
theorem dS_paintPage_54 : decode prog_1_method_56_code 54 = .ok (.getfield 157, 3) := by decide +kernel
theorem dS_paintPage_57 : decode prog_1_method_56_code 57 = .ok (.iconst (-1), 1) := by decide +kernel
theorem dS_paintPage_58 : decode prog_1_method_56_code 58 = .ok (.if_icmp .ne 7, 3) := by decide +kernel
theorem dS_paintPage_61 : decode prog_1_method_56_code 61 = .ok (.iconst 1, 1) := by decide +kernel
theorem dS_paintPage_62 : decode prog_1_method_56_code 62 = .ok (.goto 4, 3) := by decide +kernel
theorem dS_paintPage_65 : decode prog_1_method_56_code 65 = .ok (.iconst 0, 1) := by decide +kernel
theorem dS_paintPage_66 : decode prog_1_method_56_code 66 = .ok (.istore 8, 2) := by decide +kernel
theorem dS_paintPage_68 : decode prog_1_method_56_code 68 = .ok (.iload 8, 2) := by decide +kernel
theorem dS_paintPage_70 : decode prog_1_method_56_code 70 = .ok (.ifCond .eq 66, 3) := by decide +kernel
theorem dS_paintPage_73 : decode prog_1_method_56_code 73 = .ok (.aload_n 0, 1) := by decide +kernel
theorem dS_paintPage_74 : decode prog_1_method_56_code 74 = .ok (.aload 7, 2) := by decide +kernel
theorem dS_paintPage_76 : decode prog_1_method_56_code 76 = .ok (.iconst 0, 1) := by decide +kernel
theorem dS_paintPage_77 : decode prog_1_method_56_code 77 = .ok (.invokevirtual 289, 3) := by decide +kernel
theorem dS_paintPage_80 : decode prog_1_method_56_code 80 = .ok (.aload_n 0, 1) := by decide +kernel
theorem dS_paintPage_81 : decode prog_1_method_56_code 81 = .ok (.aload 7, 2) := by decide +kernel
theorem dS_paintPage_83 : decode prog_1_method_56_code 83 = .ok (.iconst 2, 1) := by decide +kernel
theorem dS_paintPage_84 : decode prog_1_method_56_code 84 = .ok (.invokevirtual 138, 3) := by decide +kernel
theorem dS_paintPage_87 : decode prog_1_method_56_code 87 = .ok (.iload_n 2, 1) := by decide +kernel
theorem dS_paintPage_88 : decode prog_1_method_56_code 88 = .ok (.invokestatic 349, 3) := by decide +kernel
theorem dS_paintPage_91 : decode prog_1_method_56_code 91 = .ok (.ifCond .eq 45, 3) := by decide +kernel
theorem dS_paintPage_94 : decode prog_1_method_56_code 94 = .ok (.aload_n 0, 1) := by decide +kernel
theorem dS_paintPage_95 : decode prog_1_method_56_code 95 = .ok (.aload 7, 2) := by decide +kernel
theorem dS_paintPage_97 : decode prog_1_method_56_code 97 = .ok (.iconst 1, 1) := by decide +kernel
theorem dS_paintPage_98 : decode prog_1_method_56_code 98 = .ok (.invokevirtual 289, 3) := by decide +kernel
theorem dS_paintPage_101 : decode prog_1_method_56_code 101 = .ok (.aload_n 0, 1) := by decide +kernel
theorem dS_paintPage_102 : decode prog_1_method_56_code 102 = .ok (.aload 7, 2) := by decide +kernel
theorem dS_paintPage_104 : decode prog_1_method_56_code 104 = .ok (.iconst 3, 1) := by decide +kernel
theorem dS_paintPage_105 : decode prog_1_method_56_code 105 = .ok (.invokevirtual 138, 3) := by decide +kernel
theorem dS_paintPage_108 : decode prog_1_method_56_code 108 = .ok (.iload_n 3, 1) := by decide +kernel
theorem dS_paintPage_109 : decode prog_1_method_56_code 109 = .ok (.invokestatic 349, 3) := by decide +kernel
theorem dS_paintPage_112 : decode prog_1_method_56_code 112 = .ok (.ifCond .eq 24, 3) := by decide +kernel
theorem dS_paintPage_115 : decode prog_1_method_56_code 115 = .ok (.aload_n 0, 1) := by decide +kernel
theorem dS_paintPage_116 : decode prog_1_method_56_code 116 = .ok (.aload 7, 2) := by decide +kernel
theorem dS_paintPage_118 : decode prog_1_method_56_code 118 = .ok (.iconst 4, 1) := by decide +kernel
theorem dS_paintPage_119 : decode prog_1_method_56_code 119 = .ok (.invokevirtual 138, 3) := by decide +kernel
theorem dS_paintPage_122 : decode prog_1_method_56_code 122 = .ok (.iload 5, 2) := by decide +kernel
theorem dS_paintPage_124 : decode prog_1_method_56_code 124 = .ok (.aload_n 0, 1) := by decide +kernel
theorem dS_paintPage_125 : decode prog_1_method_56_code 125 = .ok (.aload 7, 2) := by decide +kernel
theorem dS_paintPage_127 : decode prog_1_method_56_code 127 = .ok (.iconst 5, 1) := by decide +kernel
theorem dS_paintPage_128 : decode prog_1_method_56_code 128 = .ok (.invokevirtual 289, 3) := by decide +kernel
theorem dS_paintPage_131 : decode prog_1_method_56_code 131 = .ok (.invokestatic 352, 3) := by decide +kernel
theorem dS_paintPage_134 : decode prog_1_method_56_code 134 = .ok (.istore 5, 2) := by decide +kernel
theorem dS_paintPage_136 : decode prog_1_method_56_code 136 = .ok (.iinc 6 1, 3) := by decide +kernel
theorem dS_paintPage_139 : decode prog_1_method_56_code 139 = .ok (.goto (-125), 3) := by decide +kernel
theorem dS_paintPage_142 : decode prog_1_method_56_code 142 = .ok (.iload 5, 2) := by decide +kernel
theorem dS_paintPage_144 : decode prog_1_method_56_code 144 = .ok (.ireturn, 1) := by decide +kernel
theorem dS_valueNow_0 : decode prog_1_method_51_code 0 = .ok (.aload_n 0, 1) := by decide +kernel
theorem dS_valueNow_1 : decode prog_1_method_51_code 1 = .ok (.aload_n 1, 1) := by decide +kernel
theorem dS_valueNow_2 : decode prog_1_method_51_code 2 = .ok (.iload_n 2, 1) := by decide +kernel
theorem dS_valueNow_3 : decode prog_1_method_51_code 3 = .ok (.invokevirtual 138, 3) := by decide +kernel
theorem dS_valueNow_6 : decode prog_1_method_51_code 6 = .ok (.istore_n 3, 1) := by decide +kernel
theorem dS_valueNow_7 : decode prog_1_method_51_code 7 = .ok (.aload_n 1, 1) := by decide +kernel
theorem dS_valueNow_8 : decode prog_1_method_51_code 8 = .ok (.getfield 150, 3) := by decide +kernel
theorem dS_valueNow_11 : decode prog_1_method_51_code 11 = .ok (.aload_n 0, 1) := by decide +kernel
theorem dS_valueNow_12 : decode prog_1_method_51_code 12 = .ok (.invokevirtual 252, 3) := by decide +kernel
theorem dS_valueNow_15 : decode prog_1_method_51_code 15 = .ok (.if_acmp .eq 5, 3) := by decide +kernel
theorem dS_valueNow_18 : decode prog_1_method_51_code 18 = .ok (.iload_n 3, 1) := by decide +kernel
theorem dS_valueNow_19 : decode prog_1_method_51_code 19 = .ok (.ireturn, 1) := by decide +kernel
theorem dS_valueNow_20 : decode prog_1_method_51_code 20 = .ok (.iload_n 2, 1) := by decide +kernel
theorem dS_valueNow_21 : decode prog_1_method_51_code 21 = .ok (.lookupswitch 60 #[(0, 35), (1, 44), (5, 53)], 35) := by decide +kernel
theorem dS_valueNow_56 : decode prog_1_method_51_code 56 = .ok (.iload_n 3, 1) := by decide +kernel
theorem dS_valueNow_57 : decode prog_1_method_51_code 57 = .ok (.aload_n 0, 1) := by decide +kernel
theorem dS_valueNow_58 : decode prog_1_method_51_code 58 = .ok (.aload_n 1, 1) := by decide +kernel
theorem dS_valueNow_59 : decode prog_1_method_51_code 59 = .ok (.iconst 2, 1) := by decide +kernel
theorem dS_valueNow_60 : decode prog_1_method_51_code 60 = .ok (.invokevirtual 335, 3) := by decide +kernel
theorem dS_valueNow_63 : decode prog_1_method_51_code 63 = .ok (.iadd, 1) := by decide +kernel
theorem dS_valueNow_64 : decode prog_1_method_51_code 64 = .ok (.ireturn, 1) := by decide +kernel
theorem dS_valueNow_65 : decode prog_1_method_51_code 65 = .ok (.iload_n 3, 1) := by decide +kernel
theorem dS_valueNow_66 : decode prog_1_method_51_code 66 = .ok (.aload_n 0, 1) := by decide +kernel
theorem dS_valueNow_67 : decode prog_1_method_51_code 67 = .ok (.aload_n 1, 1) := by decide +kernel
theorem dS_valueNow_68 : decode prog_1_method_51_code 68 = .ok (.iconst 3, 1) := by decide +kernel
theorem dS_valueNow_69 : decode prog_1_method_51_code 69 = .ok (.invokevirtual 335, 3) := by decide +kernel
theorem dS_valueNow_72 : decode prog_1_method_51_code 72 = .ok (.iadd, 1) := by decide +kernel
theorem dS_valueNow_73 : decode prog_1_method_51_code 73 = .ok (.ireturn, 1) := by decide +kernel
theorem dS_valueNow_74 : decode prog_1_method_51_code 74 = .ok (.aload_n 0, 1) := by decide +kernel
theorem dS_valueNow_75 : decode prog_1_method_51_code 75 = .ok (.aload_n 1, 1) := by decide +kernel
theorem dS_valueNow_76 : decode prog_1_method_51_code 76 = .ok (.iload_n 3, 1) := by decide +kernel
theorem dS_valueNow_77 : decode prog_1_method_51_code 77 = .ok (.invokevirtual 338, 3) := by decide +kernel
theorem dS_valueNow_80 : decode prog_1_method_51_code 80 = .ok (.ireturn, 1) := by decide +kernel
theorem dS_valueNow_81 : decode prog_1_method_51_code 81 = .ok (.iload_n 3, 1) := by decide +kernel
theorem dS_valueNow_82 : decode prog_1_method_51_code 82 = .ok (.ireturn, 1) := by decide +kernel
theorem dS_resolve_0 : decode prog_1_method_36_code 0 = .ok (.aload_n 1, 1) := by decide +kernel
theorem dS_resolve_1 : decode prog_1_method_36_code 1 = .ok (.iload_n 2, 1) := by decide +kernel
theorem dS_resolve_2 : decode prog_1_method_36_code 2 = .ok (.invokestatic 142, 3) := by decide +kernel
theorem dS_resolve_5 : decode prog_1_method_36_code 5 = .ok (.astore_n 3, 1) := by decide +kernel
theorem dS_resolve_6 : decode prog_1_method_36_code 6 = .ok (.aload_n 3, 1) := by decide +kernel
theorem dS_resolve_7 : decode prog_1_method_36_code 7 = .ok (.ifnonnull 12, 3) := by decide +kernel
theorem dS_resolve_10 : decode prog_1_method_36_code 10 = .ok (.aload_n 0, 1) := by decide +kernel
theorem dS_resolve_11 : decode prog_1_method_36_code 11 = .ok (.getfield 10, 3) := by decide +kernel
theorem dS_resolve_14 : decode prog_1_method_36_code 14 = .ok (.iload_n 2, 1) := by decide +kernel
theorem dS_resolve_15 : decode prog_1_method_36_code 15 = .ok (.iaload, 1) := by decide +kernel
theorem dS_resolve_16 : decode prog_1_method_36_code 16 = .ok (.goto 9, 3) := by decide +kernel
theorem dS_resolve_19 : decode prog_1_method_36_code 19 = .ok (.aload_n 3, 1) := by decide +kernel
theorem dS_resolve_20 : decode prog_1_method_36_code 20 = .ok (.getfield 131, 3) := by decide +kernel
theorem dS_resolve_23 : decode prog_1_method_36_code 23 = .ok (.iload_n 2, 1) := by decide +kernel
theorem dS_resolve_24 : decode prog_1_method_36_code 24 = .ok (.iaload, 1) := by decide +kernel
theorem dS_resolve_25 : decode prog_1_method_36_code 25 = .ok (.ireturn, 1) := by decide +kernel
theorem dS_source_0 : decode prog_1_method_35_code 0 = .ok (.aload_n 0, 1) := by decide +kernel
theorem dS_source_1 : decode prog_1_method_35_code 1 = .ok (.getfield 127, 3) := by decide +kernel
theorem dS_source_4 : decode prog_1_method_35_code 4 = .ok (.iload_n 1, 1) := by decide +kernel
theorem dS_source_5 : decode prog_1_method_35_code 5 = .ok (.baload, 1) := by decide +kernel
theorem dS_source_6 : decode prog_1_method_35_code 6 = .ok (.ifCond .eq 5, 3) := by decide +kernel
theorem dS_source_9 : decode prog_1_method_35_code 9 = .ok (.aload_n 0, 1) := by decide +kernel
theorem dS_source_10 : decode prog_1_method_35_code 10 = .ok (.areturn, 1) := by decide +kernel
theorem dS_source_11 : decode prog_1_method_35_code 11 = .ok (.aload_n 0, 1) := by decide +kernel
theorem dS_source_12 : decode prog_1_method_35_code 12 = .ok (.getfield 150, 3) := by decide +kernel
theorem dS_source_15 : decode prog_1_method_35_code 15 = .ok (.getfield 154, 3) := by decide +kernel
theorem dS_source_18 : decode prog_1_method_35_code 18 = .ok (.astore_n 2, 1) := by decide +kernel
theorem dS_source_19 : decode prog_1_method_35_code 19 = .ok (.aload_n 2, 1) := by decide +kernel
theorem dS_source_20 : decode prog_1_method_35_code 20 = .ok (.ifnull 35, 3) := by decide +kernel
theorem dS_source_23 : decode prog_1_method_35_code 23 = .ok (.aload_n 2, 1) := by decide +kernel
theorem dS_source_24 : decode prog_1_method_35_code 24 = .ok (.aload_n 0, 1) := by decide +kernel
theorem dS_source_25 : decode prog_1_method_35_code 25 = .ok (.getfield 157, 3) := by decide +kernel
theorem dS_source_28 : decode prog_1_method_35_code 28 = .ok (.invokestatic 99, 3) := by decide +kernel
theorem dS_source_31 : decode prog_1_method_35_code 31 = .ok (.astore_n 3, 1) := by decide +kernel
theorem dS_source_32 : decode prog_1_method_35_code 32 = .ok (.aload_n 3, 1) := by decide +kernel
theorem dS_source_33 : decode prog_1_method_35_code 33 = .ok (.ifnull 14, 3) := by decide +kernel
theorem dS_source_36 : decode prog_1_method_35_code 36 = .ok (.aload_n 3, 1) := by decide +kernel
theorem dS_source_37 : decode prog_1_method_35_code 37 = .ok (.getfield 127, 3) := by decide +kernel
theorem dS_source_40 : decode prog_1_method_35_code 40 = .ok (.iload_n 1, 1) := by decide +kernel
theorem dS_source_41 : decode prog_1_method_35_code 41 = .ok (.baload, 1) := by decide +kernel
theorem dS_source_42 : decode prog_1_method_35_code 42 = .ok (.ifCond .eq 5, 3) := by decide +kernel
theorem dS_source_45 : decode prog_1_method_35_code 45 = .ok (.aload_n 3, 1) := by decide +kernel
theorem dS_source_46 : decode prog_1_method_35_code 46 = .ok (.areturn, 1) := by decide +kernel
theorem dS_source_47 : decode prog_1_method_35_code 47 = .ok (.aload_n 2, 1) := by decide +kernel
theorem dS_source_48 : decode prog_1_method_35_code 48 = .ok (.getfield 154, 3) := by decide +kernel
theorem dS_source_51 : decode prog_1_method_35_code 51 = .ok (.astore_n 2, 1) := by decide +kernel
theorem dS_source_52 : decode prog_1_method_35_code 52 = .ok (.goto (-33), 3) := by decide +kernel
theorem dS_source_55 : decode prog_1_method_35_code 55 = .ok (.aconst_null, 1) := by decide +kernel
theorem dS_source_56 : decode prog_1_method_35_code 56 = .ok (.areturn, 1) := by decide +kernel
theorem dS_shapeInSlot_0 : decode prog_1_method_33_code 0 = .ok (.aload_n 0, 1) := by decide +kernel
theorem dS_shapeInSlot_1 : decode prog_1_method_33_code 1 = .ok (.ifnull 8, 3) := by decide +kernel
theorem dS_shapeInSlot_4 : decode prog_1_method_33_code 4 = .ok (.iload_n 1, 1) := by decide +kernel
theorem dS_shapeInSlot_5 : decode prog_1_method_33_code 5 = .ok (.iconst (-1), 1) := by decide +kernel
theorem dS_shapeInSlot_6 : decode prog_1_method_33_code 6 = .ok (.if_icmp .ne 5, 3) := by decide +kernel
theorem dS_shapeInSlot_9 : decode prog_1_method_33_code 9 = .ok (.aconst_null, 1) := by decide +kernel
theorem dS_shapeInSlot_10 : decode prog_1_method_33_code 10 = .ok (.areturn, 1) := by decide +kernel
theorem dS_shapeInSlot_11 : decode prog_1_method_33_code 11 = .ok (.iconst 0, 1) := by decide +kernel
theorem dS_shapeInSlot_12 : decode prog_1_method_33_code 12 = .ok (.istore_n 2, 1) := by decide +kernel
theorem dS_shapeInSlot_13 : decode prog_1_method_33_code 13 = .ok (.iload_n 2, 1) := by decide +kernel
theorem dS_shapeInSlot_14 : decode prog_1_method_33_code 14 = .ok (.aload_n 0, 1) := by decide +kernel
theorem dS_shapeInSlot_15 : decode prog_1_method_33_code 15 = .ok (.getfield 115, 3) := by decide +kernel
theorem dS_shapeInSlot_18 : decode prog_1_method_33_code 18 = .ok (.invokeinterface 71 1, 5) := by decide +kernel
theorem dS_shapeInSlot_23 : decode prog_1_method_33_code 23 = .ok (.if_icmp .ge 43, 3) := by decide +kernel
theorem dS_shapeInSlot_26 : decode prog_1_method_33_code 26 = .ok (.aload_n 0, 1) := by decide +kernel
theorem dS_shapeInSlot_27 : decode prog_1_method_33_code 27 = .ok (.getfield 115, 3) := by decide +kernel
theorem dS_shapeInSlot_30 : decode prog_1_method_33_code 30 = .ok (.iload_n 2, 1) := by decide +kernel
theorem dS_shapeInSlot_31 : decode prog_1_method_33_code 31 = .ok (.invokeinterface 195 2, 5) := by decide +kernel
theorem dS_shapeInSlot_36 : decode prog_1_method_33_code 36 = .ok (.checkcast 110, 3) := by decide +kernel
theorem dS_shapeInSlot_39 : decode prog_1_method_33_code 39 = .ok (.getfield 157, 3) := by decide +kernel
theorem dS_shapeInSlot_42 : decode prog_1_method_33_code 42 = .ok (.iload_n 1, 1) := by decide +kernel
theorem dS_shapeInSlot_43 : decode prog_1_method_33_code 43 = .ok (.if_icmp .ne 17, 3) := by decide +kernel
theorem dS_shapeInSlot_46 : decode prog_1_method_33_code 46 = .ok (.aload_n 0, 1) := by decide +kernel
theorem dS_shapeInSlot_47 : decode prog_1_method_33_code 47 = .ok (.getfield 115, 3) := by decide +kernel
theorem dS_shapeInSlot_50 : decode prog_1_method_33_code 50 = .ok (.iload_n 2, 1) := by decide +kernel
theorem dS_shapeInSlot_51 : decode prog_1_method_33_code 51 = .ok (.invokeinterface 195 2, 5) := by decide +kernel
theorem dS_shapeInSlot_56 : decode prog_1_method_33_code 56 = .ok (.checkcast 110, 3) := by decide +kernel
theorem dS_shapeInSlot_59 : decode prog_1_method_33_code 59 = .ok (.areturn, 1) := by decide +kernel
theorem dS_shapeInSlot_60 : decode prog_1_method_33_code 60 = .ok (.iinc 2 1, 3) := by decide +kernel
theorem dS_shapeInSlot_63 : decode prog_1_method_33_code 63 = .ok (.goto (-50), 3) := by decide +kernel
theorem dS_shapeInSlot_66 : decode prog_1_method_33_code 66 = .ok (.aconst_null, 1) := by decide +kernel
theorem dS_shapeInSlot_67 : decode prog_1_method_33_code 67 = .ok (.areturn, 1) := by decide +kernel
theorem dS_moved_0 : decode prog_1_method_52_code 0 = .ok (.iconst 0, 1) := by decide +kernel
theorem dS_moved_1 : decode prog_1_method_52_code 1 = .ok (.istore_n 3, 1) := by decide +kernel
theorem dS_moved_2 : decode prog_1_method_52_code 2 = .ok (.iconst 0, 1) := by decide +kernel
theorem dS_moved_3 : decode prog_1_method_52_code 3 = .ok (.istore 4, 2) := by decide +kernel
theorem dS_moved_5 : decode prog_1_method_52_code 5 = .ok (.iload 4, 2) := by decide +kernel
theorem dS_moved_7 : decode prog_1_method_52_code 7 = .ok (.aload_n 1, 1) := by decide +kernel
theorem dS_moved_8 : decode prog_1_method_52_code 8 = .ok (.getfield 230, 3) := by decide +kernel
theorem dS_moved_11 : decode prog_1_method_52_code 11 = .ok (.invokeinterface 71 1, 5) := by decide +kernel
theorem dS_moved_16 : decode prog_1_method_52_code 16 = .ok (.if_icmp .ge 48, 3) := by decide +kernel
theorem dS_moved_19 : decode prog_1_method_52_code 19 = .ok (.aload_n 1, 1) := by decide +kernel
theorem dS_moved_20 : decode prog_1_method_52_code 20 = .ok (.getfield 230, 3) := by decide +kernel
theorem dS_moved_23 : decode prog_1_method_52_code 23 = .ok (.iload 4, 2) := by decide +kernel
theorem dS_moved_25 : decode prog_1_method_52_code 25 = .ok (.invokeinterface 195 2, 5) := by decide +kernel
theorem dS_moved_30 : decode prog_1_method_52_code 30 = .ok (.checkcast 224, 3) := by decide +kernel
theorem dS_moved_33 : decode prog_1_method_52_code 33 = .ok (.astore 5, 2) := by decide +kernel
theorem dS_moved_35 : decode prog_1_method_52_code 35 = .ok (.aload 5, 2) := by decide +kernel
theorem dS_moved_37 : decode prog_1_method_52_code 37 = .ok (.getfield 341, 3) := by decide +kernel
theorem dS_moved_40 : decode prog_1_method_52_code 40 = .ok (.iload_n 2, 1) := by decide +kernel
theorem dS_moved_41 : decode prog_1_method_52_code 41 = .ok (.if_icmp .ne 17, 3) := by decide +kernel
theorem dS_moved_44 : decode prog_1_method_52_code 44 = .ok (.iload_n 3, 1) := by decide +kernel
theorem dS_moved_45 : decode prog_1_method_52_code 45 = .ok (.aload_n 0, 1) := by decide +kernel
theorem dS_moved_46 : decode prog_1_method_52_code 46 = .ok (.aload 5, 2) := by decide +kernel
theorem dS_moved_48 : decode prog_1_method_52_code 48 = .ok (.aload 5, 2) := by decide +kernel
theorem dS_moved_50 : decode prog_1_method_52_code 50 = .ok (.getfield 237, 3) := by decide +kernel
theorem dS_moved_53 : decode prog_1_method_52_code 53 = .ok (.invokevirtual 342, 3) := by decide +kernel
theorem dS_moved_56 : decode prog_1_method_52_code 56 = .ok (.iadd, 1) := by decide +kernel
theorem dS_moved_57 : decode prog_1_method_52_code 57 = .ok (.istore_n 3, 1) := by decide +kernel
theorem dS_moved_58 : decode prog_1_method_52_code 58 = .ok (.iinc 4 1, 3) := by decide +kernel
theorem dS_moved_61 : decode prog_1_method_52_code 61 = .ok (.goto (-56), 3) := by decide +kernel
theorem dS_moved_64 : decode prog_1_method_52_code 64 = .ok (.iload_n 3, 1) := by decide +kernel
theorem dS_moved_65 : decode prog_1_method_52_code 65 = .ok (.ireturn, 1) := by decide +kernel
theorem dS_part_0 : decode prog_1_method_50_code 0 = .ok (.aload_n 0, 1) := by decide +kernel
theorem dS_part_1 : decode prog_1_method_50_code 1 = .ok (.aload_n 1, 1) := by decide +kernel
theorem dS_part_2 : decode prog_1_method_50_code 2 = .ok (.invokevirtual 256, 3) := by decide +kernel
theorem dS_part_5 : decode prog_1_method_50_code 5 = .ok (.istore_n 3, 1) := by decide +kernel
theorem dS_part_6 : decode prog_1_method_50_code 6 = .ok (.iload_n 3, 1) := by decide +kernel
theorem dS_part_7 : decode prog_1_method_50_code 7 = .ok (.iconst 1, 1) := by decide +kernel
theorem dS_part_8 : decode prog_1_method_50_code 8 = .ok (.if_icmp .ne 27, 3) := by decide +kernel
theorem dS_part_11 : decode prog_1_method_50_code 11 = .ok (.aload_n 1, 1) := by decide +kernel
theorem dS_part_12 : decode prog_1_method_50_code 12 = .ok (.getfield 332, 3) := by decide +kernel
theorem dS_part_15 : decode prog_1_method_50_code 15 = .ok (.ifCond .le 20, 3) := by decide +kernel
theorem dS_part_18 : decode prog_1_method_50_code 18 = .ok (.iload_n 2, 1) := by decide +kernel
theorem dS_part_19 : decode prog_1_method_50_code 19 = .ok (.aload_n 0, 1) := by decide +kernel
theorem dS_part_20 : decode prog_1_method_50_code 20 = .ok (.getfield 44, 3) := by decide +kernel
theorem dS_part_23 : decode prog_1_method_50_code 23 = .ok (.aload_n 1, 1) := by decide +kernel
theorem dS_part_24 : decode prog_1_method_50_code 24 = .ok (.getfield 240, 3) := by decide +kernel
theorem dS_part_27 : decode prog_1_method_50_code 27 = .ok (.isub, 1) := by decide +kernel
theorem dS_part_28 : decode prog_1_method_50_code 28 = .ok (.imul, 1) := by decide +kernel
theorem dS_part_29 : decode prog_1_method_50_code 29 = .ok (.aload_n 1, 1) := by decide +kernel
theorem dS_part_30 : decode prog_1_method_50_code 30 = .ok (.getfield 332, 3) := by decide +kernel
theorem dS_part_33 : decode prog_1_method_50_code 33 = .ok (.idiv, 1) := by decide +kernel
theorem dS_part_34 : decode prog_1_method_50_code 34 = .ok (.ireturn, 1) := by decide +kernel
theorem dS_part_35 : decode prog_1_method_50_code 35 = .ok (.iload_n 3, 1) := by decide +kernel
theorem dS_part_36 : decode prog_1_method_50_code 36 = .ok (.iconst 2, 1) := by decide +kernel
theorem dS_part_37 : decode prog_1_method_50_code 37 = .ok (.if_icmp .ne 7, 3) := by decide +kernel
theorem dS_part_40 : decode prog_1_method_50_code 40 = .ok (.iload_n 2, 1) := by decide +kernel
theorem dS_part_41 : decode prog_1_method_50_code 41 = .ok (.goto 4, 3) := by decide +kernel
theorem dS_part_44 : decode prog_1_method_50_code 44 = .ok (.iconst 0, 1) := by decide +kernel
theorem dS_part_45 : decode prog_1_method_50_code 45 = .ok (.ireturn, 1) := by decide +kernel
theorem dS_progress_0 : decode prog_1_method_49_code 0 = .ok (.aload_n 1, 1) := by decide +kernel
theorem dS_progress_1 : decode prog_1_method_49_code 1 = .ok (.getfield 246, 3) := by decide +kernel
theorem dS_progress_4 : decode prog_1_method_49_code 4 = .ok (.aload_n 0, 1) := by decide +kernel
theorem dS_progress_5 : decode prog_1_method_49_code 5 = .ok (.getfield 41, 3) := by decide +kernel
theorem dS_progress_8 : decode prog_1_method_49_code 8 = .ok (.if_icmp .lt 25, 3) := by decide +kernel
theorem dS_progress_11 : decode prog_1_method_49_code 11 = .ok (.aload_n 1, 1) := by decide +kernel
theorem dS_progress_12 : decode prog_1_method_49_code 12 = .ok (.getfield 246, 3) := by decide +kernel
theorem dS_progress_15 : decode prog_1_method_49_code 15 = .ok (.aload_n 0, 1) := by decide +kernel
theorem dS_progress_16 : decode prog_1_method_49_code 16 = .ok (.getfield 41, 3) := by decide +kernel
theorem dS_progress_19 : decode prog_1_method_49_code 19 = .ok (.if_icmp .ne 16, 3) := by decide +kernel
theorem dS_progress_22 : decode prog_1_method_49_code 22 = .ok (.aload_n 1, 1) := by decide +kernel
theorem dS_progress_23 : decode prog_1_method_49_code 23 = .ok (.getfield 243, 3) := by decide +kernel
theorem dS_progress_26 : decode prog_1_method_49_code 26 = .ok (.aload_n 0, 1) := by decide +kernel
theorem dS_progress_27 : decode prog_1_method_49_code 27 = .ok (.getfield 44, 3) := by decide +kernel
theorem dS_progress_30 : decode prog_1_method_49_code 30 = .ok (.if_icmp .gt 5, 3) := by decide +kernel
theorem dS_progress_33 : decode prog_1_method_49_code 33 = .ok (.iconst 2, 1) := by decide +kernel
theorem dS_progress_34 : decode prog_1_method_49_code 34 = .ok (.ireturn, 1) := by decide +kernel
theorem dS_progress_35 : decode prog_1_method_49_code 35 = .ok (.aload_n 1, 1) := by decide +kernel
theorem dS_progress_36 : decode prog_1_method_49_code 36 = .ok (.getfield 246, 3) := by decide +kernel
theorem dS_progress_39 : decode prog_1_method_49_code 39 = .ok (.aload_n 0, 1) := by decide +kernel
theorem dS_progress_40 : decode prog_1_method_49_code 40 = .ok (.getfield 41, 3) := by decide +kernel
theorem dS_progress_43 : decode prog_1_method_49_code 43 = .ok (.if_icmp .ne 18, 3) := by decide +kernel
theorem dS_progress_46 : decode prog_1_method_49_code 46 = .ok (.aload_n 1, 1) := by decide +kernel
theorem dS_progress_47 : decode prog_1_method_49_code 47 = .ok (.getfield 240, 3) := by decide +kernel
theorem dS_progress_50 : decode prog_1_method_49_code 50 = .ok (.aload_n 0, 1) := by decide +kernel
theorem dS_progress_51 : decode prog_1_method_49_code 51 = .ok (.getfield 44, 3) := by decide +kernel
theorem dS_progress_54 : decode prog_1_method_49_code 54 = .ok (.if_icmp .gt 7, 3) := by decide +kernel
theorem dS_progress_57 : decode prog_1_method_49_code 57 = .ok (.iconst 1, 1) := by decide +kernel
theorem dS_progress_58 : decode prog_1_method_49_code 58 = .ok (.goto 4, 3) := by decide +kernel
theorem dS_progress_61 : decode prog_1_method_49_code 61 = .ok (.iconst 0, 1) := by decide +kernel
theorem dS_progress_62 : decode prog_1_method_49_code 62 = .ok (.ireturn, 1) := by decide +kernel
theorem dS_alphaNow_0 : decode prog_1_method_53_code 0 = .ok (.aload_n 1, 1) := by decide +kernel
theorem dS_alphaNow_1 : decode prog_1_method_53_code 1 = .ok (.invokestatic 345, 3) := by decide +kernel
theorem dS_alphaNow_4 : decode prog_1_method_53_code 4 = .ok (.ifCond .eq 7, 3) := by decide +kernel
theorem dS_alphaNow_7 : decode prog_1_method_53_code 7 = .ok (.iconst 0, 1) := by decide +kernel
theorem dS_alphaNow_8 : decode prog_1_method_53_code 8 = .ok (.goto 4, 3) := by decide +kernel
theorem dS_alphaNow_11 : decode prog_1_method_53_code 11 = .ok (.iload_n 2, 1) := by decide +kernel
theorem dS_alphaNow_12 : decode prog_1_method_53_code 12 = .ok (.istore_n 3, 1) := by decide +kernel
theorem dS_alphaNow_13 : decode prog_1_method_53_code 13 = .ok (.iconst 0, 1) := by decide +kernel
theorem dS_alphaNow_14 : decode prog_1_method_53_code 14 = .ok (.istore 4, 2) := by decide +kernel
theorem dS_alphaNow_16 : decode prog_1_method_53_code 16 = .ok (.iload 4, 2) := by decide +kernel
theorem dS_alphaNow_18 : decode prog_1_method_53_code 18 = .ok (.aload_n 1, 1) := by decide +kernel
theorem dS_alphaNow_19 : decode prog_1_method_53_code 19 = .ok (.getfield 230, 3) := by decide +kernel
theorem dS_alphaNow_22 : decode prog_1_method_53_code 22 = .ok (.invokeinterface 71 1, 5) := by decide +kernel
theorem dS_alphaNow_27 : decode prog_1_method_53_code 27 = .ok (.if_icmp .ge 75, 3) := by decide +kernel
theorem dS_alphaNow_30 : decode prog_1_method_53_code 30 = .ok (.aload_n 1, 1) := by decide +kernel
theorem dS_alphaNow_31 : decode prog_1_method_53_code 31 = .ok (.getfield 230, 3) := by decide +kernel
theorem dS_alphaNow_34 : decode prog_1_method_53_code 34 = .ok (.iload 4, 2) := by decide +kernel
theorem dS_alphaNow_36 : decode prog_1_method_53_code 36 = .ok (.invokeinterface 195 2, 5) := by decide +kernel
theorem dS_alphaNow_41 : decode prog_1_method_53_code 41 = .ok (.checkcast 224, 3) := by decide +kernel
theorem dS_alphaNow_44 : decode prog_1_method_53_code 44 = .ok (.astore 5, 2) := by decide +kernel
theorem dS_alphaNow_46 : decode prog_1_method_53_code 46 = .ok (.aload_n 0, 1) := by decide +kernel
theorem dS_alphaNow_47 : decode prog_1_method_53_code 47 = .ok (.aload 5, 2) := by decide +kernel
theorem dS_alphaNow_49 : decode prog_1_method_53_code 49 = .ok (.invokevirtual 256, 3) := by decide +kernel
theorem dS_alphaNow_52 : decode prog_1_method_53_code 52 = .ok (.ifCond .ne 6, 3) := by decide +kernel
theorem dS_alphaNow_55 : decode prog_1_method_53_code 55 = .ok (.goto 41, 3) := by decide +kernel
theorem dS_alphaNow_58 : decode prog_1_method_53_code 58 = .ok (.aload 5, 2) := by decide +kernel
theorem dS_alphaNow_60 : decode prog_1_method_53_code 60 = .ok (.getfield 341, 3) := by decide +kernel
theorem dS_alphaNow_63 : decode prog_1_method_53_code 63 = .ok (.ifCond .ne 14, 3) := by decide +kernel
theorem dS_alphaNow_66 : decode prog_1_method_53_code 66 = .ok (.aload_n 0, 1) := by decide +kernel
theorem dS_alphaNow_67 : decode prog_1_method_53_code 67 = .ok (.aload 5, 2) := by decide +kernel
theorem dS_alphaNow_69 : decode prog_1_method_53_code 69 = .ok (.iload_n 2, 1) := by decide +kernel
theorem dS_alphaNow_70 : decode prog_1_method_53_code 70 = .ok (.invokevirtual 342, 3) := by decide +kernel
theorem dS_alphaNow_73 : decode prog_1_method_53_code 73 = .ok (.istore_n 3, 1) := by decide +kernel
theorem dS_alphaNow_74 : decode prog_1_method_53_code 74 = .ok (.goto 22, 3) := by decide +kernel
theorem dS_alphaNow_77 : decode prog_1_method_53_code 77 = .ok (.aload 5, 2) := by decide +kernel
theorem dS_alphaNow_79 : decode prog_1_method_53_code 79 = .ok (.getfield 341, 3) := by decide +kernel
theorem dS_alphaNow_82 : decode prog_1_method_53_code 82 = .ok (.iconst 1, 1) := by decide +kernel
theorem dS_alphaNow_83 : decode prog_1_method_53_code 83 = .ok (.if_icmp .ne 13, 3) := by decide +kernel
theorem dS_alphaNow_86 : decode prog_1_method_53_code 86 = .ok (.iload_n 2, 1) := by decide +kernel
theorem dS_alphaNow_87 : decode prog_1_method_53_code 87 = .ok (.aload_n 0, 1) := by decide +kernel
theorem dS_alphaNow_88 : decode prog_1_method_53_code 88 = .ok (.aload 5, 2) := by decide +kernel
theorem dS_alphaNow_90 : decode prog_1_method_53_code 90 = .ok (.iload_n 2, 1) := by decide +kernel
theorem dS_alphaNow_91 : decode prog_1_method_53_code 91 = .ok (.invokevirtual 342, 3) := by decide +kernel
theorem dS_alphaNow_94 : decode prog_1_method_53_code 94 = .ok (.isub, 1) := by decide +kernel
theorem dS_alphaNow_95 : decode prog_1_method_53_code 95 = .ok (.istore_n 3, 1) := by decide +kernel
theorem dS_alphaNow_96 : decode prog_1_method_53_code 96 = .ok (.iinc 4 1, 3) := by decide +kernel
theorem dS_alphaNow_99 : decode prog_1_method_53_code 99 = .ok (.goto (-83), 3) := by decide +kernel
theorem dS_alphaNow_102 : decode prog_1_method_53_code 102 = .ok (.iload_n 3, 1) := by decide +kernel
theorem dS_alphaNow_103 : decode prog_1_method_53_code 103 = .ok (.ireturn, 1) := by decide +kernel
theorem dS_entersFirst_0 : decode prog_1_method_54_code 0 = .ok (.iconst 0, 1) := by decide +kernel
theorem dS_entersFirst_1 : decode prog_1_method_54_code 1 = .ok (.istore_n 1, 1) := by decide +kernel
theorem dS_entersFirst_2 : decode prog_1_method_54_code 2 = .ok (.iload_n 1, 1) := by decide +kernel
theorem dS_entersFirst_3 : decode prog_1_method_54_code 3 = .ok (.aload_n 0, 1) := by decide +kernel
theorem dS_entersFirst_4 : decode prog_1_method_54_code 4 = .ok (.getfield 230, 3) := by decide +kernel
theorem dS_entersFirst_7 : decode prog_1_method_54_code 7 = .ok (.invokeinterface 71 1, 5) := by decide +kernel
theorem dS_entersFirst_12 : decode prog_1_method_54_code 12 = .ok (.if_icmp .ge 45, 3) := by decide +kernel
theorem dS_entersFirst_15 : decode prog_1_method_54_code 15 = .ok (.aload_n 0, 1) := by decide +kernel
theorem dS_entersFirst_16 : decode prog_1_method_54_code 16 = .ok (.getfield 230, 3) := by decide +kernel
theorem dS_entersFirst_19 : decode prog_1_method_54_code 19 = .ok (.iload_n 1, 1) := by decide +kernel
theorem dS_entersFirst_20 : decode prog_1_method_54_code 20 = .ok (.invokeinterface 195 2, 5) := by decide +kernel
theorem dS_entersFirst_25 : decode prog_1_method_54_code 25 = .ok (.checkcast 224, 3) := by decide +kernel
theorem dS_entersFirst_28 : decode prog_1_method_54_code 28 = .ok (.getfield 341, 3) := by decide +kernel
theorem dS_entersFirst_31 : decode prog_1_method_54_code 31 = .ok (.istore_n 2, 1) := by decide +kernel
theorem dS_entersFirst_32 : decode prog_1_method_54_code 32 = .ok (.iload_n 2, 1) := by decide +kernel
theorem dS_entersFirst_33 : decode prog_1_method_54_code 33 = .ok (.ifCond .eq 8, 3) := by decide +kernel
theorem dS_entersFirst_36 : decode prog_1_method_54_code 36 = .ok (.iload_n 2, 1) := by decide +kernel
theorem dS_entersFirst_37 : decode prog_1_method_54_code 37 = .ok (.iconst 1, 1) := by decide +kernel
theorem dS_entersFirst_38 : decode prog_1_method_54_code 38 = .ok (.if_icmp .ne 13, 3) := by decide +kernel
theorem dS_entersFirst_41 : decode prog_1_method_54_code 41 = .ok (.iload_n 2, 1) := by decide +kernel
theorem dS_entersFirst_42 : decode prog_1_method_54_code 42 = .ok (.ifCond .ne 7, 3) := by decide +kernel
theorem dS_entersFirst_45 : decode prog_1_method_54_code 45 = .ok (.iconst 1, 1) := by decide +kernel
theorem dS_entersFirst_46 : decode prog_1_method_54_code 46 = .ok (.goto 4, 3) := by decide +kernel
theorem dS_entersFirst_49 : decode prog_1_method_54_code 49 = .ok (.iconst 0, 1) := by decide +kernel
theorem dS_entersFirst_50 : decode prog_1_method_54_code 50 = .ok (.ireturn, 1) := by decide +kernel
theorem dS_entersFirst_51 : decode prog_1_method_54_code 51 = .ok (.iinc 1 1, 3) := by decide +kernel
theorem dS_entersFirst_54 : decode prog_1_method_54_code 54 = .ok (.goto (-52), 3) := by decide +kernel
theorem dS_entersFirst_57 : decode prog_1_method_54_code 57 = .ok (.iconst 0, 1) := by decide +kernel
theorem dS_entersFirst_58 : decode prog_1_method_54_code 58 = .ok (.ireturn, 1) := by decide +kernel
theorem dS_covers_0 : decode prog_1_method_57_code 0 = .ok (.iload_n 2, 1) := by decide +kernel
theorem dS_covers_1 : decode prog_1_method_57_code 1 = .ok (.iload_n 0, 1) := by decide +kernel
theorem dS_covers_2 : decode prog_1_method_57_code 2 = .ok (.if_icmp .lt 14, 3) := by decide +kernel
theorem dS_covers_5 : decode prog_1_method_57_code 5 = .ok (.iload_n 2, 1) := by decide +kernel
theorem dS_covers_6 : decode prog_1_method_57_code 6 = .ok (.iload_n 0, 1) := by decide +kernel
theorem dS_covers_7 : decode prog_1_method_57_code 7 = .ok (.iload_n 1, 1) := by decide +kernel
theorem dS_covers_8 : decode prog_1_method_57_code 8 = .ok (.iadd, 1) := by decide +kernel
theorem dS_covers_9 : decode prog_1_method_57_code 9 = .ok (.if_icmp .ge 7, 3) := by decide +kernel
theorem dS_covers_12 : decode prog_1_method_57_code 12 = .ok (.iconst 1, 1) := by decide +kernel
theorem dS_covers_13 : decode prog_1_method_57_code 13 = .ok (.goto 4, 3) := by decide +kernel
theorem dS_covers_16 : decode prog_1_method_57_code 16 = .ok (.iconst 0, 1) := by decide +kernel
theorem dS_covers_17 : decode prog_1_method_57_code 17 = .ok (.ireturn, 1) := by decide +kernel
theorem dS_blend_0 : decode prog_1_method_58_code 0 = .ok (.iconst 0, 1) := by decide +kernel
theorem dS_blend_1 : decode prog_1_method_58_code 1 = .ok (.istore_n 3, 1) := by decide +kernel
theorem dS_blend_2 : decode prog_1_method_58_code 2 = .ok (.bipush 16, 2) := by decide +kernel
theorem dS_blend_4 : decode prog_1_method_58_code 4 = .ok (.istore 4, 2) := by decide +kernel
theorem dS_blend_6 : decode prog_1_method_58_code 6 = .ok (.iload 4, 2) := by decide +kernel
theorem dS_blend_8 : decode prog_1_method_58_code 8 = .ok (.ifCond .lt 55, 3) := by decide +kernel
theorem dS_blend_11 : decode prog_1_method_58_code 11 = .ok (.iload_n 0, 1) := by decide +kernel
theorem dS_blend_12 : decode prog_1_method_58_code 12 = .ok (.iload 4, 2) := by decide +kernel
theorem dS_blend_14 : decode prog_1_method_58_code 14 = .ok (.ishr, 1) := by decide +kernel
theorem dS_blend_15 : decode prog_1_method_58_code 15 = .ok (.sipush 255, 3) := by decide +kernel
theorem dS_blend_18 : decode prog_1_method_58_code 18 = .ok (.iand, 1) := by decide +kernel
theorem dS_blend_19 : decode prog_1_method_58_code 19 = .ok (.istore 5, 2) := by decide +kernel
theorem dS_blend_21 : decode prog_1_method_58_code 21 = .ok (.iload_n 1, 1) := by decide +kernel
theorem dS_blend_22 : decode prog_1_method_58_code 22 = .ok (.iload 4, 2) := by decide +kernel
theorem dS_blend_24 : decode prog_1_method_58_code 24 = .ok (.ishr, 1) := by decide +kernel
theorem dS_blend_25 : decode prog_1_method_58_code 25 = .ok (.sipush 255, 3) := by decide +kernel
theorem dS_blend_28 : decode prog_1_method_58_code 28 = .ok (.iand, 1) := by decide +kernel
theorem dS_blend_29 : decode prog_1_method_58_code 29 = .ok (.istore 6, 2) := by decide +kernel
theorem dS_blend_31 : decode prog_1_method_58_code 31 = .ok (.iload_n 3, 1) := by decide +kernel
theorem dS_blend_32 : decode prog_1_method_58_code 32 = .ok (.iload 5, 2) := by decide +kernel
theorem dS_blend_34 : decode prog_1_method_58_code 34 = .ok (.iload_n 2, 1) := by decide +kernel
theorem dS_blend_35 : decode prog_1_method_58_code 35 = .ok (.imul, 1) := by decide +kernel
theorem dS_blend_36 : decode prog_1_method_58_code 36 = .ok (.iload 6, 2) := by decide +kernel
theorem dS_blend_38 : decode prog_1_method_58_code 38 = .ok (.sipush 255, 3) := by decide +kernel
theorem dS_blend_41 : decode prog_1_method_58_code 41 = .ok (.iload_n 2, 1) := by decide +kernel
theorem dS_blend_42 : decode prog_1_method_58_code 42 = .ok (.isub, 1) := by decide +kernel
theorem dS_blend_43 : decode prog_1_method_58_code 43 = .ok (.imul, 1) := by decide +kernel
theorem dS_blend_44 : decode prog_1_method_58_code 44 = .ok (.iadd, 1) := by decide +kernel
theorem dS_blend_45 : decode prog_1_method_58_code 45 = .ok (.bipush 127, 2) := by decide +kernel
theorem dS_blend_47 : decode prog_1_method_58_code 47 = .ok (.iadd, 1) := by decide +kernel
theorem dS_blend_48 : decode prog_1_method_58_code 48 = .ok (.sipush 255, 3) := by decide +kernel
theorem dS_blend_51 : decode prog_1_method_58_code 51 = .ok (.idiv, 1) := by decide +kernel
theorem dS_blend_52 : decode prog_1_method_58_code 52 = .ok (.iload 4, 2) := by decide +kernel
theorem dS_blend_54 : decode prog_1_method_58_code 54 = .ok (.ishl, 1) := by decide +kernel
theorem dS_blend_55 : decode prog_1_method_58_code 55 = .ok (.ior, 1) := by decide +kernel
theorem dS_blend_56 : decode prog_1_method_58_code 56 = .ok (.istore_n 3, 1) := by decide +kernel
theorem dS_blend_57 : decode prog_1_method_58_code 57 = .ok (.iinc 4 (-8), 3) := by decide +kernel
theorem dS_blend_60 : decode prog_1_method_58_code 60 = .ok (.goto (-54), 3) := by decide +kernel
theorem dS_blend_63 : decode prog_1_method_58_code 63 = .ok (.iload_n 3, 1) := by decide +kernel
theorem dS_blend_64 : decode prog_1_method_58_code 64 = .ok (.ireturn, 1) := by decide +kernel
theorem dS_page_0 : decode prog_1_method_2_code 0 = .ok (.iload_n 1, 1) := by decide +kernel
theorem dS_page_1 : decode prog_1_method_2_code 1 = .ok (.iconst 0, 1) := by decide +kernel
theorem dS_page_2 : decode prog_1_method_2_code 2 = .ok (.iconst 2, 1) := by decide +kernel
theorem dS_page_3 : decode prog_1_method_2_code 3 = .ok (.invokestatic 47, 3) := by decide +kernel
theorem dS_page_6 : decode prog_1_method_2_code 6 = .ok (.ifCond .ne 13, 3) := by decide +kernel
theorem dS_page_9 : decode prog_1_method_2_code 9 = .ok (.new 51, 3) := by decide +kernel
theorem dS_page_12 : decode prog_1_method_2_code 12 = .ok (.dup, 1) := by decide +kernel
theorem dS_page_13 : decode prog_1_method_2_code 13 = .ok (.ldc 53, 2) := by decide +kernel
theorem dS_page_15 : decode prog_1_method_2_code 15 = .ok (.invokespecial 55, 3) := by decide +kernel
theorem dS_page_18 : decode prog_1_method_2_code 18 = .ok (.athrow, 1) := by decide +kernel
theorem dS_page_19 : decode prog_1_method_2_code 19 = .ok (.aload_n 0, 1) := by decide +kernel
theorem dS_page_20 : decode prog_1_method_2_code 20 = .ok (.iload_n 2, 1) := by decide +kernel
theorem dS_page_21 : decode prog_1_method_2_code 21 = .ok (.invokevirtual 58, 3) := by decide +kernel
theorem dS_page_24 : decode prog_1_method_2_code 24 = .ok (.astore_n 3, 1) := by decide +kernel
theorem dS_page_25 : decode prog_1_method_2_code 25 = .ok (.iload_n 1, 1) := by decide +kernel
theorem dS_page_26 : decode prog_1_method_2_code 26 = .ok (.ifCond .ne 11, 3) := by decide +kernel
theorem dS_page_29 : decode prog_1_method_2_code 29 = .ok (.iload_n 2, 1) := by decide +kernel
theorem dS_page_30 : decode prog_1_method_2_code 30 = .ok (.iconst (-1), 1) := by decide +kernel
theorem dS_page_31 : decode prog_1_method_2_code 31 = .ok (.if_icmp .eq 26, 3) := by decide +kernel
theorem dS_page_34 : decode prog_1_method_2_code 34 = .ok (.goto 13, 3) := by decide +kernel
theorem dS_page_37 : decode prog_1_method_2_code 37 = .ok (.aload_n 3, 1) := by decide +kernel
theorem dS_page_38 : decode prog_1_method_2_code 38 = .ok (.iload_n 1, 1) := by decide +kernel
theorem dS_page_39 : decode prog_1_method_2_code 39 = .ok (.iconst 1, 1) := by decide +kernel
theorem dS_page_40 : decode prog_1_method_2_code 40 = .ok (.isub, 1) := by decide +kernel
theorem dS_page_41 : decode prog_1_method_2_code 41 = .ok (.invokestatic 62, 3) := by decide +kernel
theorem dS_page_44 : decode prog_1_method_2_code 44 = .ok (.ifCond .ne 13, 3) := by decide +kernel
theorem dS_page_47 : decode prog_1_method_2_code 47 = .ok (.new 66, 3) := by decide +kernel
theorem dS_page_50 : decode prog_1_method_2_code 50 = .ok (.dup, 1) := by decide +kernel
theorem dS_page_51 : decode prog_1_method_2_code 51 = .ok (.ldc 68, 2) := by decide +kernel
theorem dS_page_53 : decode prog_1_method_2_code 53 = .ok (.invokespecial 70, 3) := by decide +kernel
theorem dS_page_56 : decode prog_1_method_2_code 56 = .ok (.athrow, 1) := by decide +kernel
theorem dS_page_57 : decode prog_1_method_2_code 57 = .ok (.aload_n 0, 1) := by decide +kernel
theorem dS_page_58 : decode prog_1_method_2_code 58 = .ok (.getfield 17, 3) := by decide +kernel
theorem dS_page_61 : decode prog_1_method_2_code 61 = .ok (.invokeinterface 71 1, 5) := by decide +kernel
theorem dS_page_66 : decode prog_1_method_2_code 66 = .ok (.bipush 12, 2) := by decide +kernel
theorem dS_page_68 : decode prog_1_method_2_code 68 = .ok (.if_icmp .lt 13, 3) := by decide +kernel
theorem dS_page_71 : decode prog_1_method_2_code 71 = .ok (.new 77, 3) := by decide +kernel
theorem dS_page_74 : decode prog_1_method_2_code 74 = .ok (.dup, 1) := by decide +kernel
theorem dS_page_75 : decode prog_1_method_2_code 75 = .ok (.ldc 79, 2) := by decide +kernel
theorem dS_page_77 : decode prog_1_method_2_code 77 = .ok (.invokespecial 81, 3) := by decide +kernel
theorem dS_page_80 : decode prog_1_method_2_code 80 = .ok (.athrow, 1) := by decide +kernel
theorem dS_page_81 : decode prog_1_method_2_code 81 = .ok (.new 82, 3) := by decide +kernel
theorem dS_page_84 : decode prog_1_method_2_code 84 = .ok (.dup, 1) := by decide +kernel
theorem dS_page_85 : decode prog_1_method_2_code 85 = .ok (.iload_n 1, 1) := by decide +kernel
theorem dS_page_86 : decode prog_1_method_2_code 86 = .ok (.aload_n 3, 1) := by decide +kernel
theorem dS_page_87 : decode prog_1_method_2_code 87 = .ok (.invokespecial 84, 3) := by decide +kernel
theorem dS_page_90 : decode prog_1_method_2_code 90 = .ok (.astore 4, 2) := by decide +kernel
theorem dS_page_92 : decode prog_1_method_2_code 92 = .ok (.aload_n 0, 1) := by decide +kernel
theorem dS_page_93 : decode prog_1_method_2_code 93 = .ok (.getfield 17, 3) := by decide +kernel
theorem dS_page_96 : decode prog_1_method_2_code 96 = .ok (.aload 4, 2) := by decide +kernel
theorem dS_page_98 : decode prog_1_method_2_code 98 = .ok (.invokeinterface 87 2, 5) := by decide +kernel
theorem dS_page_103 : decode prog_1_method_2_code 103 = .ok (.pop, 1) := by decide +kernel
theorem dS_page_104 : decode prog_1_method_2_code 104 = .ok (.iload_n 1, 1) := by decide +kernel
theorem dS_page_105 : decode prog_1_method_2_code 105 = .ok (.iconst 2, 1) := by decide +kernel
theorem dS_page_106 : decode prog_1_method_2_code 106 = .ok (.if_icmp .ne 9, 3) := by decide +kernel
theorem dS_page_109 : decode prog_1_method_2_code 109 = .ok (.aload_n 0, 1) := by decide +kernel
theorem dS_page_110 : decode prog_1_method_2_code 110 = .ok (.aload 4, 2) := by decide +kernel
theorem dS_page_112 : decode prog_1_method_2_code 112 = .ok (.invokevirtual 91, 3) := by decide +kernel
theorem dS_page_115 : decode prog_1_method_2_code 115 = .ok (.aload_n 0, 1) := by decide +kernel
theorem dS_page_116 : decode prog_1_method_2_code 116 = .ok (.getfield 17, 3) := by decide +kernel
theorem dS_page_119 : decode prog_1_method_2_code 119 = .ok (.invokeinterface 71 1, 5) := by decide +kernel
theorem dS_page_124 : decode prog_1_method_2_code 124 = .ok (.iconst 1, 1) := by decide +kernel
theorem dS_page_125 : decode prog_1_method_2_code 125 = .ok (.isub, 1) := by decide +kernel
theorem dS_page_126 : decode prog_1_method_2_code 126 = .ok (.ireturn, 1) := by decide +kernel
theorem dS_findPage_0 : decode prog_1_method_30_code 0 = .ok (.iload_n 1, 1) := by decide +kernel
theorem dS_findPage_1 : decode prog_1_method_30_code 1 = .ok (.ifCond .lt 32, 3) := by decide +kernel
theorem dS_findPage_4 : decode prog_1_method_30_code 4 = .ok (.iload_n 1, 1) := by decide +kernel
theorem dS_findPage_5 : decode prog_1_method_30_code 5 = .ok (.aload_n 0, 1) := by decide +kernel
theorem dS_findPage_6 : decode prog_1_method_30_code 6 = .ok (.getfield 17, 3) := by decide +kernel
theorem dS_findPage_9 : decode prog_1_method_30_code 9 = .ok (.invokeinterface 71 1, 5) := by decide +kernel
theorem dS_findPage_14 : decode prog_1_method_30_code 14 = .ok (.if_icmp .ge 19, 3) := by decide +kernel
theorem dS_findPage_17 : decode prog_1_method_30_code 17 = .ok (.aload_n 0, 1) := by decide +kernel
theorem dS_findPage_18 : decode prog_1_method_30_code 18 = .ok (.getfield 17, 3) := by decide +kernel
theorem dS_findPage_21 : decode prog_1_method_30_code 21 = .ok (.iload_n 1, 1) := by decide +kernel
theorem dS_findPage_22 : decode prog_1_method_30_code 22 = .ok (.invokeinterface 195 2, 5) := by decide +kernel
theorem dS_findPage_27 : decode prog_1_method_30_code 27 = .ok (.checkcast 82, 3) := by decide +kernel
theorem dS_findPage_30 : decode prog_1_method_30_code 30 = .ok (.goto 4, 3) := by decide +kernel
theorem dS_findPage_33 : decode prog_1_method_30_code 33 = .ok (.aconst_null, 1) := by decide +kernel
theorem dS_findPage_34 : decode prog_1_method_30_code 34 = .ok (.areturn, 1) := by decide +kernel
theorem dS_isOfKind_0 : decode prog_1_method_31_code 0 = .ok (.aload_n 0, 1) := by decide +kernel
theorem dS_isOfKind_1 : decode prog_1_method_31_code 1 = .ok (.ifnull 15, 3) := by decide +kernel
theorem dS_isOfKind_4 : decode prog_1_method_31_code 4 = .ok (.aload_n 0, 1) := by decide +kernel
theorem dS_isOfKind_5 : decode prog_1_method_31_code 5 = .ok (.getfield 206, 3) := by decide +kernel
theorem dS_isOfKind_8 : decode prog_1_method_31_code 8 = .ok (.iload_n 1, 1) := by decide +kernel
theorem dS_isOfKind_9 : decode prog_1_method_31_code 9 = .ok (.if_icmp .ne 7, 3) := by decide +kernel
theorem dS_isOfKind_12 : decode prog_1_method_31_code 12 = .ok (.iconst 1, 1) := by decide +kernel
theorem dS_isOfKind_13 : decode prog_1_method_31_code 13 = .ok (.goto 4, 3) := by decide +kernel
theorem dS_isOfKind_16 : decode prog_1_method_31_code 16 = .ok (.iconst 0, 1) := by decide +kernel
theorem dS_isOfKind_17 : decode prog_1_method_31_code 17 = .ok (.ireturn, 1) := by decide +kernel
theorem dP_init_0 : decode prog_4_method_1_code 0 = .ok (.aload_n 0, 1) := by decide +kernel
theorem dP_init_1 : decode prog_4_method_1_code 1 = .ok (.invokespecial 1, 3) := by decide +kernel
theorem dP_init_4 : decode prog_4_method_1_code 4 = .ok (.aload_n 0, 1) := by decide +kernel
theorem dP_init_5 : decode prog_4_method_1_code 5 = .ok (.new 7, 3) := by decide +kernel
theorem dP_init_8 : decode prog_4_method_1_code 8 = .ok (.dup, 1) := by decide +kernel
theorem dP_init_9 : decode prog_4_method_1_code 9 = .ok (.invokespecial 9, 3) := by decide +kernel
theorem dP_init_12 : decode prog_4_method_1_code 12 = .ok (.putfield 10, 3) := by decide +kernel
theorem dP_init_15 : decode prog_4_method_1_code 15 = .ok (.aload_n 0, 1) := by decide +kernel
theorem dP_init_16 : decode prog_4_method_1_code 16 = .ok (.new 7, 3) := by decide +kernel
theorem dP_init_19 : decode prog_4_method_1_code 19 = .ok (.dup, 1) := by decide +kernel
theorem dP_init_20 : decode prog_4_method_1_code 20 = .ok (.invokespecial 9, 3) := by decide +kernel
theorem dP_init_23 : decode prog_4_method_1_code 23 = .ok (.putfield 16, 3) := by decide +kernel
theorem dP_init_26 : decode prog_4_method_1_code 26 = .ok (.aload_n 0, 1) := by decide +kernel
theorem dP_init_27 : decode prog_4_method_1_code 27 = .ok (.iload_n 1, 1) := by decide +kernel
theorem dP_init_28 : decode prog_4_method_1_code 28 = .ok (.putfield 19, 3) := by decide +kernel
theorem dP_init_31 : decode prog_4_method_1_code 31 = .ok (.aload_n 0, 1) := by decide +kernel
theorem dP_init_32 : decode prog_4_method_1_code 32 = .ok (.aload_n 2, 1) := by decide +kernel
theorem dP_init_33 : decode prog_4_method_1_code 33 = .ok (.putfield 23, 3) := by decide +kernel
theorem dP_init_36 : decode prog_4_method_1_code 36 = .ok (.return_, 1) := by decide +kernel
theorem dS_addSlide_0 : decode prog_1_method_32_code 0 = .ok (.aload_n 0, 1) := by decide +kernel
theorem dS_addSlide_1 : decode prog_1_method_32_code 1 = .ok (.getfield 21, 3) := by decide +kernel
theorem dS_addSlide_4 : decode prog_1_method_32_code 4 = .ok (.aload_n 1, 1) := by decide +kernel
theorem dS_addSlide_5 : decode prog_1_method_32_code 5 = .ok (.invokeinterface 87 2, 5) := by decide +kernel
theorem dS_addSlide_10 : decode prog_1_method_32_code 10 = .ok (.pop, 1) := by decide +kernel
theorem dS_addSlide_11 : decode prog_1_method_32_code 11 = .ok (.aload_n 0, 1) := by decide +kernel
theorem dS_addSlide_12 : decode prog_1_method_32_code 12 = .ok (.getfield 37, 3) := by decide +kernel
theorem dS_addSlide_15 : decode prog_1_method_32_code 15 = .ok (.iconst (-1), 1) := by decide +kernel
theorem dS_addSlide_16 : decode prog_1_method_32_code 16 = .ok (.if_icmp .ne 8, 3) := by decide +kernel
theorem dS_addSlide_19 : decode prog_1_method_32_code 19 = .ok (.aload_n 0, 1) := by decide +kernel
theorem dS_addSlide_20 : decode prog_1_method_32_code 20 = .ok (.iconst 0, 1) := by decide +kernel
theorem dS_addSlide_21 : decode prog_1_method_32_code 21 = .ok (.putfield 37, 3) := by decide +kernel
theorem dS_addSlide_24 : decode prog_1_method_32_code 24 = .ok (.return_, 1) := by decide +kernel
theorem dS_shape_0 : decode prog_1_method_3_code 0 = .ok (.aload_n 0, 1) := by decide +kernel
theorem dS_shape_1 : decode prog_1_method_3_code 1 = .ok (.iload_n 1, 1) := by decide +kernel
theorem dS_shape_2 : decode prog_1_method_3_code 2 = .ok (.invokevirtual 58, 3) := by decide +kernel
theorem dS_shape_5 : decode prog_1_method_3_code 5 = .ok (.astore_n 3, 1) := by decide +kernel
theorem dS_shape_6 : decode prog_1_method_3_code 6 = .ok (.aload_n 3, 1) := by decide +kernel
theorem dS_shape_7 : decode prog_1_method_3_code 7 = .ok (.ifnonnull 13, 3) := by decide +kernel
theorem dS_shape_10 : decode prog_1_method_3_code 10 = .ok (.new 66, 3) := by decide +kernel
theorem dS_shape_13 : decode prog_1_method_3_code 13 = .ok (.dup, 1) := by decide +kernel
theorem dS_shape_14 : decode prog_1_method_3_code 14 = .ok (.ldc 95, 2) := by decide +kernel
theorem dS_shape_16 : decode prog_1_method_3_code 16 = .ok (.invokespecial 70, 3) := by decide +kernel
theorem dS_shape_19 : decode prog_1_method_3_code 19 = .ok (.athrow, 1) := by decide +kernel
theorem dS_shape_20 : decode prog_1_method_3_code 20 = .ok (.iload_n 2, 1) := by decide +kernel
theorem dS_shape_21 : decode prog_1_method_3_code 21 = .ok (.iconst (-1), 1) := by decide +kernel
theorem dS_shape_22 : decode prog_1_method_3_code 22 = .ok (.bipush 7, 2) := by decide +kernel
theorem dS_shape_24 : decode prog_1_method_3_code 24 = .ok (.invokestatic 47, 3) := by decide +kernel
theorem dS_shape_27 : decode prog_1_method_3_code 27 = .ok (.ifCond .ne 13, 3) := by decide +kernel
theorem dS_shape_30 : decode prog_1_method_3_code 30 = .ok (.new 51, 3) := by decide +kernel
theorem dS_shape_33 : decode prog_1_method_3_code 33 = .ok (.dup, 1) := by decide +kernel
theorem dS_shape_34 : decode prog_1_method_3_code 34 = .ok (.ldc 97, 2) := by decide +kernel
theorem dS_shape_36 : decode prog_1_method_3_code 36 = .ok (.invokespecial 55, 3) := by decide +kernel
theorem dS_shape_39 : decode prog_1_method_3_code 39 = .ok (.athrow, 1) := by decide +kernel
theorem dS_shape_40 : decode prog_1_method_3_code 40 = .ok (.aload_n 3, 1) := by decide +kernel
theorem dS_shape_41 : decode prog_1_method_3_code 41 = .ok (.iload_n 2, 1) := by decide +kernel
theorem dS_shape_42 : decode prog_1_method_3_code 42 = .ok (.invokestatic 99, 3) := by decide +kernel
theorem dS_shape_45 : decode prog_1_method_3_code 45 = .ok (.ifnull 13, 3) := by decide +kernel
theorem dS_shape_48 : decode prog_1_method_3_code 48 = .ok (.new 77, 3) := by decide +kernel
theorem dS_shape_51 : decode prog_1_method_3_code 51 = .ok (.dup, 1) := by decide +kernel
theorem dS_shape_52 : decode prog_1_method_3_code 52 = .ok (.ldc 103, 2) := by decide +kernel
theorem dS_shape_54 : decode prog_1_method_3_code 54 = .ok (.invokespecial 81, 3) := by decide +kernel
theorem dS_shape_57 : decode prog_1_method_3_code 57 = .ok (.athrow, 1) := by decide +kernel
theorem dS_shape_58 : decode prog_1_method_3_code 58 = .ok (.aload_n 0, 1) := by decide +kernel
theorem dS_shape_59 : decode prog_1_method_3_code 59 = .ok (.getfield 24, 3) := by decide +kernel
theorem dS_shape_62 : decode prog_1_method_3_code 62 = .ok (.invokeinterface 71 1, 5) := by decide +kernel
theorem dS_shape_67 : decode prog_1_method_3_code 67 = .ok (.bipush 24, 2) := by decide +kernel
theorem dS_shape_69 : decode prog_1_method_3_code 69 = .ok (.if_icmp .lt 13, 3) := by decide +kernel
theorem dS_shape_72 : decode prog_1_method_3_code 72 = .ok (.new 105, 3) := by decide +kernel
theorem dS_shape_75 : decode prog_1_method_3_code 75 = .ok (.dup, 1) := by decide +kernel
theorem dS_shape_76 : decode prog_1_method_3_code 76 = .ok (.ldc 107, 2) := by decide +kernel
theorem dS_shape_78 : decode prog_1_method_3_code 78 = .ok (.invokespecial 109, 3) := by decide +kernel
theorem dS_shape_81 : decode prog_1_method_3_code 81 = .ok (.athrow, 1) := by decide +kernel
theorem dS_shape_82 : decode prog_1_method_3_code 82 = .ok (.new 110, 3) := by decide +kernel
theorem dS_shape_85 : decode prog_1_method_3_code 85 = .ok (.dup, 1) := by decide +kernel
theorem dS_shape_86 : decode prog_1_method_3_code 86 = .ok (.aload_n 0, 1) := by decide +kernel
theorem dS_shape_87 : decode prog_1_method_3_code 87 = .ok (.getfield 24, 3) := by decide +kernel
theorem dS_shape_90 : decode prog_1_method_3_code 90 = .ok (.invokeinterface 71 1, 5) := by decide +kernel
theorem dS_shape_95 : decode prog_1_method_3_code 95 = .ok (.aload_n 3, 1) := by decide +kernel
theorem dS_shape_96 : decode prog_1_method_3_code 96 = .ok (.iload_n 2, 1) := by decide +kernel
theorem dS_shape_97 : decode prog_1_method_3_code 97 = .ok (.invokespecial 112, 3) := by decide +kernel
theorem dS_shape_100 : decode prog_1_method_3_code 100 = .ok (.astore 4, 2) := by decide +kernel
theorem dS_shape_102 : decode prog_1_method_3_code 102 = .ok (.aload_n 0, 1) := by decide +kernel
theorem dS_shape_103 : decode prog_1_method_3_code 103 = .ok (.getfield 24, 3) := by decide +kernel
theorem dS_shape_106 : decode prog_1_method_3_code 106 = .ok (.aload 4, 2) := by decide +kernel
theorem dS_shape_108 : decode prog_1_method_3_code 108 = .ok (.invokeinterface 87 2, 5) := by decide +kernel
theorem dS_shape_113 : decode prog_1_method_3_code 113 = .ok (.pop, 1) := by decide +kernel
theorem dS_shape_114 : decode prog_1_method_3_code 114 = .ok (.aload_n 3, 1) := by decide +kernel
theorem dS_shape_115 : decode prog_1_method_3_code 115 = .ok (.getfield 115, 3) := by decide +kernel
theorem dS_shape_118 : decode prog_1_method_3_code 118 = .ok (.aload 4, 2) := by decide +kernel
theorem dS_shape_120 : decode prog_1_method_3_code 120 = .ok (.invokeinterface 87 2, 5) := by decide +kernel
theorem dS_shape_125 : decode prog_1_method_3_code 125 = .ok (.pop, 1) := by decide +kernel
theorem dS_shape_126 : decode prog_1_method_3_code 126 = .ok (.aload 4, 2) := by decide +kernel
theorem dS_shape_128 : decode prog_1_method_3_code 128 = .ok (.getfield 116, 3) := by decide +kernel
theorem dS_shape_131 : decode prog_1_method_3_code 131 = .ok (.ireturn, 1) := by decide +kernel
theorem dH_init_0 : decode prog_6_method_1_code 0 = .ok (.aload_n 0, 1) := by decide +kernel
theorem dH_init_1 : decode prog_6_method_1_code 1 = .ok (.invokespecial 3, 3) := by decide +kernel
theorem dH_init_4 : decode prog_6_method_1_code 4 = .ok (.aload_n 0, 1) := by decide +kernel
theorem dH_init_5 : decode prog_6_method_1_code 5 = .ok (.bipush 7, 2) := by decide +kernel
theorem dH_init_7 : decode prog_6_method_1_code 7 = .ok (.newarray .boolean, 2) := by decide +kernel
theorem dH_init_9 : decode prog_6_method_1_code 9 = .ok (.putfield 9, 3) := by decide +kernel
theorem dH_init_12 : decode prog_6_method_1_code 12 = .ok (.aload_n 0, 1) := by decide +kernel
theorem dH_init_13 : decode prog_6_method_1_code 13 = .ok (.bipush 7, 2) := by decide +kernel
theorem dH_init_15 : decode prog_6_method_1_code 15 = .ok (.newarray .int, 2) := by decide +kernel
theorem dH_init_17 : decode prog_6_method_1_code 17 = .ok (.putfield 15, 3) := by decide +kernel
theorem dH_init_20 : decode prog_6_method_1_code 20 = .ok (.aload_n 0, 1) := by decide +kernel
theorem dH_init_21 : decode prog_6_method_1_code 21 = .ok (.new 19, 3) := by decide +kernel
theorem dH_init_24 : decode prog_6_method_1_code 24 = .ok (.dup, 1) := by decide +kernel
theorem dH_init_25 : decode prog_6_method_1_code 25 = .ok (.invokespecial 21, 3) := by decide +kernel
theorem dH_init_28 : decode prog_6_method_1_code 28 = .ok (.putfield 22, 3) := by decide +kernel
theorem dH_init_31 : decode prog_6_method_1_code 31 = .ok (.aload_n 0, 1) := by decide +kernel
theorem dH_init_32 : decode prog_6_method_1_code 32 = .ok (.new 19, 3) := by decide +kernel
theorem dH_init_35 : decode prog_6_method_1_code 35 = .ok (.dup, 1) := by decide +kernel
theorem dH_init_36 : decode prog_6_method_1_code 36 = .ok (.invokespecial 21, 3) := by decide +kernel
theorem dH_init_39 : decode prog_6_method_1_code 39 = .ok (.putfield 26, 3) := by decide +kernel
theorem dH_init_42 : decode prog_6_method_1_code 42 = .ok (.aload_n 0, 1) := by decide +kernel
theorem dH_init_43 : decode prog_6_method_1_code 43 = .ok (.iload_n 1, 1) := by decide +kernel
theorem dH_init_44 : decode prog_6_method_1_code 44 = .ok (.putfield 29, 3) := by decide +kernel
theorem dH_init_47 : decode prog_6_method_1_code 47 = .ok (.aload_n 0, 1) := by decide +kernel
theorem dH_init_48 : decode prog_6_method_1_code 48 = .ok (.aload_n 2, 1) := by decide +kernel
theorem dH_init_49 : decode prog_6_method_1_code 49 = .ok (.putfield 33, 3) := by decide +kernel
theorem dH_init_52 : decode prog_6_method_1_code 52 = .ok (.aload_n 0, 1) := by decide +kernel
theorem dH_init_53 : decode prog_6_method_1_code 53 = .ok (.iload_n 3, 1) := by decide +kernel
theorem dH_init_54 : decode prog_6_method_1_code 54 = .ok (.putfield 37, 3) := by decide +kernel
theorem dH_init_57 : decode prog_6_method_1_code 57 = .ok (.return_, 1) := by decide +kernel
theorem dS_theme_0 : decode prog_1_method_4_code 0 = .ok (.iload_n 1, 1) := by decide +kernel
theorem dS_theme_1 : decode prog_1_method_4_code 1 = .ok (.iload_n 2, 1) := by decide +kernel
theorem dS_theme_2 : decode prog_1_method_4_code 2 = .ok (.invokestatic 119, 3) := by decide +kernel
theorem dS_theme_5 : decode prog_1_method_4_code 5 = .ok (.aload_n 0, 1) := by decide +kernel
theorem dS_theme_6 : decode prog_1_method_4_code 6 = .ok (.getfield 10, 3) := by decide +kernel
theorem dS_theme_9 : decode prog_1_method_4_code 9 = .ok (.iload_n 1, 1) := by decide +kernel
theorem dS_theme_10 : decode prog_1_method_4_code 10 = .ok (.iload_n 2, 1) := by decide +kernel
theorem dS_theme_11 : decode prog_1_method_4_code 11 = .ok (.iastore, 1) := by decide +kernel
theorem dS_theme_12 : decode prog_1_method_4_code 12 = .ok (.return_, 1) := by decide +kernel
theorem dS_checkValue_0 : decode prog_1_method_27_code 0 = .ok (.iload_n 0, 1) := by decide +kernel
theorem dS_checkValue_1 : decode prog_1_method_27_code 1 = .ok (.invokestatic 134, 3) := by decide +kernel
theorem dS_checkValue_4 : decode prog_1_method_27_code 4 = .ok (.iload_n 1, 1) := by decide +kernel
theorem dS_checkValue_5 : decode prog_1_method_27_code 5 = .ok (.getstatic 303, 3) := by decide +kernel
theorem dS_checkValue_8 : decode prog_1_method_27_code 8 = .ok (.iload_n 0, 1) := by decide +kernel
theorem dS_checkValue_9 : decode prog_1_method_27_code 9 = .ok (.iaload, 1) := by decide +kernel
theorem dS_checkValue_10 : decode prog_1_method_27_code 10 = .ok (.getstatic 306, 3) := by decide +kernel
theorem dS_checkValue_13 : decode prog_1_method_27_code 13 = .ok (.iload_n 0, 1) := by decide +kernel
theorem dS_checkValue_14 : decode prog_1_method_27_code 14 = .ok (.iaload, 1) := by decide +kernel
theorem dS_checkValue_15 : decode prog_1_method_27_code 15 = .ok (.invokestatic 47, 3) := by decide +kernel
theorem dS_checkValue_18 : decode prog_1_method_27_code 18 = .ok (.ifCond .ne 14, 3) := by decide +kernel
theorem dS_checkValue_21 : decode prog_1_method_27_code 21 = .ok (.new 51, 3) := by decide +kernel
theorem dS_checkValue_24 : decode prog_1_method_27_code 24 = .ok (.dup, 1) := by decide +kernel
theorem dS_checkValue_25 : decode prog_1_method_27_code 25 = .ok (.ldc_w 309, 3) := by decide +kernel
theorem dS_checkValue_28 : decode prog_1_method_27_code 28 = .ok (.invokespecial 55, 3) := by decide +kernel
theorem dS_checkValue_31 : decode prog_1_method_27_code 31 = .ok (.athrow, 1) := by decide +kernel
theorem dS_checkValue_32 : decode prog_1_method_27_code 32 = .ok (.return_, 1) := by decide +kernel
theorem dS_checkProperty_0 : decode prog_1_method_26_code 0 = .ok (.iload_n 0, 1) := by decide +kernel
theorem dS_checkProperty_1 : decode prog_1_method_26_code 1 = .ok (.iconst 0, 1) := by decide +kernel
theorem dS_checkProperty_2 : decode prog_1_method_26_code 2 = .ok (.bipush 6, 2) := by decide +kernel
theorem dS_checkProperty_4 : decode prog_1_method_26_code 4 = .ok (.invokestatic 47, 3) := by decide +kernel
theorem dS_checkProperty_7 : decode prog_1_method_26_code 7 = .ok (.ifCond .ne 14, 3) := by decide +kernel
theorem dS_checkProperty_10 : decode prog_1_method_26_code 10 = .ok (.new 51, 3) := by decide +kernel
theorem dS_checkProperty_13 : decode prog_1_method_26_code 13 = .ok (.dup, 1) := by decide +kernel
theorem dS_checkProperty_14 : decode prog_1_method_26_code 14 = .ok (.ldc_w 301, 3) := by decide +kernel
theorem dS_checkProperty_17 : decode prog_1_method_26_code 17 = .ok (.invokespecial 55, 3) := by decide +kernel
theorem dS_checkProperty_20 : decode prog_1_method_26_code 20 = .ok (.athrow, 1) := by decide +kernel
theorem dS_checkProperty_21 : decode prog_1_method_26_code 21 = .ok (.return_, 1) := by decide +kernel
theorem dS_set_0 : decode prog_1_method_5_code 0 = .ok (.aload_n 0, 1) := by decide +kernel
theorem dS_set_1 : decode prog_1_method_5_code 1 = .ok (.iload_n 1, 1) := by decide +kernel
theorem dS_set_2 : decode prog_1_method_5_code 2 = .ok (.invokevirtual 123, 3) := by decide +kernel
theorem dS_set_5 : decode prog_1_method_5_code 5 = .ok (.astore 4, 2) := by decide +kernel
theorem dS_set_7 : decode prog_1_method_5_code 7 = .ok (.iload_n 2, 1) := by decide +kernel
theorem dS_set_8 : decode prog_1_method_5_code 8 = .ok (.iload_n 3, 1) := by decide +kernel
theorem dS_set_9 : decode prog_1_method_5_code 9 = .ok (.invokestatic 119, 3) := by decide +kernel
theorem dS_set_12 : decode prog_1_method_5_code 12 = .ok (.aload 4, 2) := by decide +kernel
theorem dS_set_14 : decode prog_1_method_5_code 14 = .ok (.getfield 127, 3) := by decide +kernel
theorem dS_set_17 : decode prog_1_method_5_code 17 = .ok (.iload_n 2, 1) := by decide +kernel
theorem dS_set_18 : decode prog_1_method_5_code 18 = .ok (.iconst 1, 1) := by decide +kernel
theorem dS_set_19 : decode prog_1_method_5_code 19 = .ok (.bastore, 1) := by decide +kernel
theorem dS_set_20 : decode prog_1_method_5_code 20 = .ok (.aload 4, 2) := by decide +kernel
theorem dS_set_22 : decode prog_1_method_5_code 22 = .ok (.getfield 131, 3) := by decide +kernel
theorem dS_set_25 : decode prog_1_method_5_code 25 = .ok (.iload_n 2, 1) := by decide +kernel
theorem dS_set_26 : decode prog_1_method_5_code 26 = .ok (.iload_n 3, 1) := by decide +kernel
theorem dS_set_27 : decode prog_1_method_5_code 27 = .ok (.iastore, 1) := by decide +kernel
theorem dS_set_28 : decode prog_1_method_5_code 28 = .ok (.return_, 1) := by decide +kernel
theorem dS_findShape_0 : decode prog_1_method_28_code 0 = .ok (.iload_n 1, 1) := by decide +kernel
theorem dS_findShape_1 : decode prog_1_method_28_code 1 = .ok (.ifCond .lt 16, 3) := by decide +kernel
theorem dS_findShape_4 : decode prog_1_method_28_code 4 = .ok (.iload_n 1, 1) := by decide +kernel
theorem dS_findShape_5 : decode prog_1_method_28_code 5 = .ok (.aload_n 0, 1) := by decide +kernel
theorem dS_findShape_6 : decode prog_1_method_28_code 6 = .ok (.getfield 24, 3) := by decide +kernel
theorem dS_findShape_9 : decode prog_1_method_28_code 9 = .ok (.invokeinterface 71 1, 5) := by decide +kernel
theorem dS_findShape_14 : decode prog_1_method_28_code 14 = .ok (.if_icmp .lt 14, 3) := by decide +kernel
theorem dS_findShape_17 : decode prog_1_method_28_code 17 = .ok (.new 66, 3) := by decide +kernel
theorem dS_findShape_20 : decode prog_1_method_28_code 20 = .ok (.dup, 1) := by decide +kernel
theorem dS_findShape_21 : decode prog_1_method_28_code 21 = .ok (.ldc_w 311, 3) := by decide +kernel
theorem dS_findShape_24 : decode prog_1_method_28_code 24 = .ok (.invokespecial 70, 3) := by decide +kernel
theorem dS_findShape_27 : decode prog_1_method_28_code 27 = .ok (.athrow, 1) := by decide +kernel
theorem dS_findShape_28 : decode prog_1_method_28_code 28 = .ok (.aload_n 0, 1) := by decide +kernel
theorem dS_findShape_29 : decode prog_1_method_28_code 29 = .ok (.getfield 24, 3) := by decide +kernel
theorem dS_findShape_32 : decode prog_1_method_28_code 32 = .ok (.iload_n 1, 1) := by decide +kernel
theorem dS_findShape_33 : decode prog_1_method_28_code 33 = .ok (.invokeinterface 195 2, 5) := by decide +kernel
theorem dS_findShape_38 : decode prog_1_method_28_code 38 = .ok (.checkcast 110, 3) := by decide +kernel
theorem dS_findShape_41 : decode prog_1_method_28_code 41 = .ok (.areturn, 1) := by decide +kernel
theorem dS_unset_0 : decode prog_1_method_6_code 0 = .ok (.aload_n 0, 1) := by decide +kernel
theorem dS_unset_1 : decode prog_1_method_6_code 1 = .ok (.iload_n 1, 1) := by decide +kernel
theorem dS_unset_2 : decode prog_1_method_6_code 2 = .ok (.invokevirtual 123, 3) := by decide +kernel
theorem dS_unset_5 : decode prog_1_method_6_code 5 = .ok (.astore_n 3, 1) := by decide +kernel
theorem dS_unset_6 : decode prog_1_method_6_code 6 = .ok (.iload_n 2, 1) := by decide +kernel
theorem dS_unset_7 : decode prog_1_method_6_code 7 = .ok (.invokestatic 134, 3) := by decide +kernel
theorem dS_unset_10 : decode prog_1_method_6_code 10 = .ok (.aload_n 3, 1) := by decide +kernel
theorem dS_unset_11 : decode prog_1_method_6_code 11 = .ok (.getfield 127, 3) := by decide +kernel
theorem dS_unset_14 : decode prog_1_method_6_code 14 = .ok (.iload_n 2, 1) := by decide +kernel
theorem dS_unset_15 : decode prog_1_method_6_code 15 = .ok (.baload, 1) := by decide +kernel
theorem dS_unset_16 : decode prog_1_method_6_code 16 = .ok (.istore 4, 2) := by decide +kernel
theorem dS_unset_18 : decode prog_1_method_6_code 18 = .ok (.aload_n 3, 1) := by decide +kernel
theorem dS_unset_19 : decode prog_1_method_6_code 19 = .ok (.getfield 127, 3) := by decide +kernel
theorem dS_unset_22 : decode prog_1_method_6_code 22 = .ok (.iload_n 2, 1) := by decide +kernel
theorem dS_unset_23 : decode prog_1_method_6_code 23 = .ok (.iconst 0, 1) := by decide +kernel
theorem dS_unset_24 : decode prog_1_method_6_code 24 = .ok (.bastore, 1) := by decide +kernel
theorem dS_unset_25 : decode prog_1_method_6_code 25 = .ok (.iload 4, 2) := by decide +kernel
theorem dS_unset_27 : decode prog_1_method_6_code 27 = .ok (.ireturn, 1) := by decide +kernel
theorem dS_resolved_0 : decode prog_1_method_7_code 0 = .ok (.aload_n 0, 1) := by decide +kernel
theorem dS_resolved_1 : decode prog_1_method_7_code 1 = .ok (.iload_n 1, 1) := by decide +kernel
theorem dS_resolved_2 : decode prog_1_method_7_code 2 = .ok (.invokevirtual 123, 3) := by decide +kernel
theorem dS_resolved_5 : decode prog_1_method_7_code 5 = .ok (.astore_n 3, 1) := by decide +kernel
theorem dS_resolved_6 : decode prog_1_method_7_code 6 = .ok (.iload_n 2, 1) := by decide +kernel
theorem dS_resolved_7 : decode prog_1_method_7_code 7 = .ok (.invokestatic 134, 3) := by decide +kernel
theorem dS_resolved_10 : decode prog_1_method_7_code 10 = .ok (.aload_n 0, 1) := by decide +kernel
theorem dS_resolved_11 : decode prog_1_method_7_code 11 = .ok (.aload_n 3, 1) := by decide +kernel
theorem dS_resolved_12 : decode prog_1_method_7_code 12 = .ok (.iload_n 2, 1) := by decide +kernel
theorem dS_resolved_13 : decode prog_1_method_7_code 13 = .ok (.invokevirtual 138, 3) := by decide +kernel
theorem dS_resolved_16 : decode prog_1_method_7_code 16 = .ok (.ireturn, 1) := by decide +kernel
theorem dS_origin_0 : decode prog_1_method_8_code 0 = .ok (.aload_n 0, 1) := by decide +kernel
theorem dS_origin_1 : decode prog_1_method_8_code 1 = .ok (.iload_n 1, 1) := by decide +kernel
theorem dS_origin_2 : decode prog_1_method_8_code 2 = .ok (.invokevirtual 123, 3) := by decide +kernel
theorem dS_origin_5 : decode prog_1_method_8_code 5 = .ok (.astore_n 3, 1) := by decide +kernel
theorem dS_origin_6 : decode prog_1_method_8_code 6 = .ok (.iload_n 2, 1) := by decide +kernel
theorem dS_origin_7 : decode prog_1_method_8_code 7 = .ok (.invokestatic 134, 3) := by decide +kernel
theorem dS_origin_10 : decode prog_1_method_8_code 10 = .ok (.aload_n 3, 1) := by decide +kernel
theorem dS_origin_11 : decode prog_1_method_8_code 11 = .ok (.iload_n 2, 1) := by decide +kernel
theorem dS_origin_12 : decode prog_1_method_8_code 12 = .ok (.invokestatic 142, 3) := by decide +kernel
theorem dS_origin_15 : decode prog_1_method_8_code 15 = .ok (.invokestatic 146, 3) := by decide +kernel
theorem dS_origin_18 : decode prog_1_method_8_code 18 = .ok (.ireturn, 1) := by decide +kernel
theorem dS_indexOf_0 : decode prog_1_method_34_code 0 = .ok (.aload_n 0, 1) := by decide +kernel
theorem dS_indexOf_1 : decode prog_1_method_34_code 1 = .ok (.ifnonnull 7, 3) := by decide +kernel
theorem dS_indexOf_4 : decode prog_1_method_34_code 4 = .ok (.iconst (-1), 1) := by decide +kernel
theorem dS_indexOf_5 : decode prog_1_method_34_code 5 = .ok (.goto 7, 3) := by decide +kernel
theorem dS_indexOf_8 : decode prog_1_method_34_code 8 = .ok (.aload_n 0, 1) := by decide +kernel
theorem dS_indexOf_9 : decode prog_1_method_34_code 9 = .ok (.getfield 116, 3) := by decide +kernel
theorem dS_indexOf_12 : decode prog_1_method_34_code 12 = .ok (.ireturn, 1) := by decide +kernel
theorem dS_binding_0 : decode prog_1_method_9_code 0 = .ok (.aload_n 0, 1) := by decide +kernel
theorem dS_binding_1 : decode prog_1_method_9_code 1 = .ok (.iload_n 1, 1) := by decide +kernel
theorem dS_binding_2 : decode prog_1_method_9_code 2 = .ok (.invokevirtual 123, 3) := by decide +kernel
theorem dS_binding_5 : decode prog_1_method_9_code 5 = .ok (.astore_n 2, 1) := by decide +kernel
theorem dS_binding_6 : decode prog_1_method_9_code 6 = .ok (.aload_n 2, 1) := by decide +kernel
theorem dS_binding_7 : decode prog_1_method_9_code 7 = .ok (.getfield 150, 3) := by decide +kernel
theorem dS_binding_10 : decode prog_1_method_9_code 10 = .ok (.getfield 154, 3) := by decide +kernel
theorem dS_binding_13 : decode prog_1_method_9_code 13 = .ok (.aload_n 2, 1) := by decide +kernel
theorem dS_binding_14 : decode prog_1_method_9_code 14 = .ok (.getfield 157, 3) := by decide +kernel
theorem dS_binding_17 : decode prog_1_method_9_code 17 = .ok (.invokestatic 99, 3) := by decide +kernel
theorem dS_binding_20 : decode prog_1_method_9_code 20 = .ok (.invokestatic 146, 3) := by decide +kernel
theorem dS_binding_23 : decode prog_1_method_9_code 23 = .ok (.ireturn, 1) := by decide +kernel
theorem dS_write_0 : decode prog_1_method_10_code 0 = .ok (.aload_n 0, 1) := by decide +kernel
theorem dS_write_1 : decode prog_1_method_10_code 1 = .ok (.iload_n 1, 1) := by decide +kernel
theorem dS_write_2 : decode prog_1_method_10_code 2 = .ok (.invokevirtual 123, 3) := by decide +kernel
theorem dS_write_5 : decode prog_1_method_10_code 5 = .ok (.astore 4, 2) := by decide +kernel
theorem dS_write_7 : decode prog_1_method_10_code 7 = .ok (.iload_n 2, 1) := by decide +kernel
theorem dS_write_8 : decode prog_1_method_10_code 8 = .ok (.iconst 0, 1) := by decide +kernel
theorem dS_write_9 : decode prog_1_method_10_code 9 = .ok (.iconst 2, 1) := by decide +kernel
theorem dS_write_10 : decode prog_1_method_10_code 10 = .ok (.invokestatic 47, 3) := by decide +kernel
theorem dS_write_13 : decode prog_1_method_10_code 13 = .ok (.ifCond .ne 13, 3) := by decide +kernel
theorem dS_write_16 : decode prog_1_method_10_code 16 = .ok (.new 51, 3) := by decide +kernel
theorem dS_write_19 : decode prog_1_method_10_code 19 = .ok (.dup, 1) := by decide +kernel
theorem dS_write_20 : decode prog_1_method_10_code 20 = .ok (.ldc 160, 2) := by decide +kernel
theorem dS_write_22 : decode prog_1_method_10_code 22 = .ok (.invokespecial 55, 3) := by decide +kernel
theorem dS_write_25 : decode prog_1_method_10_code 25 = .ok (.athrow, 1) := by decide +kernel
theorem dS_write_26 : decode prog_1_method_10_code 26 = .ok (.iload_n 3, 1) := by decide +kernel
theorem dS_write_27 : decode prog_1_method_10_code 27 = .ok (.invokestatic 162, 3) := by decide +kernel
theorem dS_write_30 : decode prog_1_method_10_code 30 = .ok (.ifCond .ne 13, 3) := by decide +kernel
theorem dS_write_33 : decode prog_1_method_10_code 33 = .ok (.new 51, 3) := by decide +kernel
theorem dS_write_36 : decode prog_1_method_10_code 36 = .ok (.dup, 1) := by decide +kernel
theorem dS_write_37 : decode prog_1_method_10_code 37 = .ok (.ldc 166, 2) := by decide +kernel
theorem dS_write_39 : decode prog_1_method_10_code 39 = .ok (.invokespecial 55, 3) := by decide +kernel
theorem dS_write_42 : decode prog_1_method_10_code 42 = .ok (.athrow, 1) := by decide +kernel
theorem dS_write_43 : decode prog_1_method_10_code 43 = .ok (.aload 4, 2) := by decide +kernel
theorem dS_write_45 : decode prog_1_method_10_code 45 = .ok (.getfield 168, 3) := by decide +kernel
theorem dS_write_48 : decode prog_1_method_10_code 48 = .ok (.invokeinterface 71 1, 5) := by decide +kernel
theorem dS_write_53 : decode prog_1_method_10_code 53 = .ok (.iconst 4, 1) := by decide +kernel
theorem dS_write_54 : decode prog_1_method_10_code 54 = .ok (.if_icmp .lt 13, 3) := by decide +kernel
theorem dS_write_57 : decode prog_1_method_10_code 57 = .ok (.new 77, 3) := by decide +kernel
theorem dS_write_60 : decode prog_1_method_10_code 60 = .ok (.dup, 1) := by decide +kernel
theorem dS_write_61 : decode prog_1_method_10_code 61 = .ok (.ldc 171, 2) := by decide +kernel
theorem dS_write_63 : decode prog_1_method_10_code 63 = .ok (.invokespecial 81, 3) := by decide +kernel
theorem dS_write_66 : decode prog_1_method_10_code 66 = .ok (.athrow, 1) := by decide +kernel
theorem dS_write_67 : decode prog_1_method_10_code 67 = .ok (.aload 4, 2) := by decide +kernel
theorem dS_write_69 : decode prog_1_method_10_code 69 = .ok (.getfield 168, 3) := by decide +kernel
theorem dS_write_72 : decode prog_1_method_10_code 72 = .ok (.new 173, 3) := by decide +kernel
theorem dS_write_75 : decode prog_1_method_10_code 75 = .ok (.dup, 1) := by decide +kernel
theorem dS_write_76 : decode prog_1_method_10_code 76 = .ok (.iload_n 2, 1) := by decide +kernel
theorem dS_write_77 : decode prog_1_method_10_code 77 = .ok (.iload_n 3, 1) := by decide +kernel
theorem dS_write_78 : decode prog_1_method_10_code 78 = .ok (.invokespecial 175, 3) := by decide +kernel
theorem dS_write_81 : decode prog_1_method_10_code 81 = .ok (.invokeinterface 87 2, 5) := by decide +kernel
theorem dS_write_86 : decode prog_1_method_10_code 86 = .ok (.pop, 1) := by decide +kernel
theorem dS_write_87 : decode prog_1_method_10_code 87 = .ok (.aload 4, 2) := by decide +kernel
theorem dS_write_89 : decode prog_1_method_10_code 89 = .ok (.getfield 168, 3) := by decide +kernel
theorem dS_write_92 : decode prog_1_method_10_code 92 = .ok (.invokeinterface 71 1, 5) := by decide +kernel
theorem dS_write_97 : decode prog_1_method_10_code 97 = .ok (.iconst 1, 1) := by decide +kernel
theorem dS_write_98 : decode prog_1_method_10_code 98 = .ok (.isub, 1) := by decide +kernel
theorem dS_write_99 : decode prog_1_method_10_code 99 = .ok (.ireturn, 1) := by decide +kernel
theorem dS_areWords_0 : decode prog_1_method_38_code 0 = .ok (.iconst 0, 1) := by decide +kernel
theorem dS_areWords_1 : decode prog_1_method_38_code 1 = .ok (.istore_n 1, 1) := by decide +kernel
theorem dS_areWords_2 : decode prog_1_method_38_code 2 = .ok (.iload_n 1, 1) := by decide +kernel
theorem dS_areWords_3 : decode prog_1_method_38_code 3 = .ok (.iconst 4, 1) := by decide +kernel
theorem dS_areWords_4 : decode prog_1_method_38_code 4 = .ok (.if_icmp .ge 21, 3) := by decide +kernel
theorem dS_areWords_7 : decode prog_1_method_38_code 7 = .ok (.iload_n 0, 1) := by decide +kernel
theorem dS_areWords_8 : decode prog_1_method_38_code 8 = .ok (.iload_n 1, 1) := by decide +kernel
theorem dS_areWords_9 : decode prog_1_method_38_code 9 = .ok (.invokestatic 315, 3) := by decide +kernel
theorem dS_areWords_12 : decode prog_1_method_38_code 12 = .ok (.bipush 15, 2) := by decide +kernel
theorem dS_areWords_14 : decode prog_1_method_38_code 14 = .ok (.if_icmp .le 5, 3) := by decide +kernel
theorem dS_areWords_17 : decode prog_1_method_38_code 17 = .ok (.iconst 0, 1) := by decide +kernel
theorem dS_areWords_18 : decode prog_1_method_38_code 18 = .ok (.ireturn, 1) := by decide +kernel
theorem dS_areWords_19 : decode prog_1_method_38_code 19 = .ok (.iinc 1 1, 3) := by decide +kernel
theorem dS_areWords_22 : decode prog_1_method_38_code 22 = .ok (.goto (-20), 3) := by decide +kernel
theorem dS_areWords_25 : decode prog_1_method_38_code 25 = .ok (.iload_n 0, 1) := by decide +kernel
theorem dS_areWords_26 : decode prog_1_method_38_code 26 = .ok (.ifCond .eq 7, 3) := by decide +kernel
theorem dS_areWords_29 : decode prog_1_method_38_code 29 = .ok (.iconst 1, 1) := by decide +kernel
theorem dS_areWords_30 : decode prog_1_method_38_code 30 = .ok (.goto 4, 3) := by decide +kernel
theorem dS_areWords_33 : decode prog_1_method_38_code 33 = .ok (.iconst 0, 1) := by decide +kernel
theorem dS_areWords_34 : decode prog_1_method_38_code 34 = .ok (.ireturn, 1) := by decide +kernel
theorem dS_letters_0 : decode prog_1_method_37_code 0 = .ok (.iload_n 0, 1) := by decide +kernel
theorem dS_letters_1 : decode prog_1_method_37_code 1 = .ok (.bipush 8, 2) := by decide +kernel
theorem dS_letters_3 : decode prog_1_method_37_code 3 = .ok (.iconst 3, 1) := by decide +kernel
theorem dS_letters_4 : decode prog_1_method_37_code 4 = .ok (.iload_n 1, 1) := by decide +kernel
theorem dS_letters_5 : decode prog_1_method_37_code 5 = .ok (.isub, 1) := by decide +kernel
theorem dS_letters_6 : decode prog_1_method_37_code 6 = .ok (.imul, 1) := by decide +kernel
theorem dS_letters_7 : decode prog_1_method_37_code 7 = .ok (.iushr, 1) := by decide +kernel
theorem dS_letters_8 : decode prog_1_method_37_code 8 = .ok (.sipush 255, 3) := by decide +kernel
theorem dS_letters_11 : decode prog_1_method_37_code 11 = .ok (.iand, 1) := by decide +kernel
theorem dS_letters_12 : decode prog_1_method_37_code 12 = .ok (.ireturn, 1) := by decide +kernel
theorem dG_init_0 : decode prog_5_method_1_code 0 = .ok (.aload_n 0, 1) := by decide +kernel
theorem dG_init_1 : decode prog_5_method_1_code 1 = .ok (.invokespecial 1, 3) := by decide +kernel
theorem dG_init_4 : decode prog_5_method_1_code 4 = .ok (.aload_n 0, 1) := by decide +kernel
theorem dG_init_5 : decode prog_5_method_1_code 5 = .ok (.iload_n 1, 1) := by decide +kernel
theorem dG_init_6 : decode prog_5_method_1_code 6 = .ok (.putfield 7, 3) := by decide +kernel
theorem dG_init_9 : decode prog_5_method_1_code 9 = .ok (.aload_n 0, 1) := by decide +kernel
theorem dG_init_10 : decode prog_5_method_1_code 10 = .ok (.iload_n 2, 1) := by decide +kernel
theorem dG_init_11 : decode prog_5_method_1_code 11 = .ok (.putfield 13, 3) := by decide +kernel
theorem dG_init_14 : decode prog_5_method_1_code 14 = .ok (.return_, 1) := by decide +kernel
theorem dS_scale_0 : decode prog_1_method_11_code 0 = .ok (.aload_n 0, 1) := by decide +kernel
theorem dS_scale_1 : decode prog_1_method_11_code 1 = .ok (.aload_n 0, 1) := by decide +kernel
theorem dS_scale_2 : decode prog_1_method_11_code 2 = .ok (.iload_n 1, 1) := by decide +kernel
theorem dS_scale_3 : decode prog_1_method_11_code 3 = .ok (.invokevirtual 123, 3) := by decide +kernel
theorem dS_scale_6 : decode prog_1_method_11_code 6 = .ok (.invokevirtual 177, 3) := by decide +kernel
theorem dS_scale_9 : decode prog_1_method_11_code 9 = .ok (.ireturn, 1) := by decide +kernel
theorem dS_fitText_0 : decode prog_1_method_39_code 0 = .ok (.aload_n 0, 1) := by decide +kernel
theorem dS_fitText_1 : decode prog_1_method_39_code 1 = .ok (.aload_n 1, 1) := by decide +kernel
theorem dS_fitText_2 : decode prog_1_method_39_code 2 = .ok (.iconst 2, 1) := by decide +kernel
theorem dS_fitText_3 : decode prog_1_method_39_code 3 = .ok (.invokevirtual 138, 3) := by decide +kernel
theorem dS_fitText_6 : decode prog_1_method_39_code 6 = .ok (.istore_n 2, 1) := by decide +kernel
theorem dS_fitText_7 : decode prog_1_method_39_code 7 = .ok (.aload_n 0, 1) := by decide +kernel
theorem dS_fitText_8 : decode prog_1_method_39_code 8 = .ok (.aload_n 1, 1) := by decide +kernel
theorem dS_fitText_9 : decode prog_1_method_39_code 9 = .ok (.iconst 3, 1) := by decide +kernel
theorem dS_fitText_10 : decode prog_1_method_39_code 10 = .ok (.invokevirtual 138, 3) := by decide +kernel
theorem dS_fitText_13 : decode prog_1_method_39_code 13 = .ok (.istore_n 3, 1) := by decide +kernel
theorem dS_fitText_14 : decode prog_1_method_39_code 14 = .ok (.aload_n 0, 1) := by decide +kernel
theorem dS_fitText_15 : decode prog_1_method_39_code 15 = .ok (.aload_n 1, 1) := by decide +kernel
theorem dS_fitText_16 : decode prog_1_method_39_code 16 = .ok (.bipush 6, 2) := by decide +kernel
theorem dS_fitText_18 : decode prog_1_method_39_code 18 = .ok (.invokevirtual 138, 3) := by decide +kernel
theorem dS_fitText_21 : decode prog_1_method_39_code 21 = .ok (.istore 4, 2) := by decide +kernel
theorem dS_fitText_23 : decode prog_1_method_39_code 23 = .ok (.iload 4, 2) := by decide +kernel
theorem dS_fitText_25 : decode prog_1_method_39_code 25 = .ok (.iconst 1, 1) := by decide +kernel
theorem dS_fitText_26 : decode prog_1_method_39_code 26 = .ok (.if_icmp .lt 40, 3) := by decide +kernel
theorem dS_fitText_29 : decode prog_1_method_39_code 29 = .ok (.aload_n 0, 1) := by decide +kernel
theorem dS_fitText_30 : decode prog_1_method_39_code 30 = .ok (.getfield 33, 3) := by decide +kernel
theorem dS_fitText_33 : decode prog_1_method_39_code 33 = .ok (.aload_n 1, 1) := by decide +kernel
theorem dS_fitText_34 : decode prog_1_method_39_code 34 = .ok (.getfield 168, 3) := by decide +kernel
theorem dS_fitText_37 : decode prog_1_method_39_code 37 = .ok (.iload_n 2, 1) := by decide +kernel
theorem dS_fitText_38 : decode prog_1_method_39_code 38 = .ok (.iload 4, 2) := by decide +kernel
theorem dS_fitText_40 : decode prog_1_method_39_code 40 = .ok (.invokevirtual 318, 3) := by decide +kernel
theorem dS_fitText_43 : decode prog_1_method_39_code 43 = .ok (.iload 4, 2) := by decide +kernel
theorem dS_fitText_45 : decode prog_1_method_39_code 45 = .ok (.aload_n 0, 1) := by decide +kernel
theorem dS_fitText_46 : decode prog_1_method_39_code 46 = .ok (.getfield 33, 3) := by decide +kernel
theorem dS_fitText_49 : decode prog_1_method_39_code 49 = .ok (.getfield 180, 3) := by decide +kernel
theorem dS_fitText_52 : decode prog_1_method_39_code 52 = .ok (.imul, 1) := by decide +kernel
theorem dS_fitText_53 : decode prog_1_method_39_code 53 = .ok (.iload_n 3, 1) := by decide +kernel
theorem dS_fitText_54 : decode prog_1_method_39_code 54 = .ok (.if_icmp .gt 6, 3) := by decide +kernel
theorem dS_fitText_57 : decode prog_1_method_39_code 57 = .ok (.iload 4, 2) := by decide +kernel
theorem dS_fitText_59 : decode prog_1_method_39_code 59 = .ok (.ireturn, 1) := by decide +kernel
theorem dS_fitText_60 : decode prog_1_method_39_code 60 = .ok (.iinc 4 (-1), 3) := by decide +kernel
theorem dS_fitText_63 : decode prog_1_method_39_code 63 = .ok (.goto (-40), 3) := by decide +kernel
theorem dS_fitText_66 : decode prog_1_method_39_code 66 = .ok (.iconst 0, 1) := by decide +kernel
theorem dS_fitText_67 : decode prog_1_method_39_code 67 = .ok (.ireturn, 1) := by decide +kernel
theorem dR_fill_0 : decode prog_3_method_2_code 0 = .ok (.aload_n 0, 1) := by decide +kernel
theorem dR_fill_1 : decode prog_3_method_2_code 1 = .ok (.iconst 0, 1) := by decide +kernel
theorem dR_fill_2 : decode prog_3_method_2_code 2 = .ok (.putfield 24, 3) := by decide +kernel
theorem dR_fill_5 : decode prog_3_method_2_code 5 = .ok (.iconst 0, 1) := by decide +kernel
theorem dR_fill_6 : decode prog_3_method_2_code 6 = .ok (.istore 4, 2) := by decide +kernel
theorem dR_fill_8 : decode prog_3_method_2_code 8 = .ok (.iload 4, 2) := by decide +kernel
theorem dR_fill_10 : decode prog_3_method_2_code 10 = .ok (.aload_n 1, 1) := by decide +kernel
theorem dR_fill_11 : decode prog_3_method_2_code 11 = .ok (.invokeinterface 28 1, 5) := by decide +kernel
theorem dR_fill_16 : decode prog_3_method_2_code 16 = .ok (.if_icmp .ge 54, 3) := by decide +kernel
theorem dR_fill_19 : decode prog_3_method_2_code 19 = .ok (.iload_n 2, 1) := by decide +kernel
theorem dR_fill_20 : decode prog_3_method_2_code 20 = .ok (.iconst 2, 1) := by decide +kernel
theorem dR_fill_21 : decode prog_3_method_2_code 21 = .ok (.iload_n 3, 1) := by decide +kernel
theorem dR_fill_22 : decode prog_3_method_2_code 22 = .ok (.imul, 1) := by decide +kernel
theorem dR_fill_23 : decode prog_3_method_2_code 23 = .ok (.aload_n 1, 1) := by decide +kernel
theorem dR_fill_24 : decode prog_3_method_2_code 24 = .ok (.iload 4, 2) := by decide +kernel
theorem dR_fill_26 : decode prog_3_method_2_code 26 = .ok (.invokeinterface 34 2, 5) := by decide +kernel
theorem dR_fill_31 : decode prog_3_method_2_code 31 = .ok (.checkcast 38, 3) := by decide +kernel
theorem dR_fill_34 : decode prog_3_method_2_code 34 = .ok (.getfield 40, 3) := by decide +kernel
theorem dR_fill_37 : decode prog_3_method_2_code 37 = .ok (.imul, 1) := by decide +kernel
theorem dR_fill_38 : decode prog_3_method_2_code 38 = .ok (.isub, 1) := by decide +kernel
theorem dR_fill_39 : decode prog_3_method_2_code 39 = .ok (.istore 5, 2) := by decide +kernel
theorem dR_fill_41 : decode prog_3_method_2_code 41 = .ok (.aload_n 0, 1) := by decide +kernel
theorem dR_fill_42 : decode prog_3_method_2_code 42 = .ok (.iload 4, 2) := by decide +kernel
theorem dR_fill_44 : decode prog_3_method_2_code 44 = .ok (.aload_n 1, 1) := by decide +kernel
theorem dR_fill_45 : decode prog_3_method_2_code 45 = .ok (.iload 4, 2) := by decide +kernel
theorem dR_fill_47 : decode prog_3_method_2_code 47 = .ok (.invokeinterface 34 2, 5) := by decide +kernel
theorem dR_fill_52 : decode prog_3_method_2_code 52 = .ok (.checkcast 38, 3) := by decide +kernel
theorem dR_fill_55 : decode prog_3_method_2_code 55 = .ok (.getfield 43, 3) := by decide +kernel
theorem dR_fill_58 : decode prog_3_method_2_code 58 = .ok (.iload 5, 2) := by decide +kernel
theorem dR_fill_60 : decode prog_3_method_2_code 60 = .ok (.iload_n 3, 1) := by decide +kernel
theorem dR_fill_61 : decode prog_3_method_2_code 61 = .ok (.invokevirtual 45, 3) := by decide +kernel
theorem dR_fill_64 : decode prog_3_method_2_code 64 = .ok (.iinc 4 1, 3) := by decide +kernel
theorem dR_fill_67 : decode prog_3_method_2_code 67 = .ok (.goto (-59), 3) := by decide +kernel
theorem dR_fill_70 : decode prog_3_method_2_code 70 = .ok (.return_, 1) := by decide +kernel
theorem dR_addParagraph_0 : decode prog_3_method_3_code 0 = .ok (.iconst 0, 1) := by decide +kernel
theorem dR_addParagraph_1 : decode prog_3_method_3_code 1 = .ok (.istore 5, 2) := by decide +kernel
theorem dR_addParagraph_3 : decode prog_3_method_3_code 3 = .ok (.iconst 0, 1) := by decide +kernel
theorem dR_addParagraph_4 : decode prog_3_method_3_code 4 = .ok (.istore 6, 2) := by decide +kernel
theorem dR_addParagraph_6 : decode prog_3_method_3_code 6 = .ok (.iload 6, 2) := by decide +kernel
theorem dR_addParagraph_8 : decode prog_3_method_3_code 8 = .ok (.iconst 4, 1) := by decide +kernel
theorem dR_addParagraph_9 : decode prog_3_method_3_code 9 = .ok (.if_icmp .ge 58, 3) := by decide +kernel
theorem dR_addParagraph_12 : decode prog_3_method_3_code 12 = .ok (.iload 4, 2) := by decide +kernel
theorem dR_addParagraph_14 : decode prog_3_method_3_code 14 = .ok (.iload_n 2, 1) := by decide +kernel
theorem dR_addParagraph_15 : decode prog_3_method_3_code 15 = .ok (.iload 6, 2) := by decide +kernel
theorem dR_addParagraph_17 : decode prog_3_method_3_code 17 = .ok (.invokestatic 49, 3) := by decide +kernel
theorem dR_addParagraph_20 : decode prog_3_method_3_code 20 = .ok (.imul, 1) := by decide +kernel
theorem dR_addParagraph_21 : decode prog_3_method_3_code 21 = .ok (.istore 7, 2) := by decide +kernel
theorem dR_addParagraph_23 : decode prog_3_method_3_code 23 = .ok (.iload 7, 2) := by decide +kernel
theorem dR_addParagraph_25 : decode prog_3_method_3_code 25 = .ok (.ifCond .ne 6, 3) := by decide +kernel
theorem dR_addParagraph_28 : decode prog_3_method_3_code 28 = .ok (.goto 33, 3) := by decide +kernel
theorem dR_addParagraph_31 : decode prog_3_method_3_code 31 = .ok (.iload 5, 2) := by decide +kernel
theorem dR_addParagraph_33 : decode prog_3_method_3_code 33 = .ok (.ifCond .eq 16, 3) := by decide +kernel
theorem dR_addParagraph_36 : decode prog_3_method_3_code 36 = .ok (.aload_n 0, 1) := by decide +kernel
theorem dR_addParagraph_37 : decode prog_3_method_3_code 37 = .ok (.iload 4, 2) := by decide +kernel
theorem dR_addParagraph_39 : decode prog_3_method_3_code 39 = .ok (.iload 7, 2) := by decide +kernel
theorem dR_addParagraph_41 : decode prog_3_method_3_code 41 = .ok (.iadd, 1) := by decide +kernel
theorem dR_addParagraph_42 : decode prog_3_method_3_code 42 = .ok (.iload_n 3, 1) := by decide +kernel
theorem dR_addParagraph_43 : decode prog_3_method_3_code 43 = .ok (.invokevirtual 53, 3) := by decide +kernel
theorem dR_addParagraph_46 : decode prog_3_method_3_code 46 = .ok (.ifCond .ne 12, 3) := by decide +kernel
theorem dR_addParagraph_49 : decode prog_3_method_3_code 49 = .ok (.aload_n 0, 1) := by decide +kernel
theorem dR_addParagraph_50 : decode prog_3_method_3_code 50 = .ok (.iload_n 1, 1) := by decide +kernel
theorem dR_addParagraph_51 : decode prog_3_method_3_code 51 = .ok (.iload 5, 2) := by decide +kernel
theorem dR_addParagraph_53 : decode prog_3_method_3_code 53 = .ok (.iload 7, 2) := by decide +kernel
theorem dR_addParagraph_55 : decode prog_3_method_3_code 55 = .ok (.invokevirtual 57, 3) := by decide +kernel
theorem dR_addParagraph_58 : decode prog_3_method_3_code 58 = .ok (.iinc 5 1, 3) := by decide +kernel
theorem dR_addParagraph_61 : decode prog_3_method_3_code 61 = .ok (.iinc 6 1, 3) := by decide +kernel
theorem dR_addParagraph_64 : decode prog_3_method_3_code 64 = .ok (.goto (-58), 3) := by decide +kernel
theorem dR_addParagraph_67 : decode prog_3_method_3_code 67 = .ok (.return_, 1) := by decide +kernel
theorem dR_extendLine_0 : decode prog_3_method_4_code 0 = .ok (.aload_n 0, 1) := by decide +kernel
theorem dR_extendLine_1 : decode prog_3_method_4_code 1 = .ok (.getfield 24, 3) := by decide +kernel
theorem dR_extendLine_4 : decode prog_3_method_4_code 4 = .ok (.iconst 1, 1) := by decide +kernel
theorem dR_extendLine_5 : decode prog_3_method_4_code 5 = .ok (.if_icmp .lt 29, 3) := by decide +kernel
theorem dR_extendLine_8 : decode prog_3_method_4_code 8 = .ok (.aload_n 0, 1) := by decide +kernel
theorem dR_extendLine_9 : decode prog_3_method_4_code 9 = .ok (.getfield 24, 3) := by decide +kernel
theorem dR_extendLine_12 : decode prog_3_method_4_code 12 = .ok (.bipush 16, 2) := by decide +kernel
theorem dR_extendLine_14 : decode prog_3_method_4_code 14 = .ok (.if_icmp .gt 20, 3) := by decide +kernel
theorem dR_extendLine_17 : decode prog_3_method_4_code 17 = .ok (.aload_n 0, 1) := by decide +kernel
theorem dR_extendLine_18 : decode prog_3_method_4_code 18 = .ok (.getfield 21, 3) := by decide +kernel
theorem dR_extendLine_21 : decode prog_3_method_4_code 21 = .ok (.aload_n 0, 1) := by decide +kernel
theorem dR_extendLine_22 : decode prog_3_method_4_code 22 = .ok (.getfield 24, 3) := by decide +kernel
theorem dR_extendLine_25 : decode prog_3_method_4_code 25 = .ok (.iconst 1, 1) := by decide +kernel
theorem dR_extendLine_26 : decode prog_3_method_4_code 26 = .ok (.isub, 1) := by decide +kernel
theorem dR_extendLine_27 : decode prog_3_method_4_code 27 = .ok (.iaload, 1) := by decide +kernel
theorem dR_extendLine_28 : decode prog_3_method_4_code 28 = .ok (.iload_n 1, 1) := by decide +kernel
theorem dR_extendLine_29 : decode prog_3_method_4_code 29 = .ok (.iadd, 1) := by decide +kernel
theorem dR_extendLine_30 : decode prog_3_method_4_code 30 = .ok (.iload_n 2, 1) := by decide +kernel
theorem dR_extendLine_31 : decode prog_3_method_4_code 31 = .ok (.if_icmp .le 5, 3) := by decide +kernel
theorem dR_extendLine_34 : decode prog_3_method_4_code 34 = .ok (.iconst 0, 1) := by decide +kernel
theorem dR_extendLine_35 : decode prog_3_method_4_code 35 = .ok (.ireturn, 1) := by decide +kernel
theorem dR_extendLine_36 : decode prog_3_method_4_code 36 = .ok (.aload_n 0, 1) := by decide +kernel
theorem dR_extendLine_37 : decode prog_3_method_4_code 37 = .ok (.getfield 18, 3) := by decide +kernel
theorem dR_extendLine_40 : decode prog_3_method_4_code 40 = .ok (.aload_n 0, 1) := by decide +kernel
theorem dR_extendLine_41 : decode prog_3_method_4_code 41 = .ok (.getfield 24, 3) := by decide +kernel
theorem dR_extendLine_44 : decode prog_3_method_4_code 44 = .ok (.iconst 1, 1) := by decide +kernel
theorem dR_extendLine_45 : decode prog_3_method_4_code 45 = .ok (.isub, 1) := by decide +kernel
theorem dR_extendLine_46 : decode prog_3_method_4_code 46 = .ok (.dup2, 1) := by decide +kernel
theorem dR_extendLine_47 : decode prog_3_method_4_code 47 = .ok (.iaload, 1) := by decide +kernel
theorem dR_extendLine_48 : decode prog_3_method_4_code 48 = .ok (.iconst 1, 1) := by decide +kernel
theorem dR_extendLine_49 : decode prog_3_method_4_code 49 = .ok (.iadd, 1) := by decide +kernel
theorem dR_extendLine_50 : decode prog_3_method_4_code 50 = .ok (.iastore, 1) := by decide +kernel
theorem dR_extendLine_51 : decode prog_3_method_4_code 51 = .ok (.aload_n 0, 1) := by decide +kernel
theorem dR_extendLine_52 : decode prog_3_method_4_code 52 = .ok (.getfield 21, 3) := by decide +kernel
theorem dR_extendLine_55 : decode prog_3_method_4_code 55 = .ok (.aload_n 0, 1) := by decide +kernel
theorem dR_extendLine_56 : decode prog_3_method_4_code 56 = .ok (.getfield 24, 3) := by decide +kernel
theorem dR_extendLine_59 : decode prog_3_method_4_code 59 = .ok (.iconst 1, 1) := by decide +kernel
theorem dR_extendLine_60 : decode prog_3_method_4_code 60 = .ok (.isub, 1) := by decide +kernel
theorem dR_extendLine_61 : decode prog_3_method_4_code 61 = .ok (.dup2, 1) := by decide +kernel
theorem dR_extendLine_62 : decode prog_3_method_4_code 62 = .ok (.iaload, 1) := by decide +kernel
theorem dR_extendLine_63 : decode prog_3_method_4_code 63 = .ok (.iload_n 1, 1) := by decide +kernel
theorem dR_extendLine_64 : decode prog_3_method_4_code 64 = .ok (.iadd, 1) := by decide +kernel
theorem dR_extendLine_65 : decode prog_3_method_4_code 65 = .ok (.iastore, 1) := by decide +kernel
theorem dR_extendLine_66 : decode prog_3_method_4_code 66 = .ok (.iconst 1, 1) := by decide +kernel
theorem dR_extendLine_67 : decode prog_3_method_4_code 67 = .ok (.ireturn, 1) := by decide +kernel
theorem dR_beginLine_0 : decode prog_3_method_5_code 0 = .ok (.aload_n 0, 1) := by decide +kernel
theorem dR_beginLine_1 : decode prog_3_method_5_code 1 = .ok (.getfield 24, 3) := by decide +kernel
theorem dR_beginLine_4 : decode prog_3_method_5_code 4 = .ok (.bipush 16, 2) := by decide +kernel
theorem dR_beginLine_6 : decode prog_3_method_5_code 6 = .ok (.if_icmp .lt 4, 3) := by decide +kernel
theorem dR_beginLine_9 : decode prog_3_method_5_code 9 = .ok (.return_, 1) := by decide +kernel
theorem dR_beginLine_10 : decode prog_3_method_5_code 10 = .ok (.aload_n 0, 1) := by decide +kernel
theorem dR_beginLine_11 : decode prog_3_method_5_code 11 = .ok (.getfield 9, 3) := by decide +kernel
theorem dR_beginLine_14 : decode prog_3_method_5_code 14 = .ok (.aload_n 0, 1) := by decide +kernel
theorem dR_beginLine_15 : decode prog_3_method_5_code 15 = .ok (.getfield 24, 3) := by decide +kernel
theorem dR_beginLine_18 : decode prog_3_method_5_code 18 = .ok (.iload_n 1, 1) := by decide +kernel
theorem dR_beginLine_19 : decode prog_3_method_5_code 19 = .ok (.iastore, 1) := by decide +kernel
theorem dR_beginLine_20 : decode prog_3_method_5_code 20 = .ok (.aload_n 0, 1) := by decide +kernel
theorem dR_beginLine_21 : decode prog_3_method_5_code 21 = .ok (.getfield 15, 3) := by decide +kernel
theorem dR_beginLine_24 : decode prog_3_method_5_code 24 = .ok (.aload_n 0, 1) := by decide +kernel
theorem dR_beginLine_25 : decode prog_3_method_5_code 25 = .ok (.getfield 24, 3) := by decide +kernel
theorem dR_beginLine_28 : decode prog_3_method_5_code 28 = .ok (.iload_n 2, 1) := by decide +kernel
theorem dR_beginLine_29 : decode prog_3_method_5_code 29 = .ok (.iastore, 1) := by decide +kernel
theorem dR_beginLine_30 : decode prog_3_method_5_code 30 = .ok (.aload_n 0, 1) := by decide +kernel
theorem dR_beginLine_31 : decode prog_3_method_5_code 31 = .ok (.getfield 18, 3) := by decide +kernel
theorem dR_beginLine_34 : decode prog_3_method_5_code 34 = .ok (.aload_n 0, 1) := by decide +kernel
theorem dR_beginLine_35 : decode prog_3_method_5_code 35 = .ok (.getfield 24, 3) := by decide +kernel
theorem dR_beginLine_38 : decode prog_3_method_5_code 38 = .ok (.iconst 1, 1) := by decide +kernel
theorem dR_beginLine_39 : decode prog_3_method_5_code 39 = .ok (.iastore, 1) := by decide +kernel
theorem dR_beginLine_40 : decode prog_3_method_5_code 40 = .ok (.aload_n 0, 1) := by decide +kernel
theorem dR_beginLine_41 : decode prog_3_method_5_code 41 = .ok (.getfield 21, 3) := by decide +kernel
theorem dR_beginLine_44 : decode prog_3_method_5_code 44 = .ok (.aload_n 0, 1) := by decide +kernel
theorem dR_beginLine_45 : decode prog_3_method_5_code 45 = .ok (.getfield 24, 3) := by decide +kernel
theorem dR_beginLine_48 : decode prog_3_method_5_code 48 = .ok (.iload_n 3, 1) := by decide +kernel
theorem dR_beginLine_49 : decode prog_3_method_5_code 49 = .ok (.iastore, 1) := by decide +kernel
theorem dR_beginLine_50 : decode prog_3_method_5_code 50 = .ok (.aload_n 0, 1) := by decide +kernel
theorem dR_beginLine_51 : decode prog_3_method_5_code 51 = .ok (.dup, 1) := by decide +kernel
theorem dR_beginLine_52 : decode prog_3_method_5_code 52 = .ok (.getfield 24, 3) := by decide +kernel
theorem dR_beginLine_55 : decode prog_3_method_5_code 55 = .ok (.iconst 1, 1) := by decide +kernel
theorem dR_beginLine_56 : decode prog_3_method_5_code 56 = .ok (.iadd, 1) := by decide +kernel
theorem dR_beginLine_57 : decode prog_3_method_5_code 57 = .ok (.putfield 24, 3) := by decide +kernel
theorem dR_beginLine_60 : decode prog_3_method_5_code 60 = .ok (.return_, 1) := by decide +kernel
theorem dS_lines_0 : decode prog_1_method_12_code 0 = .ok (.aload_n 0, 1) := by decide +kernel
theorem dS_lines_1 : decode prog_1_method_12_code 1 = .ok (.aload_n 0, 1) := by decide +kernel
theorem dS_lines_2 : decode prog_1_method_12_code 2 = .ok (.iload_n 1, 1) := by decide +kernel
theorem dS_lines_3 : decode prog_1_method_12_code 3 = .ok (.invokevirtual 123, 3) := by decide +kernel
theorem dS_lines_6 : decode prog_1_method_12_code 6 = .ok (.invokevirtual 177, 3) := by decide +kernel
theorem dS_lines_9 : decode prog_1_method_12_code 9 = .ok (.pop, 1) := by decide +kernel
theorem dS_lines_10 : decode prog_1_method_12_code 10 = .ok (.aload_n 0, 1) := by decide +kernel
theorem dS_lines_11 : decode prog_1_method_12_code 11 = .ok (.getfield 33, 3) := by decide +kernel
theorem dS_lines_14 : decode prog_1_method_12_code 14 = .ok (.getfield 180, 3) := by decide +kernel
theorem dS_lines_17 : decode prog_1_method_12_code 17 = .ok (.ireturn, 1) := by decide +kernel
theorem dS_line_0 : decode prog_1_method_13_code 0 = .ok (.aload_n 0, 1) := by decide +kernel
theorem dS_line_1 : decode prog_1_method_13_code 1 = .ok (.aload_n 0, 1) := by decide +kernel
theorem dS_line_2 : decode prog_1_method_13_code 2 = .ok (.iload_n 1, 1) := by decide +kernel
theorem dS_line_3 : decode prog_1_method_13_code 3 = .ok (.invokevirtual 123, 3) := by decide +kernel
theorem dS_line_6 : decode prog_1_method_13_code 6 = .ok (.invokevirtual 177, 3) := by decide +kernel
theorem dS_line_9 : decode prog_1_method_13_code 9 = .ok (.pop, 1) := by decide +kernel
theorem dS_line_10 : decode prog_1_method_13_code 10 = .ok (.iload_n 2, 1) := by decide +kernel
theorem dS_line_11 : decode prog_1_method_13_code 11 = .ok (.ifCond .lt 14, 3) := by decide +kernel
theorem dS_line_14 : decode prog_1_method_13_code 14 = .ok (.iload_n 2, 1) := by decide +kernel
theorem dS_line_15 : decode prog_1_method_13_code 15 = .ok (.aload_n 0, 1) := by decide +kernel
theorem dS_line_16 : decode prog_1_method_13_code 16 = .ok (.getfield 33, 3) := by decide +kernel
theorem dS_line_19 : decode prog_1_method_13_code 19 = .ok (.getfield 180, 3) := by decide +kernel
theorem dS_line_22 : decode prog_1_method_13_code 22 = .ok (.if_icmp .lt 5, 3) := by decide +kernel
theorem dS_line_25 : decode prog_1_method_13_code 25 = .ok (.iconst (-1), 1) := by decide +kernel
theorem dS_line_26 : decode prog_1_method_13_code 26 = .ok (.ireturn, 1) := by decide +kernel
theorem dS_line_27 : decode prog_1_method_13_code 27 = .ok (.iload_n 3, 1) := by decide +kernel
theorem dS_line_28 : decode prog_1_method_13_code 28 = .ok (.tableswitch 72 0 3 #[32, 42, 52, 62], 32) := by decide +kernel
theorem dS_line_60 : decode prog_1_method_13_code 60 = .ok (.aload_n 0, 1) := by decide +kernel
theorem dS_line_61 : decode prog_1_method_13_code 61 = .ok (.getfield 33, 3) := by decide +kernel
theorem dS_line_64 : decode prog_1_method_13_code 64 = .ok (.getfield 183, 3) := by decide +kernel
theorem dS_line_67 : decode prog_1_method_13_code 67 = .ok (.iload_n 2, 1) := by decide +kernel
theorem dS_line_68 : decode prog_1_method_13_code 68 = .ok (.iaload, 1) := by decide +kernel
theorem dS_line_69 : decode prog_1_method_13_code 69 = .ok (.ireturn, 1) := by decide +kernel
theorem dS_line_70 : decode prog_1_method_13_code 70 = .ok (.aload_n 0, 1) := by decide +kernel
theorem dS_line_71 : decode prog_1_method_13_code 71 = .ok (.getfield 33, 3) := by decide +kernel
theorem dS_line_74 : decode prog_1_method_13_code 74 = .ok (.getfield 186, 3) := by decide +kernel
theorem dS_line_77 : decode prog_1_method_13_code 77 = .ok (.iload_n 2, 1) := by decide +kernel
theorem dS_line_78 : decode prog_1_method_13_code 78 = .ok (.iaload, 1) := by decide +kernel
theorem dS_line_79 : decode prog_1_method_13_code 79 = .ok (.ireturn, 1) := by decide +kernel
theorem dS_line_80 : decode prog_1_method_13_code 80 = .ok (.aload_n 0, 1) := by decide +kernel
theorem dS_line_81 : decode prog_1_method_13_code 81 = .ok (.getfield 33, 3) := by decide +kernel
theorem dS_line_84 : decode prog_1_method_13_code 84 = .ok (.getfield 189, 3) := by decide +kernel
theorem dS_line_87 : decode prog_1_method_13_code 87 = .ok (.iload_n 2, 1) := by decide +kernel
theorem dS_line_88 : decode prog_1_method_13_code 88 = .ok (.iaload, 1) := by decide +kernel
theorem dS_line_89 : decode prog_1_method_13_code 89 = .ok (.ireturn, 1) := by decide +kernel
theorem dS_line_90 : decode prog_1_method_13_code 90 = .ok (.aload_n 0, 1) := by decide +kernel
theorem dS_line_91 : decode prog_1_method_13_code 91 = .ok (.getfield 33, 3) := by decide +kernel
theorem dS_line_94 : decode prog_1_method_13_code 94 = .ok (.getfield 192, 3) := by decide +kernel
theorem dS_line_97 : decode prog_1_method_13_code 97 = .ok (.iload_n 2, 1) := by decide +kernel
theorem dS_line_98 : decode prog_1_method_13_code 98 = .ok (.iaload, 1) := by decide +kernel
theorem dS_line_99 : decode prog_1_method_13_code 99 = .ok (.ireturn, 1) := by decide +kernel
theorem dS_line_100 : decode prog_1_method_13_code 100 = .ok (.iconst (-1), 1) := by decide +kernel
theorem dS_line_101 : decode prog_1_method_13_code 101 = .ok (.ireturn, 1) := by decide +kernel
theorem dS_number_0 : decode prog_1_method_14_code 0 = .ok (.aload_n 0, 1) := by decide +kernel
theorem dS_number_1 : decode prog_1_method_14_code 1 = .ok (.iload_n 1, 1) := by decide +kernel
theorem dS_number_2 : decode prog_1_method_14_code 2 = .ok (.invokevirtual 123, 3) := by decide +kernel
theorem dS_number_5 : decode prog_1_method_14_code 5 = .ok (.getfield 168, 3) := by decide +kernel
theorem dS_number_8 : decode prog_1_method_14_code 8 = .ok (.astore_n 3, 1) := by decide +kernel
theorem dS_number_9 : decode prog_1_method_14_code 9 = .ok (.iload_n 2, 1) := by decide +kernel
theorem dS_number_10 : decode prog_1_method_14_code 10 = .ok (.ifCond .lt 13, 3) := by decide +kernel
theorem dS_number_13 : decode prog_1_method_14_code 13 = .ok (.iload_n 2, 1) := by decide +kernel
theorem dS_number_14 : decode prog_1_method_14_code 14 = .ok (.aload_n 3, 1) := by decide +kernel
theorem dS_number_15 : decode prog_1_method_14_code 15 = .ok (.invokeinterface 71 1, 5) := by decide +kernel
theorem dS_number_20 : decode prog_1_method_14_code 20 = .ok (.if_icmp .lt 5, 3) := by decide +kernel
theorem dS_number_23 : decode prog_1_method_14_code 23 = .ok (.iconst (-1), 1) := by decide +kernel
theorem dS_number_24 : decode prog_1_method_14_code 24 = .ok (.ireturn, 1) := by decide +kernel
theorem dS_number_25 : decode prog_1_method_14_code 25 = .ok (.aload_n 3, 1) := by decide +kernel
theorem dS_number_26 : decode prog_1_method_14_code 26 = .ok (.iload_n 2, 1) := by decide +kernel
theorem dS_number_27 : decode prog_1_method_14_code 27 = .ok (.invokeinterface 195 2, 5) := by decide +kernel
theorem dS_number_32 : decode prog_1_method_14_code 32 = .ok (.checkcast 173, 3) := by decide +kernel
theorem dS_number_35 : decode prog_1_method_14_code 35 = .ok (.getfield 199, 3) := by decide +kernel
theorem dS_number_38 : decode prog_1_method_14_code 38 = .ok (.istore 4, 2) := by decide +kernel
theorem dS_number_40 : decode prog_1_method_14_code 40 = .ok (.iconst 0, 1) := by decide +kernel
theorem dS_number_41 : decode prog_1_method_14_code 41 = .ok (.istore 5, 2) := by decide +kernel
theorem dS_number_43 : decode prog_1_method_14_code 43 = .ok (.iload_n 2, 1) := by decide +kernel
theorem dS_number_44 : decode prog_1_method_14_code 44 = .ok (.istore 6, 2) := by decide +kernel
theorem dS_number_46 : decode prog_1_method_14_code 46 = .ok (.iload 6, 2) := by decide +kernel
theorem dS_number_48 : decode prog_1_method_14_code 48 = .ok (.ifCond .lt 50, 3) := by decide +kernel
theorem dS_number_51 : decode prog_1_method_14_code 51 = .ok (.aload_n 3, 1) := by decide +kernel
theorem dS_number_52 : decode prog_1_method_14_code 52 = .ok (.iload 6, 2) := by decide +kernel
theorem dS_number_54 : decode prog_1_method_14_code 54 = .ok (.invokeinterface 195 2, 5) := by decide +kernel
theorem dS_number_59 : decode prog_1_method_14_code 59 = .ok (.checkcast 173, 3) := by decide +kernel
theorem dS_number_62 : decode prog_1_method_14_code 62 = .ok (.getfield 199, 3) := by decide +kernel
theorem dS_number_65 : decode prog_1_method_14_code 65 = .ok (.iload 4, 2) := by decide +kernel
theorem dS_number_67 : decode prog_1_method_14_code 67 = .ok (.if_icmp .lt 31, 3) := by decide +kernel
theorem dS_number_70 : decode prog_1_method_14_code 70 = .ok (.aload_n 3, 1) := by decide +kernel
theorem dS_number_71 : decode prog_1_method_14_code 71 = .ok (.iload 6, 2) := by decide +kernel
theorem dS_number_73 : decode prog_1_method_14_code 73 = .ok (.invokeinterface 195 2, 5) := by decide +kernel
theorem dS_number_78 : decode prog_1_method_14_code 78 = .ok (.checkcast 173, 3) := by decide +kernel
theorem dS_number_81 : decode prog_1_method_14_code 81 = .ok (.getfield 199, 3) := by decide +kernel
theorem dS_number_84 : decode prog_1_method_14_code 84 = .ok (.iload 4, 2) := by decide +kernel
theorem dS_number_86 : decode prog_1_method_14_code 86 = .ok (.if_icmp .ne 6, 3) := by decide +kernel
theorem dS_number_89 : decode prog_1_method_14_code 89 = .ok (.iinc 5 1, 3) := by decide +kernel
theorem dS_number_92 : decode prog_1_method_14_code 92 = .ok (.iinc 6 (-1), 3) := by decide +kernel
theorem dS_number_95 : decode prog_1_method_14_code 95 = .ok (.goto (-49), 3) := by decide +kernel
theorem dS_number_98 : decode prog_1_method_14_code 98 = .ok (.iload 5, 2) := by decide +kernel
theorem dS_number_100 : decode prog_1_method_14_code 100 = .ok (.ireturn, 1) := by decide +kernel
theorem dS_effect_0 : decode prog_1_method_15_code 0 = .ok (.aload_n 0, 1) := by decide +kernel
theorem dS_effect_1 : decode prog_1_method_15_code 1 = .ok (.iload_n 1, 1) := by decide +kernel
theorem dS_effect_2 : decode prog_1_method_15_code 2 = .ok (.invokevirtual 123, 3) := by decide +kernel
theorem dS_effect_5 : decode prog_1_method_15_code 5 = .ok (.astore 6, 2) := by decide +kernel
theorem dS_effect_7 : decode prog_1_method_15_code 7 = .ok (.iload_n 2, 1) := by decide +kernel
theorem dS_effect_8 : decode prog_1_method_15_code 8 = .ok (.iconst 0, 1) := by decide +kernel
theorem dS_effect_9 : decode prog_1_method_15_code 9 = .ok (.iconst 3, 1) := by decide +kernel
theorem dS_effect_10 : decode prog_1_method_15_code 10 = .ok (.invokestatic 47, 3) := by decide +kernel
theorem dS_effect_13 : decode prog_1_method_15_code 13 = .ok (.ifCond .eq 12, 3) := by decide +kernel
theorem dS_effect_16 : decode prog_1_method_15_code 16 = .ok (.iload_n 3, 1) := by decide +kernel
theorem dS_effect_17 : decode prog_1_method_15_code 17 = .ok (.iconst 0, 1) := by decide +kernel
theorem dS_effect_18 : decode prog_1_method_15_code 18 = .ok (.iconst 2, 1) := by decide +kernel
theorem dS_effect_19 : decode prog_1_method_15_code 19 = .ok (.invokestatic 47, 3) := by decide +kernel
theorem dS_effect_22 : decode prog_1_method_15_code 22 = .ok (.ifCond .ne 13, 3) := by decide +kernel
theorem dS_effect_25 : decode prog_1_method_15_code 25 = .ok (.new 51, 3) := by decide +kernel
theorem dS_effect_28 : decode prog_1_method_15_code 28 = .ok (.dup, 1) := by decide +kernel
theorem dS_effect_29 : decode prog_1_method_15_code 29 = .ok (.ldc 202, 2) := by decide +kernel
theorem dS_effect_31 : decode prog_1_method_15_code 31 = .ok (.invokespecial 55, 3) := by decide +kernel
theorem dS_effect_34 : decode prog_1_method_15_code 34 = .ok (.athrow, 1) := by decide +kernel
theorem dS_effect_35 : decode prog_1_method_15_code 35 = .ok (.iload 4, 2) := by decide +kernel
theorem dS_effect_37 : decode prog_1_method_15_code 37 = .ok (.iconst 0, 1) := by decide +kernel
theorem dS_effect_38 : decode prog_1_method_15_code 38 = .ok (.bipush 50, 2) := by decide +kernel
theorem dS_effect_40 : decode prog_1_method_15_code 40 = .ok (.invokestatic 47, 3) := by decide +kernel
theorem dS_effect_43 : decode prog_1_method_15_code 43 = .ok (.ifCond .eq 14, 3) := by decide +kernel
theorem dS_effect_46 : decode prog_1_method_15_code 46 = .ok (.iload 5, 2) := by decide +kernel
theorem dS_effect_48 : decode prog_1_method_15_code 48 = .ok (.iconst 0, 1) := by decide +kernel
theorem dS_effect_49 : decode prog_1_method_15_code 49 = .ok (.bipush 50, 2) := by decide +kernel
theorem dS_effect_51 : decode prog_1_method_15_code 51 = .ok (.invokestatic 47, 3) := by decide +kernel
theorem dS_effect_54 : decode prog_1_method_15_code 54 = .ok (.ifCond .ne 13, 3) := by decide +kernel
theorem dS_effect_57 : decode prog_1_method_15_code 57 = .ok (.new 51, 3) := by decide +kernel
theorem dS_effect_60 : decode prog_1_method_15_code 60 = .ok (.dup, 1) := by decide +kernel
theorem dS_effect_61 : decode prog_1_method_15_code 61 = .ok (.ldc 204, 2) := by decide +kernel
theorem dS_effect_63 : decode prog_1_method_15_code 63 = .ok (.invokespecial 55, 3) := by decide +kernel
theorem dS_effect_66 : decode prog_1_method_15_code 66 = .ok (.athrow, 1) := by decide +kernel
theorem dS_effect_67 : decode prog_1_method_15_code 67 = .ok (.aload 6, 2) := by decide +kernel
theorem dS_effect_69 : decode prog_1_method_15_code 69 = .ok (.getfield 150, 3) := by decide +kernel
theorem dS_effect_72 : decode prog_1_method_15_code 72 = .ok (.getfield 206, 3) := by decide +kernel
theorem dS_effect_75 : decode prog_1_method_15_code 75 = .ok (.iconst 2, 1) := by decide +kernel
theorem dS_effect_76 : decode prog_1_method_15_code 76 = .ok (.if_icmp .eq 13, 3) := by decide +kernel
theorem dS_effect_79 : decode prog_1_method_15_code 79 = .ok (.new 77, 3) := by decide +kernel
theorem dS_effect_82 : decode prog_1_method_15_code 82 = .ok (.dup, 1) := by decide +kernel
theorem dS_effect_83 : decode prog_1_method_15_code 83 = .ok (.ldc 209, 2) := by decide +kernel
theorem dS_effect_85 : decode prog_1_method_15_code 85 = .ok (.invokespecial 81, 3) := by decide +kernel
theorem dS_effect_88 : decode prog_1_method_15_code 88 = .ok (.athrow, 1) := by decide +kernel
theorem dS_effect_89 : decode prog_1_method_15_code 89 = .ok (.aload_n 0, 1) := by decide +kernel
theorem dS_effect_90 : decode prog_1_method_15_code 90 = .ok (.getfield 27, 3) := by decide +kernel
theorem dS_effect_93 : decode prog_1_method_15_code 93 = .ok (.invokeinterface 71 1, 5) := by decide +kernel
theorem dS_effect_98 : decode prog_1_method_15_code 98 = .ok (.bipush 24, 2) := by decide +kernel
theorem dS_effect_100 : decode prog_1_method_15_code 100 = .ok (.if_icmp .lt 13, 3) := by decide +kernel
theorem dS_effect_103 : decode prog_1_method_15_code 103 = .ok (.new 105, 3) := by decide +kernel
theorem dS_effect_106 : decode prog_1_method_15_code 106 = .ok (.dup, 1) := by decide +kernel
theorem dS_effect_107 : decode prog_1_method_15_code 107 = .ok (.ldc 211, 2) := by decide +kernel
theorem dS_effect_109 : decode prog_1_method_15_code 109 = .ok (.invokespecial 109, 3) := by decide +kernel
theorem dS_effect_112 : decode prog_1_method_15_code 112 = .ok (.athrow, 1) := by decide +kernel
theorem dS_effect_113 : decode prog_1_method_15_code 113 = .ok (.aload 6, 2) := by decide +kernel
theorem dS_effect_115 : decode prog_1_method_15_code 115 = .ok (.getfield 150, 3) := by decide +kernel
theorem dS_effect_118 : decode prog_1_method_15_code 118 = .ok (.invokestatic 213, 3) := by decide +kernel
theorem dS_effect_121 : decode prog_1_method_15_code 121 = .ok (.astore 7, 2) := by decide +kernel
theorem dS_effect_123 : decode prog_1_method_15_code 123 = .ok (.aload 7, 2) := by decide +kernel
theorem dS_effect_125 : decode prog_1_method_15_code 125 = .ok (.iload_n 3, 1) := by decide +kernel
theorem dS_effect_126 : decode prog_1_method_15_code 126 = .ok (.invokestatic 217, 3) := by decide +kernel
theorem dS_effect_129 : decode prog_1_method_15_code 129 = .ok (.istore 8, 2) := by decide +kernel
theorem dS_effect_131 : decode prog_1_method_15_code 131 = .ok (.aload 7, 2) := by decide +kernel
theorem dS_effect_133 : decode prog_1_method_15_code 133 = .ok (.iload_n 3, 1) := by decide +kernel
theorem dS_effect_134 : decode prog_1_method_15_code 134 = .ok (.invokestatic 221, 3) := by decide +kernel
theorem dS_effect_137 : decode prog_1_method_15_code 137 = .ok (.istore 9, 2) := by decide +kernel
theorem dS_effect_139 : decode prog_1_method_15_code 139 = .ok (.new 224, 3) := by decide +kernel
theorem dS_effect_142 : decode prog_1_method_15_code 142 = .ok (.dup, 1) := by decide +kernel
theorem dS_effect_143 : decode prog_1_method_15_code 143 = .ok (.aload 6, 2) := by decide +kernel
theorem dS_effect_145 : decode prog_1_method_15_code 145 = .ok (.getfield 150, 3) := by decide +kernel
theorem dS_effect_148 : decode prog_1_method_15_code 148 = .ok (.iload_n 2, 1) := by decide +kernel
theorem dS_effect_149 : decode prog_1_method_15_code 149 = .ok (.iload 8, 2) := by decide +kernel
theorem dS_effect_151 : decode prog_1_method_15_code 151 = .ok (.iload 9, 2) := by decide +kernel
theorem dS_effect_153 : decode prog_1_method_15_code 153 = .ok (.iload 4, 2) := by decide +kernel
theorem dS_effect_155 : decode prog_1_method_15_code 155 = .ok (.iload 5, 2) := by decide +kernel
theorem dS_effect_157 : decode prog_1_method_15_code 157 = .ok (.invokespecial 226, 3) := by decide +kernel
theorem dS_effect_160 : decode prog_1_method_15_code 160 = .ok (.astore 10, 2) := by decide +kernel
theorem dS_effect_162 : decode prog_1_method_15_code 162 = .ok (.aload_n 0, 1) := by decide +kernel
theorem dS_effect_163 : decode prog_1_method_15_code 163 = .ok (.getfield 27, 3) := by decide +kernel
theorem dS_effect_166 : decode prog_1_method_15_code 166 = .ok (.aload 10, 2) := by decide +kernel
theorem dS_effect_168 : decode prog_1_method_15_code 168 = .ok (.invokeinterface 87 2, 5) := by decide +kernel
theorem dS_effect_173 : decode prog_1_method_15_code 173 = .ok (.pop, 1) := by decide +kernel
theorem dS_effect_174 : decode prog_1_method_15_code 174 = .ok (.aload 6, 2) := by decide +kernel
theorem dS_effect_176 : decode prog_1_method_15_code 176 = .ok (.getfield 150, 3) := by decide +kernel
theorem dS_effect_179 : decode prog_1_method_15_code 179 = .ok (.getfield 229, 3) := by decide +kernel
theorem dS_effect_182 : decode prog_1_method_15_code 182 = .ok (.aload 10, 2) := by decide +kernel
theorem dS_effect_184 : decode prog_1_method_15_code 184 = .ok (.invokeinterface 87 2, 5) := by decide +kernel
theorem dS_effect_189 : decode prog_1_method_15_code 189 = .ok (.pop, 1) := by decide +kernel
theorem dS_effect_190 : decode prog_1_method_15_code 190 = .ok (.aload 6, 2) := by decide +kernel
theorem dS_effect_192 : decode prog_1_method_15_code 192 = .ok (.getfield 230, 3) := by decide +kernel
theorem dS_effect_195 : decode prog_1_method_15_code 195 = .ok (.aload 10, 2) := by decide +kernel
theorem dS_effect_197 : decode prog_1_method_15_code 197 = .ok (.invokeinterface 87 2, 5) := by decide +kernel
theorem dS_effect_202 : decode prog_1_method_15_code 202 = .ok (.pop, 1) := by decide +kernel
theorem dS_effect_203 : decode prog_1_method_15_code 203 = .ok (.aload_n 0, 1) := by decide +kernel
theorem dS_effect_204 : decode prog_1_method_15_code 204 = .ok (.getfield 27, 3) := by decide +kernel
theorem dS_effect_207 : decode prog_1_method_15_code 207 = .ok (.invokeinterface 71 1, 5) := by decide +kernel
theorem dS_effect_212 : decode prog_1_method_15_code 212 = .ok (.iconst 1, 1) := by decide +kernel
theorem dS_effect_213 : decode prog_1_method_15_code 213 = .ok (.isub, 1) := by decide +kernel
theorem dS_effect_214 : decode prog_1_method_15_code 214 = .ok (.ireturn, 1) := by decide +kernel
theorem dS_buildBehind_0 : decode prog_1_method_42_code 0 = .ok (.aload_n 0, 1) := by decide +kernel
theorem dS_buildBehind_1 : decode prog_1_method_42_code 1 = .ok (.ifnonnull 7, 3) := by decide +kernel
theorem dS_buildBehind_4 : decode prog_1_method_42_code 4 = .ok (.iconst 0, 1) := by decide +kernel
theorem dS_buildBehind_5 : decode prog_1_method_42_code 5 = .ok (.goto 7, 3) := by decide +kernel
theorem dS_buildBehind_8 : decode prog_1_method_42_code 8 = .ok (.aload_n 0, 1) := by decide +kernel
theorem dS_buildBehind_9 : decode prog_1_method_42_code 9 = .ok (.getfield 246, 3) := by decide +kernel
theorem dS_buildBehind_12 : decode prog_1_method_42_code 12 = .ok (.istore_n 2, 1) := by decide +kernel
theorem dS_buildBehind_13 : decode prog_1_method_42_code 13 = .ok (.iload_n 1, 1) := by decide +kernel
theorem dS_buildBehind_14 : decode prog_1_method_42_code 14 = .ok (.ifCond .ne 9, 3) := by decide +kernel
theorem dS_buildBehind_17 : decode prog_1_method_42_code 17 = .ok (.iload_n 2, 1) := by decide +kernel
theorem dS_buildBehind_18 : decode prog_1_method_42_code 18 = .ok (.iconst 1, 1) := by decide +kernel
theorem dS_buildBehind_19 : decode prog_1_method_42_code 19 = .ok (.iadd, 1) := by decide +kernel
theorem dS_buildBehind_20 : decode prog_1_method_42_code 20 = .ok (.goto 4, 3) := by decide +kernel
theorem dS_buildBehind_23 : decode prog_1_method_42_code 23 = .ok (.iload_n 2, 1) := by decide +kernel
theorem dS_buildBehind_24 : decode prog_1_method_42_code 24 = .ok (.ireturn, 1) := by decide +kernel
theorem dS_baseBehind_0 : decode prog_1_method_43_code 0 = .ok (.aload_n 0, 1) := by decide +kernel
theorem dS_baseBehind_1 : decode prog_1_method_43_code 1 = .ok (.ifnull 7, 3) := by decide +kernel
theorem dS_baseBehind_4 : decode prog_1_method_43_code 4 = .ok (.iload_n 1, 1) := by decide +kernel
theorem dS_baseBehind_5 : decode prog_1_method_43_code 5 = .ok (.ifCond .ne 5, 3) := by decide +kernel
theorem dS_baseBehind_8 : decode prog_1_method_43_code 8 = .ok (.iconst 0, 1) := by decide +kernel
theorem dS_baseBehind_9 : decode prog_1_method_43_code 9 = .ok (.ireturn, 1) := by decide +kernel
theorem dS_baseBehind_10 : decode prog_1_method_43_code 10 = .ok (.iload_n 1, 1) := by decide +kernel
theorem dS_baseBehind_11 : decode prog_1_method_43_code 11 = .ok (.iconst 1, 1) := by decide +kernel
theorem dS_baseBehind_12 : decode prog_1_method_43_code 12 = .ok (.if_icmp .ne 10, 3) := by decide +kernel
theorem dS_baseBehind_15 : decode prog_1_method_43_code 15 = .ok (.aload_n 0, 1) := by decide +kernel
theorem dS_baseBehind_16 : decode prog_1_method_43_code 16 = .ok (.getfield 326, 3) := by decide +kernel
theorem dS_baseBehind_19 : decode prog_1_method_43_code 19 = .ok (.goto 7, 3) := by decide +kernel
theorem dS_baseBehind_22 : decode prog_1_method_43_code 22 = .ok (.aload_n 0, 1) := by decide +kernel
theorem dS_baseBehind_23 : decode prog_1_method_43_code 23 = .ok (.getfield 243, 3) := by decide +kernel
theorem dS_baseBehind_26 : decode prog_1_method_43_code 26 = .ok (.ireturn, 1) := by decide +kernel
theorem dF_init_0 : decode prog_2_method_1_code 0 = .ok (.aload_n 0, 1) := by decide +kernel
theorem dF_init_1 : decode prog_2_method_1_code 1 = .ok (.invokespecial 1, 3) := by decide +kernel
theorem dF_init_4 : decode prog_2_method_1_code 4 = .ok (.aload_n 0, 1) := by decide +kernel
theorem dF_init_5 : decode prog_2_method_1_code 5 = .ok (.iconst 0, 1) := by decide +kernel
theorem dF_init_6 : decode prog_2_method_1_code 6 = .ok (.putfield 7, 3) := by decide +kernel
theorem dF_init_9 : decode prog_2_method_1_code 9 = .ok (.aload_n 0, 1) := by decide +kernel
theorem dF_init_10 : decode prog_2_method_1_code 10 = .ok (.aload_n 1, 1) := by decide +kernel
theorem dF_init_11 : decode prog_2_method_1_code 11 = .ok (.putfield 13, 3) := by decide +kernel
theorem dF_init_14 : decode prog_2_method_1_code 14 = .ok (.aload_n 0, 1) := by decide +kernel
theorem dF_init_15 : decode prog_2_method_1_code 15 = .ok (.iload_n 2, 1) := by decide +kernel
theorem dF_init_16 : decode prog_2_method_1_code 16 = .ok (.putfield 17, 3) := by decide +kernel
theorem dF_init_19 : decode prog_2_method_1_code 19 = .ok (.aload_n 0, 1) := by decide +kernel
theorem dF_init_20 : decode prog_2_method_1_code 20 = .ok (.iload_n 3, 1) := by decide +kernel
theorem dF_init_21 : decode prog_2_method_1_code 21 = .ok (.putfield 20, 3) := by decide +kernel
theorem dF_init_24 : decode prog_2_method_1_code 24 = .ok (.aload_n 0, 1) := by decide +kernel
theorem dF_init_25 : decode prog_2_method_1_code 25 = .ok (.iload 4, 2) := by decide +kernel
theorem dF_init_27 : decode prog_2_method_1_code 27 = .ok (.putfield 23, 3) := by decide +kernel
theorem dF_init_30 : decode prog_2_method_1_code 30 = .ok (.aload_n 0, 1) := by decide +kernel
theorem dF_init_31 : decode prog_2_method_1_code 31 = .ok (.iload 4, 2) := by decide +kernel
theorem dF_init_33 : decode prog_2_method_1_code 33 = .ok (.iload 5, 2) := by decide +kernel
theorem dF_init_35 : decode prog_2_method_1_code 35 = .ok (.iadd, 1) := by decide +kernel
theorem dF_init_36 : decode prog_2_method_1_code 36 = .ok (.putfield 26, 3) := by decide +kernel
theorem dF_init_39 : decode prog_2_method_1_code 39 = .ok (.aload_n 0, 1) := by decide +kernel
theorem dF_init_40 : decode prog_2_method_1_code 40 = .ok (.iload 4, 2) := by decide +kernel
theorem dF_init_42 : decode prog_2_method_1_code 42 = .ok (.iload 5, 2) := by decide +kernel
theorem dF_init_44 : decode prog_2_method_1_code 44 = .ok (.iadd, 1) := by decide +kernel
theorem dF_init_45 : decode prog_2_method_1_code 45 = .ok (.iload 6, 2) := by decide +kernel
theorem dF_init_47 : decode prog_2_method_1_code 47 = .ok (.iadd, 1) := by decide +kernel
theorem dF_init_48 : decode prog_2_method_1_code 48 = .ok (.putfield 29, 3) := by decide +kernel
theorem dF_init_51 : decode prog_2_method_1_code 51 = .ok (.aload_n 0, 1) := by decide +kernel
theorem dF_init_52 : decode prog_2_method_1_code 52 = .ok (.iload 6, 2) := by decide +kernel
theorem dF_init_54 : decode prog_2_method_1_code 54 = .ok (.putfield 32, 3) := by decide +kernel
theorem dF_init_57 : decode prog_2_method_1_code 57 = .ok (.return_, 1) := by decide +kernel
theorem dS_amount_0 : decode prog_1_method_16_code 0 = .ok (.aload_n 0, 1) := by decide +kernel
theorem dS_amount_1 : decode prog_1_method_16_code 1 = .ok (.iload_n 1, 1) := by decide +kernel
theorem dS_amount_2 : decode prog_1_method_16_code 2 = .ok (.invokevirtual 231, 3) := by decide +kernel
theorem dS_amount_5 : decode prog_1_method_16_code 5 = .ok (.astore_n 3, 1) := by decide +kernel
theorem dS_amount_6 : decode prog_1_method_16_code 6 = .ok (.iload_n 2, 1) := by decide +kernel
theorem dS_amount_7 : decode prog_1_method_16_code 7 = .ok (.bipush (-40), 2) := by decide +kernel
theorem dS_amount_9 : decode prog_1_method_16_code 9 = .ok (.bipush 40, 2) := by decide +kernel
theorem dS_amount_11 : decode prog_1_method_16_code 11 = .ok (.invokestatic 47, 3) := by decide +kernel
theorem dS_amount_14 : decode prog_1_method_16_code 14 = .ok (.ifCond .ne 13, 3) := by decide +kernel
theorem dS_amount_17 : decode prog_1_method_16_code 17 = .ok (.new 51, 3) := by decide +kernel
theorem dS_amount_20 : decode prog_1_method_16_code 20 = .ok (.dup, 1) := by decide +kernel
theorem dS_amount_21 : decode prog_1_method_16_code 21 = .ok (.ldc 235, 2) := by decide +kernel
theorem dS_amount_23 : decode prog_1_method_16_code 23 = .ok (.invokespecial 55, 3) := by decide +kernel
theorem dS_amount_26 : decode prog_1_method_16_code 26 = .ok (.athrow, 1) := by decide +kernel
theorem dS_amount_27 : decode prog_1_method_16_code 27 = .ok (.aload_n 3, 1) := by decide +kernel
theorem dS_amount_28 : decode prog_1_method_16_code 28 = .ok (.iload_n 2, 1) := by decide +kernel
theorem dS_amount_29 : decode prog_1_method_16_code 29 = .ok (.putfield 237, 3) := by decide +kernel
theorem dS_amount_32 : decode prog_1_method_16_code 32 = .ok (.return_, 1) := by decide +kernel
theorem dS_findEffect_0 : decode prog_1_method_29_code 0 = .ok (.iload_n 1, 1) := by decide +kernel
theorem dS_findEffect_1 : decode prog_1_method_29_code 1 = .ok (.ifCond .lt 16, 3) := by decide +kernel
theorem dS_findEffect_4 : decode prog_1_method_29_code 4 = .ok (.iload_n 1, 1) := by decide +kernel
theorem dS_findEffect_5 : decode prog_1_method_29_code 5 = .ok (.aload_n 0, 1) := by decide +kernel
theorem dS_findEffect_6 : decode prog_1_method_29_code 6 = .ok (.getfield 27, 3) := by decide +kernel
theorem dS_findEffect_9 : decode prog_1_method_29_code 9 = .ok (.invokeinterface 71 1, 5) := by decide +kernel
theorem dS_findEffect_14 : decode prog_1_method_29_code 14 = .ok (.if_icmp .lt 14, 3) := by decide +kernel
theorem dS_findEffect_17 : decode prog_1_method_29_code 17 = .ok (.new 66, 3) := by decide +kernel
theorem dS_findEffect_20 : decode prog_1_method_29_code 20 = .ok (.dup, 1) := by decide +kernel
theorem dS_findEffect_21 : decode prog_1_method_29_code 21 = .ok (.ldc_w 313, 3) := by decide +kernel
theorem dS_findEffect_24 : decode prog_1_method_29_code 24 = .ok (.invokespecial 70, 3) := by decide +kernel
theorem dS_findEffect_27 : decode prog_1_method_29_code 27 = .ok (.athrow, 1) := by decide +kernel
theorem dS_findEffect_28 : decode prog_1_method_29_code 28 = .ok (.aload_n 0, 1) := by decide +kernel
theorem dS_findEffect_29 : decode prog_1_method_29_code 29 = .ok (.getfield 27, 3) := by decide +kernel
theorem dS_findEffect_32 : decode prog_1_method_29_code 32 = .ok (.iload_n 1, 1) := by decide +kernel
theorem dS_findEffect_33 : decode prog_1_method_29_code 33 = .ok (.invokeinterface 195 2, 5) := by decide +kernel
theorem dS_findEffect_38 : decode prog_1_method_29_code 38 = .ok (.checkcast 224, 3) := by decide +kernel
theorem dS_findEffect_41 : decode prog_1_method_29_code 41 = .ok (.areturn, 1) := by decide +kernel
theorem dS_timing_0 : decode prog_1_method_17_code 0 = .ok (.aload_n 0, 1) := by decide +kernel
theorem dS_timing_1 : decode prog_1_method_17_code 1 = .ok (.iload_n 1, 1) := by decide +kernel
theorem dS_timing_2 : decode prog_1_method_17_code 2 = .ok (.invokevirtual 231, 3) := by decide +kernel
theorem dS_timing_5 : decode prog_1_method_17_code 5 = .ok (.astore_n 3, 1) := by decide +kernel
theorem dS_timing_6 : decode prog_1_method_17_code 6 = .ok (.iload_n 2, 1) := by decide +kernel
theorem dS_timing_7 : decode prog_1_method_17_code 7 = .ok (.tableswitch 65 0 3 #[29, 34, 39, 44], 29) := by decide +kernel
theorem dS_timing_36 : decode prog_1_method_17_code 36 = .ok (.aload_n 3, 1) := by decide +kernel
theorem dS_timing_37 : decode prog_1_method_17_code 37 = .ok (.getfield 240, 3) := by decide +kernel
theorem dS_timing_40 : decode prog_1_method_17_code 40 = .ok (.ireturn, 1) := by decide +kernel
theorem dS_timing_41 : decode prog_1_method_17_code 41 = .ok (.aload_n 3, 1) := by decide +kernel
theorem dS_timing_42 : decode prog_1_method_17_code 42 = .ok (.getfield 243, 3) := by decide +kernel
theorem dS_timing_45 : decode prog_1_method_17_code 45 = .ok (.ireturn, 1) := by decide +kernel
theorem dS_timing_46 : decode prog_1_method_17_code 46 = .ok (.aload_n 3, 1) := by decide +kernel
theorem dS_timing_47 : decode prog_1_method_17_code 47 = .ok (.getfield 246, 3) := by decide +kernel
theorem dS_timing_50 : decode prog_1_method_17_code 50 = .ok (.ireturn, 1) := by decide +kernel
theorem dS_timing_51 : decode prog_1_method_17_code 51 = .ok (.aload_n 3, 1) := by decide +kernel
theorem dS_timing_52 : decode prog_1_method_17_code 52 = .ok (.getfield 249, 3) := by decide +kernel
theorem dS_timing_55 : decode prog_1_method_17_code 55 = .ok (.aload_n 0, 1) := by decide +kernel
theorem dS_timing_56 : decode prog_1_method_17_code 56 = .ok (.invokevirtual 252, 3) := by decide +kernel
theorem dS_timing_59 : decode prog_1_method_17_code 59 = .ok (.if_acmp .ne 11, 3) := by decide +kernel
theorem dS_timing_62 : decode prog_1_method_17_code 62 = .ok (.aload_n 0, 1) := by decide +kernel
theorem dS_timing_63 : decode prog_1_method_17_code 63 = .ok (.aload_n 3, 1) := by decide +kernel
theorem dS_timing_64 : decode prog_1_method_17_code 64 = .ok (.invokevirtual 256, 3) := by decide +kernel
theorem dS_timing_67 : decode prog_1_method_17_code 67 = .ok (.goto 4, 3) := by decide +kernel
theorem dS_timing_70 : decode prog_1_method_17_code 70 = .ok (.iconst (-1), 1) := by decide +kernel
theorem dS_timing_71 : decode prog_1_method_17_code 71 = .ok (.ireturn, 1) := by decide +kernel
theorem dS_timing_72 : decode prog_1_method_17_code 72 = .ok (.iconst (-1), 1) := by decide +kernel
theorem dS_timing_73 : decode prog_1_method_17_code 73 = .ok (.ireturn, 1) := by decide +kernel
theorem dS_jump_0 : decode prog_1_method_20_code 0 = .ok (.aload_n 0, 1) := by decide +kernel
theorem dS_jump_1 : decode prog_1_method_20_code 1 = .ok (.iload_n 1, 1) := by decide +kernel
theorem dS_jump_2 : decode prog_1_method_20_code 2 = .ok (.invokevirtual 268, 3) := by decide +kernel
theorem dS_jump_5 : decode prog_1_method_20_code 5 = .ok (.ifnonnull 14, 3) := by decide +kernel
theorem dS_jump_8 : decode prog_1_method_20_code 8 = .ok (.new 66, 3) := by decide +kernel
theorem dS_jump_11 : decode prog_1_method_20_code 11 = .ok (.dup, 1) := by decide +kernel
theorem dS_jump_12 : decode prog_1_method_20_code 12 = .ok (.ldc_w 274, 3) := by decide +kernel
theorem dS_jump_15 : decode prog_1_method_20_code 15 = .ok (.invokespecial 70, 3) := by decide +kernel
theorem dS_jump_18 : decode prog_1_method_20_code 18 = .ok (.athrow, 1) := by decide +kernel
theorem dS_jump_19 : decode prog_1_method_20_code 19 = .ok (.aload_n 0, 1) := by decide +kernel
theorem dS_jump_20 : decode prog_1_method_20_code 20 = .ok (.iload_n 1, 1) := by decide +kernel
theorem dS_jump_21 : decode prog_1_method_20_code 21 = .ok (.iconst 0, 1) := by decide +kernel
theorem dS_jump_22 : decode prog_1_method_20_code 22 = .ok (.iconst 0, 1) := by decide +kernel
theorem dS_jump_23 : decode prog_1_method_20_code 23 = .ok (.invokevirtual 264, 3) := by decide +kernel
theorem dS_jump_26 : decode prog_1_method_20_code 26 = .ok (.return_, 1) := by decide +kernel
theorem dS_tick_0 : decode prog_1_method_21_code 0 = .ok (.iload_n 1, 1) := by decide +kernel
theorem dS_tick_1 : decode prog_1_method_21_code 1 = .ok (.iconst 0, 1) := by decide +kernel
theorem dS_tick_2 : decode prog_1_method_21_code 2 = .ok (.sipush 1000, 3) := by decide +kernel
theorem dS_tick_5 : decode prog_1_method_21_code 5 = .ok (.invokestatic 47, 3) := by decide +kernel
theorem dS_tick_8 : decode prog_1_method_21_code 8 = .ok (.ifCond .ne 14, 3) := by decide +kernel
theorem dS_tick_11 : decode prog_1_method_21_code 11 = .ok (.new 51, 3) := by decide +kernel
theorem dS_tick_14 : decode prog_1_method_21_code 14 = .ok (.dup, 1) := by decide +kernel
theorem dS_tick_15 : decode prog_1_method_21_code 15 = .ok (.ldc_w 276, 3) := by decide +kernel
theorem dS_tick_18 : decode prog_1_method_21_code 18 = .ok (.invokespecial 55, 3) := by decide +kernel
theorem dS_tick_21 : decode prog_1_method_21_code 21 = .ok (.athrow, 1) := by decide +kernel
theorem dS_tick_22 : decode prog_1_method_21_code 22 = .ok (.aload_n 0, 1) := by decide +kernel
theorem dS_tick_23 : decode prog_1_method_21_code 23 = .ok (.aload_n 0, 1) := by decide +kernel
theorem dS_tick_24 : decode prog_1_method_21_code 24 = .ok (.getfield 44, 3) := by decide +kernel
theorem dS_tick_27 : decode prog_1_method_21_code 27 = .ok (.iload_n 1, 1) := by decide +kernel
theorem dS_tick_28 : decode prog_1_method_21_code 28 = .ok (.iadd, 1) := by decide +kernel
theorem dS_tick_29 : decode prog_1_method_21_code 29 = .ok (.ldc_w 278, 3) := by decide +kernel
theorem dS_tick_32 : decode prog_1_method_21_code 32 = .ok (.invokestatic 279, 3) := by decide +kernel
theorem dS_tick_35 : decode prog_1_method_21_code 35 = .ok (.putfield 44, 3) := by decide +kernel
theorem dS_tick_38 : decode prog_1_method_21_code 38 = .ok (.return_, 1) := by decide +kernel
theorem dS_now_0 : decode prog_1_method_23_code 0 = .ok (.aload_n 0, 1) := by decide +kernel
theorem dS_now_1 : decode prog_1_method_23_code 1 = .ok (.iload_n 1, 1) := by decide +kernel
theorem dS_now_2 : decode prog_1_method_23_code 2 = .ok (.invokevirtual 123, 3) := by decide +kernel
theorem dS_now_5 : decode prog_1_method_23_code 5 = .ok (.astore_n 3, 1) := by decide +kernel
theorem dS_now_6 : decode prog_1_method_23_code 6 = .ok (.iload_n 2, 1) := by decide +kernel
theorem dS_now_7 : decode prog_1_method_23_code 7 = .ok (.invokestatic 134, 3) := by decide +kernel
theorem dS_now_10 : decode prog_1_method_23_code 10 = .ok (.aload_n 0, 1) := by decide +kernel
theorem dS_now_11 : decode prog_1_method_23_code 11 = .ok (.aload_n 3, 1) := by decide +kernel
theorem dS_now_12 : decode prog_1_method_23_code 12 = .ok (.iload_n 2, 1) := by decide +kernel
theorem dS_now_13 : decode prog_1_method_23_code 13 = .ok (.invokevirtual 289, 3) := by decide +kernel
theorem dS_now_16 : decode prog_1_method_23_code 16 = .ok (.ireturn, 1) := by decide +kernel
