theorem dA_init_0 : decode prog_24_method_2_code 0 = .ok (.aload_n 0, 1) := by decide +kernel
theorem dA_init_1 : decode prog_24_method_2_code 1 = .ok (.invokespecial 1, 3) := by decide +kernel
theorem dA_init_4 : decode prog_24_method_2_code 4 = .ok (.aload_n 0, 1) := by decide +kernel
theorem dA_init_5 : decode prog_24_method_2_code 5 = .ok (.getstatic 39, 3) := by decide +kernel
theorem dA_init_8 : decode prog_24_method_2_code 8 = .ok (.putfield 9, 3) := by decide +kernel
theorem dA_init_11 : decode prog_24_method_2_code 11 = .ok (.return_, 1) := by decide +kernel
theorem dAL_init_0 : decode prog_23_method_1_code 0 = .ok (.aload_n 0, 1) := by decide +kernel
theorem dAL_init_1 : decode prog_23_method_1_code 1 = .ok (.invokespecial 1, 3) := by decide +kernel
theorem dAL_init_4 : decode prog_23_method_1_code 4 = .ok (.aload_n 0, 1) := by decide +kernel
theorem dAL_init_5 : decode prog_23_method_1_code 5 = .ok (.iconst 0, 1) := by decide +kernel
theorem dAL_init_6 : decode prog_23_method_1_code 6 = .ok (.putfield 7, 3) := by decide +kernel
theorem dAL_init_9 : decode prog_23_method_1_code 9 = .ok (.return_, 1) := by decide +kernel
theorem dAC_init_0 : decode prog_22_method_1_code 0 = .ok (.aload_n 0, 1) := by decide +kernel
theorem dAC_init_1 : decode prog_22_method_1_code 1 = .ok (.invokespecial 1, 3) := by decide +kernel
theorem dAC_init_4 : decode prog_22_method_1_code 4 = .ok (.return_, 1) := by decide +kernel
theorem dA_size_0 : decode prog_24_method_8_code 0 = .ok (.aload_n 0, 1) := by decide +kernel
theorem dA_size_1 : decode prog_24_method_8_code 1 = .ok (.getfield 48, 3) := by decide +kernel
theorem dA_size_4 : decode prog_24_method_8_code 4 = .ok (.ireturn, 1) := by decide +kernel
theorem dA_get_0 : decode prog_24_method_20_code 0 = .ok (.iload_n 1, 1) := by decide +kernel
theorem dA_get_1 : decode prog_24_method_20_code 1 = .ok (.aload_n 0, 1) := by decide +kernel
theorem dA_get_2 : decode prog_24_method_20_code 2 = .ok (.getfield 48, 3) := by decide +kernel
theorem dA_get_5 : decode prog_24_method_20_code 5 = .ok (.invokestatic 118, 3) := by decide +kernel
theorem dA_get_8 : decode prog_24_method_20_code 8 = .ok (.pop, 1) := by decide +kernel
theorem dA_get_9 : decode prog_24_method_20_code 9 = .ok (.aload_n 0, 1) := by decide +kernel
theorem dA_get_10 : decode prog_24_method_20_code 10 = .ok (.iload_n 1, 1) := by decide +kernel
theorem dA_get_11 : decode prog_24_method_20_code 11 = .ok (.invokevirtual 123, 3) := by decide +kernel
theorem dA_get_14 : decode prog_24_method_20_code 14 = .ok (.areturn, 1) := by decide +kernel
theorem dO_checkIndex_0 : decode prog_28_method_17_code 0 = .ok (.iload_n 0, 1) := by decide +kernel
theorem dO_checkIndex_1 : decode prog_28_method_17_code 1 = .ok (.iload_n 1, 1) := by decide +kernel
theorem dO_checkIndex_2 : decode prog_28_method_17_code 2 = .ok (.aconst_null, 1) := by decide +kernel
theorem dO_checkIndex_3 : decode prog_28_method_17_code 3 = .ok (.invokestatic 105, 3) := by decide +kernel
theorem dO_checkIndex_6 : decode prog_28_method_17_code 6 = .ok (.ireturn, 1) := by decide +kernel
theorem dPC_checkIndex_0 : decode prog_32_method_11_code 0 = .ok (.iload_n 0, 1) := by decide +kernel
theorem dPC_checkIndex_1 : decode prog_32_method_11_code 1 = .ok (.ifCond .lt 8, 3) := by decide +kernel
theorem dPC_checkIndex_4 : decode prog_32_method_11_code 4 = .ok (.iload_n 0, 1) := by decide +kernel
theorem dPC_checkIndex_5 : decode prog_32_method_11_code 5 = .ok (.iload_n 1, 1) := by decide +kernel
theorem dPC_checkIndex_6 : decode prog_32_method_11_code 6 = .ok (.if_icmp .lt 10, 3) := by decide +kernel
theorem dPC_checkIndex_9 : decode prog_32_method_11_code 9 = .ok (.aload_n 2, 1) := by decide +kernel
theorem dPC_checkIndex_10 : decode prog_32_method_11_code 10 = .ok (.iload_n 0, 1) := by decide +kernel
theorem dPC_checkIndex_11 : decode prog_32_method_11_code 11 = .ok (.iload_n 1, 1) := by decide +kernel
theorem dPC_checkIndex_12 : decode prog_32_method_11_code 12 = .ok (.invokestatic 95, 3) := by decide +kernel
theorem dPC_checkIndex_15 : decode prog_32_method_11_code 15 = .ok (.athrow, 1) := by decide +kernel
theorem dPC_checkIndex_16 : decode prog_32_method_11_code 16 = .ok (.iload_n 0, 1) := by decide +kernel
theorem dPC_checkIndex_17 : decode prog_32_method_11_code 17 = .ok (.ireturn, 1) := by decide +kernel
theorem dA_elementData_0 : decode prog_24_method_18_code 0 = .ok (.aload_n 0, 1) := by decide +kernel
theorem dA_elementData_1 : decode prog_24_method_18_code 1 = .ok (.getfield 9, 3) := by decide +kernel
theorem dA_elementData_4 : decode prog_24_method_18_code 4 = .ok (.iload_n 1, 1) := by decide +kernel
theorem dA_elementData_5 : decode prog_24_method_18_code 5 = .ok (.aaload, 1) := by decide +kernel
theorem dA_elementData_6 : decode prog_24_method_18_code 6 = .ok (.areturn, 1) := by decide +kernel
theorem dA_isEmpty_0 : decode prog_24_method_9_code 0 = .ok (.aload_n 0, 1) := by decide +kernel
theorem dA_isEmpty_1 : decode prog_24_method_9_code 1 = .ok (.getfield 48, 3) := by decide +kernel
theorem dA_isEmpty_4 : decode prog_24_method_9_code 4 = .ok (.ifCond .ne 7, 3) := by decide +kernel
theorem dA_isEmpty_7 : decode prog_24_method_9_code 7 = .ok (.iconst 1, 1) := by decide +kernel
theorem dA_isEmpty_8 : decode prog_24_method_9_code 8 = .ok (.goto 4, 3) := by decide +kernel
theorem dA_isEmpty_11 : decode prog_24_method_9_code 11 = .ok (.iconst 0, 1) := by decide +kernel
theorem dA_isEmpty_12 : decode prog_24_method_9_code 12 = .ok (.ireturn, 1) := by decide +kernel
theorem dMA_max_0 : decode prog_16_method_65_code 0 = .ok (.iload_n 0, 1) := by decide +kernel
theorem dMA_max_1 : decode prog_16_method_65_code 1 = .ok (.iload_n 1, 1) := by decide +kernel
theorem dMA_max_2 : decode prog_16_method_65_code 2 = .ok (.if_icmp .lt 7, 3) := by decide +kernel
theorem dMA_max_5 : decode prog_16_method_65_code 5 = .ok (.iload_n 0, 1) := by decide +kernel
theorem dMA_max_6 : decode prog_16_method_65_code 6 = .ok (.goto 4, 3) := by decide +kernel
theorem dMA_max_9 : decode prog_16_method_65_code 9 = .ok (.iload_n 1, 1) := by decide +kernel
theorem dMA_max_10 : decode prog_16_method_65_code 10 = .ok (.ireturn, 1) := by decide +kernel
theorem dL_page_0 : decode method_3_code 0 = .ok (.aload_n 3, 1) := by decide +kernel
theorem dL_page_1 : decode method_3_code 1 = .ok (.iconst 0, 1) := by decide +kernel
theorem dL_page_2 : decode method_3_code 2 = .ok (.aload_n 0, 1) := by decide +kernel
theorem dL_page_3 : decode method_3_code 3 = .ok (.iload_n 1, 1) := by decide +kernel
theorem dL_page_4 : decode method_3_code 4 = .ok (.iload_n 2, 1) := by decide +kernel
theorem dL_page_5 : decode method_3_code 5 = .ok (.invokevirtual 7, 3) := by decide +kernel
theorem dL_page_8 : decode method_3_code 8 = .ok (.i2l, 1) := by decide +kernel
theorem dL_page_9 : decode method_3_code 9 = .ok (.lastore, 1) := by decide +kernel
theorem dL_page_10 : decode method_3_code 10 = .ok (.goto 15, 3) := by decide +kernel
theorem dL_page_13 : decode method_3_code 13 = .ok (.astore 4, 2) := by decide +kernel
theorem dL_page_15 : decode method_3_code 15 = .ok (.iconst 1, 1) := by decide +kernel
theorem dL_page_16 : decode method_3_code 16 = .ok (.ireturn, 1) := by decide +kernel
theorem dL_page_17 : decode method_3_code 17 = .ok (.astore 4, 2) := by decide +kernel
theorem dL_page_19 : decode method_3_code 19 = .ok (.iconst 2, 1) := by decide +kernel
theorem dL_page_20 : decode method_3_code 20 = .ok (.ireturn, 1) := by decide +kernel
theorem dL_page_21 : decode method_3_code 21 = .ok (.astore 4, 2) := by decide +kernel
theorem dL_page_23 : decode method_3_code 23 = .ok (.iconst 3, 1) := by decide +kernel
theorem dL_page_24 : decode method_3_code 24 = .ok (.ireturn, 1) := by decide +kernel
theorem dL_page_25 : decode method_3_code 25 = .ok (.iconst 0, 1) := by decide +kernel
theorem dL_page_26 : decode method_3_code 26 = .ok (.ireturn, 1) := by decide +kernel
theorem dA_add1_0 : decode prog_24_method_25_code 0 = .ok (.aload_n 0, 1) := by decide +kernel
theorem dA_add1_1 : decode prog_24_method_25_code 1 = .ok (.dup, 1) := by decide +kernel
theorem dA_add1_2 : decode prog_24_method_25_code 2 = .ok (.getfield 63, 3) := by decide +kernel
theorem dA_add1_5 : decode prog_24_method_25_code 5 = .ok (.iconst 1, 1) := by decide +kernel
theorem dA_add1_6 : decode prog_24_method_25_code 6 = .ok (.iadd, 1) := by decide +kernel
theorem dA_add1_7 : decode prog_24_method_25_code 7 = .ok (.putfield 63, 3) := by decide +kernel
theorem dA_add1_10 : decode prog_24_method_25_code 10 = .ok (.aload_n 0, 1) := by decide +kernel
theorem dA_add1_11 : decode prog_24_method_25_code 11 = .ok (.aload_n 1, 1) := by decide +kernel
theorem dA_add1_12 : decode prog_24_method_25_code 12 = .ok (.aload_n 0, 1) := by decide +kernel
theorem dA_add1_13 : decode prog_24_method_25_code 13 = .ok (.getfield 9, 3) := by decide +kernel
theorem dA_add1_16 : decode prog_24_method_25_code 16 = .ok (.aload_n 0, 1) := by decide +kernel
theorem dA_add1_17 : decode prog_24_method_25_code 17 = .ok (.getfield 48, 3) := by decide +kernel
theorem dA_add1_20 : decode prog_24_method_25_code 20 = .ok (.invokevirtual 131, 3) := by decide +kernel
theorem dA_add1_23 : decode prog_24_method_25_code 23 = .ok (.iconst 1, 1) := by decide +kernel
theorem dA_add1_24 : decode prog_24_method_25_code 24 = .ok (.ireturn, 1) := by decide +kernel
theorem dA_add3_0 : decode prog_24_method_24_code 0 = .ok (.iload_n 3, 1) := by decide +kernel
theorem dA_add3_1 : decode prog_24_method_24_code 1 = .ok (.aload_n 2, 1) := by decide +kernel
theorem dA_add3_2 : decode prog_24_method_24_code 2 = .ok (.arraylength, 1) := by decide +kernel
theorem dA_add3_3 : decode prog_24_method_24_code 3 = .ok (.if_icmp .ne 8, 3) := by decide +kernel
theorem dA_add3_6 : decode prog_24_method_24_code 6 = .ok (.aload_n 0, 1) := by decide +kernel
theorem dA_add3_7 : decode prog_24_method_24_code 7 = .ok (.invokevirtual 129, 3) := by decide +kernel
theorem dA_add3_10 : decode prog_24_method_24_code 10 = .ok (.astore_n 2, 1) := by decide +kernel
theorem dA_add3_11 : decode prog_24_method_24_code 11 = .ok (.aload_n 2, 1) := by decide +kernel
theorem dA_add3_12 : decode prog_24_method_24_code 12 = .ok (.iload_n 3, 1) := by decide +kernel
theorem dA_add3_13 : decode prog_24_method_24_code 13 = .ok (.aload_n 1, 1) := by decide +kernel
theorem dA_add3_14 : decode prog_24_method_24_code 14 = .ok (.aastore, 1) := by decide +kernel
theorem dA_add3_15 : decode prog_24_method_24_code 15 = .ok (.aload_n 0, 1) := by decide +kernel
theorem dA_add3_16 : decode prog_24_method_24_code 16 = .ok (.iload_n 3, 1) := by decide +kernel
theorem dA_add3_17 : decode prog_24_method_24_code 17 = .ok (.iconst 1, 1) := by decide +kernel
theorem dA_add3_18 : decode prog_24_method_24_code 18 = .ok (.iadd, 1) := by decide +kernel
theorem dA_add3_19 : decode prog_24_method_24_code 19 = .ok (.putfield 48, 3) := by decide +kernel
theorem dA_add3_22 : decode prog_24_method_24_code 22 = .ok (.return_, 1) := by decide +kernel
theorem dA_grow0_0 : decode prog_24_method_7_code 0 = .ok (.aload_n 0, 1) := by decide +kernel
theorem dA_grow0_1 : decode prog_24_method_7_code 1 = .ok (.aload_n 0, 1) := by decide +kernel
theorem dA_grow0_2 : decode prog_24_method_7_code 2 = .ok (.getfield 48, 3) := by decide +kernel
theorem dA_grow0_5 : decode prog_24_method_7_code 5 = .ok (.iconst 1, 1) := by decide +kernel
theorem dA_grow0_6 : decode prog_24_method_7_code 6 = .ok (.iadd, 1) := by decide +kernel
theorem dA_grow0_7 : decode prog_24_method_7_code 7 = .ok (.invokevirtual 69, 3) := by decide +kernel
theorem dA_grow0_10 : decode prog_24_method_7_code 10 = .ok (.areturn, 1) := by decide +kernel
theorem dA_grow1_0 : decode prog_24_method_6_code 0 = .ok (.aload_n 0, 1) := by decide +kernel
theorem dA_grow1_1 : decode prog_24_method_6_code 1 = .ok (.getfield 9, 3) := by decide +kernel
theorem dA_grow1_4 : decode prog_24_method_6_code 4 = .ok (.arraylength, 1) := by decide +kernel
theorem dA_grow1_5 : decode prog_24_method_6_code 5 = .ok (.istore_n 2, 1) := by decide +kernel
theorem dA_grow1_6 : decode prog_24_method_6_code 6 = .ok (.iload_n 2, 1) := by decide +kernel
theorem dA_grow1_7 : decode prog_24_method_6_code 7 = .ok (.ifCond .gt 13, 3) := by decide +kernel
theorem dA_grow1_10 : decode prog_24_method_6_code 10 = .ok (.aload_n 0, 1) := by decide +kernel
theorem dA_grow1_11 : decode prog_24_method_6_code 11 = .ok (.getfield 9, 3) := by decide +kernel
theorem dA_grow1_14 : decode prog_24_method_6_code 14 = .ok (.getstatic 39, 3) := by decide +kernel
theorem dA_grow1_17 : decode prog_24_method_6_code 17 = .ok (.if_acmp .eq 28, 3) := by decide +kernel
theorem dA_grow1_20 : decode prog_24_method_6_code 20 = .ok (.iload_n 2, 1) := by decide +kernel
theorem dA_grow1_21 : decode prog_24_method_6_code 21 = .ok (.iload_n 1, 1) := by decide +kernel
theorem dA_grow1_22 : decode prog_24_method_6_code 22 = .ok (.iload_n 2, 1) := by decide +kernel
theorem dA_grow1_23 : decode prog_24_method_6_code 23 = .ok (.isub, 1) := by decide +kernel
theorem dA_grow1_24 : decode prog_24_method_6_code 24 = .ok (.iload_n 2, 1) := by decide +kernel
theorem dA_grow1_25 : decode prog_24_method_6_code 25 = .ok (.iconst 1, 1) := by decide +kernel
theorem dA_grow1_26 : decode prog_24_method_6_code 26 = .ok (.ishr, 1) := by decide +kernel
theorem dA_grow1_27 : decode prog_24_method_6_code 27 = .ok (.invokestatic 73, 3) := by decide +kernel
theorem dA_grow1_30 : decode prog_24_method_6_code 30 = .ok (.istore_n 3, 1) := by decide +kernel
theorem dA_grow1_31 : decode prog_24_method_6_code 31 = .ok (.aload_n 0, 1) := by decide +kernel
theorem dA_grow1_32 : decode prog_24_method_6_code 32 = .ok (.aload_n 0, 1) := by decide +kernel
theorem dA_grow1_33 : decode prog_24_method_6_code 33 = .ok (.getfield 9, 3) := by decide +kernel
theorem dA_grow1_36 : decode prog_24_method_6_code 36 = .ok (.iload_n 3, 1) := by decide +kernel
theorem dA_grow1_37 : decode prog_24_method_6_code 37 = .ok (.invokestatic 66, 3) := by decide +kernel
theorem dA_grow1_40 : decode prog_24_method_6_code 40 = .ok (.dup_x1, 1) := by decide +kernel
theorem dA_grow1_41 : decode prog_24_method_6_code 41 = .ok (.putfield 9, 3) := by decide +kernel
theorem dA_grow1_44 : decode prog_24_method_6_code 44 = .ok (.areturn, 1) := by decide +kernel
theorem dA_grow1_45 : decode prog_24_method_6_code 45 = .ok (.aload_n 0, 1) := by decide +kernel
theorem dA_grow1_46 : decode prog_24_method_6_code 46 = .ok (.bipush 10, 2) := by decide +kernel
theorem dA_grow1_48 : decode prog_24_method_6_code 48 = .ok (.iload_n 1, 1) := by decide +kernel
theorem dA_grow1_49 : decode prog_24_method_6_code 49 = .ok (.invokestatic 79, 3) := by decide +kernel
theorem dA_grow1_52 : decode prog_24_method_6_code 52 = .ok (.anewarray 7, 3) := by decide +kernel
theorem dA_grow1_55 : decode prog_24_method_6_code 55 = .ok (.dup_x1, 1) := by decide +kernel
theorem dA_grow1_56 : decode prog_24_method_6_code 56 = .ok (.putfield 9, 3) := by decide +kernel
theorem dA_grow1_59 : decode prog_24_method_6_code 59 = .ok (.areturn, 1) := by decide +kernel
theorem dAS_newLength_0 : decode prog_31_method_27_code 0 = .ok (.iload_n 0, 1) := by decide +kernel
theorem dAS_newLength_1 : decode prog_31_method_27_code 1 = .ok (.iload_n 1, 1) := by decide +kernel
theorem dAS_newLength_2 : decode prog_31_method_27_code 2 = .ok (.iload_n 2, 1) := by decide +kernel
theorem dAS_newLength_3 : decode prog_31_method_27_code 3 = .ok (.invokestatic 194, 3) := by decide +kernel
theorem dAS_newLength_6 : decode prog_31_method_27_code 6 = .ok (.iadd, 1) := by decide +kernel
theorem dAS_newLength_7 : decode prog_31_method_27_code 7 = .ok (.istore_n 3, 1) := by decide +kernel
theorem dAS_newLength_8 : decode prog_31_method_27_code 8 = .ok (.iconst 0, 1) := by decide +kernel
theorem dAS_newLength_9 : decode prog_31_method_27_code 9 = .ok (.iload_n 3, 1) := by decide +kernel
theorem dAS_newLength_10 : decode prog_31_method_27_code 10 = .ok (.if_icmp .ge 11, 3) := by decide +kernel
theorem dAS_newLength_13 : decode prog_31_method_27_code 13 = .ok (.iload_n 3, 1) := by decide +kernel
theorem dAS_newLength_14 : decode prog_31_method_27_code 14 = .ok (.ldc 200, 2) := by decide +kernel
theorem dAS_newLength_16 : decode prog_31_method_27_code 16 = .ok (.if_icmp .gt 5, 3) := by decide +kernel
theorem dAS_newLength_19 : decode prog_31_method_27_code 19 = .ok (.iload_n 3, 1) := by decide +kernel
theorem dAS_newLength_20 : decode prog_31_method_27_code 20 = .ok (.ireturn, 1) := by decide +kernel
theorem dAS_newLength_21 : decode prog_31_method_27_code 21 = .ok (.iload_n 0, 1) := by decide +kernel
theorem dAS_newLength_22 : decode prog_31_method_27_code 22 = .ok (.iload_n 1, 1) := by decide +kernel
theorem dAS_newLength_23 : decode prog_31_method_27_code 23 = .ok (.invokestatic 201, 3) := by decide +kernel
theorem dAS_newLength_26 : decode prog_31_method_27_code 26 = .ok (.ireturn, 1) := by decide +kernel
theorem dAS_hugeLength_0 : decode prog_31_method_28_code 0 = .ok (.iload_n 0, 1) := by decide +kernel
theorem dAS_hugeLength_1 : decode prog_31_method_28_code 1 = .ok (.iload_n 1, 1) := by decide +kernel
theorem dAS_hugeLength_2 : decode prog_31_method_28_code 2 = .ok (.iadd, 1) := by decide +kernel
theorem dAS_hugeLength_3 : decode prog_31_method_28_code 3 = .ok (.istore_n 2, 1) := by decide +kernel
theorem dAS_hugeLength_4 : decode prog_31_method_28_code 4 = .ok (.iload_n 2, 1) := by decide +kernel
theorem dAS_hugeLength_5 : decode prog_31_method_28_code 5 = .ok (.ifCond .ge 44, 3) := by decide +kernel
theorem dAS_hugeLength_8 : decode prog_31_method_28_code 8 = .ok (.new 204, 3) := by decide +kernel
theorem dAS_hugeLength_11 : decode prog_31_method_28_code 11 = .ok (.dup, 1) := by decide +kernel
theorem dAS_hugeLength_12 : decode prog_31_method_28_code 12 = .ok (.new 89, 3) := by decide +kernel
theorem dAS_hugeLength_15 : decode prog_31_method_28_code 15 = .ok (.dup, 1) := by decide +kernel
theorem dAS_hugeLength_16 : decode prog_31_method_28_code 16 = .ok (.invokespecial 91, 3) := by decide +kernel
theorem dAS_hugeLength_19 : decode prog_31_method_28_code 19 = .ok (.ldc 206, 2) := by decide +kernel
theorem dAS_hugeLength_21 : decode prog_31_method_28_code 21 = .ok (.invokevirtual 94, 3) := by decide +kernel
theorem dAS_hugeLength_24 : decode prog_31_method_28_code 24 = .ok (.iload_n 0, 1) := by decide +kernel
theorem dAS_hugeLength_25 : decode prog_31_method_28_code 25 = .ok (.invokevirtual 98, 3) := by decide +kernel
theorem dAS_hugeLength_28 : decode prog_31_method_28_code 28 = .ok (.ldc 208, 2) := by decide +kernel
theorem dAS_hugeLength_30 : decode prog_31_method_28_code 30 = .ok (.invokevirtual 94, 3) := by decide +kernel
theorem dAS_hugeLength_33 : decode prog_31_method_28_code 33 = .ok (.iload_n 1, 1) := by decide +kernel
theorem dAS_hugeLength_34 : decode prog_31_method_28_code 34 = .ok (.invokevirtual 98, 3) := by decide +kernel
theorem dAS_hugeLength_37 : decode prog_31_method_28_code 37 = .ok (.ldc 210, 2) := by decide +kernel
theorem dAS_hugeLength_39 : decode prog_31_method_28_code 39 = .ok (.invokevirtual 94, 3) := by decide +kernel
theorem dAS_hugeLength_42 : decode prog_31_method_28_code 42 = .ok (.invokevirtual 101, 3) := by decide +kernel
theorem dAS_hugeLength_45 : decode prog_31_method_28_code 45 = .ok (.invokespecial 212, 3) := by decide +kernel
theorem dAS_hugeLength_48 : decode prog_31_method_28_code 48 = .ok (.athrow, 1) := by decide +kernel
theorem dAS_hugeLength_49 : decode prog_31_method_28_code 49 = .ok (.iload_n 2, 1) := by decide +kernel
theorem dAS_hugeLength_50 : decode prog_31_method_28_code 50 = .ok (.ldc 200, 2) := by decide +kernel
theorem dAS_hugeLength_52 : decode prog_31_method_28_code 52 = .ok (.if_icmp .gt 6, 3) := by decide +kernel
theorem dAS_hugeLength_55 : decode prog_31_method_28_code 55 = .ok (.ldc 200, 2) := by decide +kernel
theorem dAS_hugeLength_57 : decode prog_31_method_28_code 57 = .ok (.ireturn, 1) := by decide +kernel
theorem dAS_hugeLength_58 : decode prog_31_method_28_code 58 = .ok (.iload_n 2, 1) := by decide +kernel
theorem dAS_hugeLength_59 : decode prog_31_method_28_code 59 = .ok (.ireturn, 1) := by decide +kernel
theorem dMA_min_0 : decode prog_16_method_69_code 0 = .ok (.iload_n 0, 1) := by decide +kernel
theorem dMA_min_1 : decode prog_16_method_69_code 1 = .ok (.iload_n 1, 1) := by decide +kernel
theorem dMA_min_2 : decode prog_16_method_69_code 2 = .ok (.if_icmp .gt 7, 3) := by decide +kernel
theorem dMA_min_5 : decode prog_16_method_69_code 5 = .ok (.iload_n 0, 1) := by decide +kernel
theorem dMA_min_6 : decode prog_16_method_69_code 6 = .ok (.goto 4, 3) := by decide +kernel
theorem dMA_min_9 : decode prog_16_method_69_code 9 = .ok (.iload_n 1, 1) := by decide +kernel
theorem dMA_min_10 : decode prog_16_method_69_code 10 = .ok (.ireturn, 1) := by decide +kernel
theorem dL_shape_0 : decode method_4_code 0 = .ok (.aload_n 3, 1) := by decide +kernel
theorem dL_shape_1 : decode method_4_code 1 = .ok (.iconst 0, 1) := by decide +kernel
theorem dL_shape_2 : decode method_4_code 2 = .ok (.aload_n 0, 1) := by decide +kernel
theorem dL_shape_3 : decode method_4_code 3 = .ok (.iload_n 1, 1) := by decide +kernel
theorem dL_shape_4 : decode method_4_code 4 = .ok (.iload_n 2, 1) := by decide +kernel
theorem dL_shape_5 : decode method_4_code 5 = .ok (.invokevirtual 19, 3) := by decide +kernel
theorem dL_shape_8 : decode method_4_code 8 = .ok (.i2l, 1) := by decide +kernel
theorem dL_shape_9 : decode method_4_code 9 = .ok (.lastore, 1) := by decide +kernel
theorem dL_shape_10 : decode method_4_code 10 = .ok (.goto 19, 3) := by decide +kernel
theorem dL_shape_13 : decode method_4_code 13 = .ok (.astore 4, 2) := by decide +kernel
theorem dL_shape_15 : decode method_4_code 15 = .ok (.iconst 1, 1) := by decide +kernel
theorem dL_shape_16 : decode method_4_code 16 = .ok (.ireturn, 1) := by decide +kernel
theorem dL_shape_17 : decode method_4_code 17 = .ok (.astore 4, 2) := by decide +kernel
theorem dL_shape_19 : decode method_4_code 19 = .ok (.iconst 2, 1) := by decide +kernel
theorem dL_shape_20 : decode method_4_code 20 = .ok (.ireturn, 1) := by decide +kernel
theorem dL_shape_21 : decode method_4_code 21 = .ok (.astore 4, 2) := by decide +kernel
theorem dL_shape_23 : decode method_4_code 23 = .ok (.iconst 3, 1) := by decide +kernel
theorem dL_shape_24 : decode method_4_code 24 = .ok (.ireturn, 1) := by decide +kernel
theorem dL_shape_25 : decode method_4_code 25 = .ok (.astore 4, 2) := by decide +kernel
theorem dL_shape_27 : decode method_4_code 27 = .ok (.iconst 4, 1) := by decide +kernel
theorem dL_shape_28 : decode method_4_code 28 = .ok (.ireturn, 1) := by decide +kernel
theorem dL_shape_29 : decode method_4_code 29 = .ok (.iconst 0, 1) := by decide +kernel
theorem dL_shape_30 : decode method_4_code 30 = .ok (.ireturn, 1) := by decide +kernel
theorem dL_theme_0 : decode method_5_code 0 = .ok (.aload_n 0, 1) := by decide +kernel
theorem dL_theme_1 : decode method_5_code 1 = .ok (.iload_n 1, 1) := by decide +kernel
theorem dL_theme_2 : decode method_5_code 2 = .ok (.iload_n 2, 1) := by decide +kernel
theorem dL_theme_3 : decode method_5_code 3 = .ok (.invokevirtual 24, 3) := by decide +kernel
theorem dL_theme_6 : decode method_5_code 6 = .ok (.goto 6, 3) := by decide +kernel
theorem dL_theme_9 : decode method_5_code 9 = .ok (.astore_n 3, 1) := by decide +kernel
theorem dL_theme_10 : decode method_5_code 10 = .ok (.iconst 1, 1) := by decide +kernel
theorem dL_theme_11 : decode method_5_code 11 = .ok (.ireturn, 1) := by decide +kernel
theorem dL_theme_12 : decode method_5_code 12 = .ok (.iconst 0, 1) := by decide +kernel
theorem dL_theme_13 : decode method_5_code 13 = .ok (.ireturn, 1) := by decide +kernel
theorem dL_set_0 : decode method_6_code 0 = .ok (.aload_n 0, 1) := by decide +kernel
theorem dL_set_1 : decode method_6_code 1 = .ok (.iload_n 1, 1) := by decide +kernel
theorem dL_set_2 : decode method_6_code 2 = .ok (.iload_n 2, 1) := by decide +kernel
theorem dL_set_3 : decode method_6_code 3 = .ok (.iload_n 3, 1) := by decide +kernel
theorem dL_set_4 : decode method_6_code 4 = .ok (.invokevirtual 28, 3) := by decide +kernel
theorem dL_set_7 : decode method_6_code 7 = .ok (.goto 11, 3) := by decide +kernel
theorem dL_set_10 : decode method_6_code 10 = .ok (.astore 4, 2) := by decide +kernel
theorem dL_set_12 : decode method_6_code 12 = .ok (.iconst 1, 1) := by decide +kernel
theorem dL_set_13 : decode method_6_code 13 = .ok (.ireturn, 1) := by decide +kernel
theorem dL_set_14 : decode method_6_code 14 = .ok (.astore 4, 2) := by decide +kernel
theorem dL_set_16 : decode method_6_code 16 = .ok (.iconst 2, 1) := by decide +kernel
theorem dL_set_17 : decode method_6_code 17 = .ok (.ireturn, 1) := by decide +kernel
theorem dL_set_18 : decode method_6_code 18 = .ok (.iconst 0, 1) := by decide +kernel
theorem dL_set_19 : decode method_6_code 19 = .ok (.ireturn, 1) := by decide +kernel
theorem dL_unset_0 : decode method_7_code 0 = .ok (.aload_n 3, 1) := by decide +kernel
theorem dL_unset_1 : decode method_7_code 1 = .ok (.iconst 0, 1) := by decide +kernel
theorem dL_unset_2 : decode method_7_code 2 = .ok (.aload_n 0, 1) := by decide +kernel
theorem dL_unset_3 : decode method_7_code 3 = .ok (.iload_n 1, 1) := by decide +kernel
theorem dL_unset_4 : decode method_7_code 4 = .ok (.iload_n 2, 1) := by decide +kernel
theorem dL_unset_5 : decode method_7_code 5 = .ok (.invokevirtual 32, 3) := by decide +kernel
theorem dL_unset_8 : decode method_7_code 8 = .ok (.ifCond .eq 7, 3) := by decide +kernel
theorem dL_unset_11 : decode method_7_code 11 = .ok (.lconst 1, 1) := by decide +kernel
theorem dL_unset_12 : decode method_7_code 12 = .ok (.goto 4, 3) := by decide +kernel
theorem dL_unset_15 : decode method_7_code 15 = .ok (.lconst 0, 1) := by decide +kernel
theorem dL_unset_16 : decode method_7_code 16 = .ok (.lastore, 1) := by decide +kernel
theorem dL_unset_17 : decode method_7_code 17 = .ok (.goto 11, 3) := by decide +kernel
theorem dL_unset_20 : decode method_7_code 20 = .ok (.astore 4, 2) := by decide +kernel
theorem dL_unset_22 : decode method_7_code 22 = .ok (.iconst 1, 1) := by decide +kernel
theorem dL_unset_23 : decode method_7_code 23 = .ok (.ireturn, 1) := by decide +kernel
theorem dL_unset_24 : decode method_7_code 24 = .ok (.astore 4, 2) := by decide +kernel
theorem dL_unset_26 : decode method_7_code 26 = .ok (.iconst 2, 1) := by decide +kernel
theorem dL_unset_27 : decode method_7_code 27 = .ok (.ireturn, 1) := by decide +kernel
theorem dL_unset_28 : decode method_7_code 28 = .ok (.iconst 0, 1) := by decide +kernel
theorem dL_unset_29 : decode method_7_code 29 = .ok (.ireturn, 1) := by decide +kernel
theorem dL_resolved_0 : decode method_8_code 0 = .ok (.aload_n 3, 1) := by decide +kernel
theorem dL_resolved_1 : decode method_8_code 1 = .ok (.iconst 0, 1) := by decide +kernel
theorem dL_resolved_2 : decode method_8_code 2 = .ok (.aload_n 0, 1) := by decide +kernel
theorem dL_resolved_3 : decode method_8_code 3 = .ok (.iload_n 1, 1) := by decide +kernel
theorem dL_resolved_4 : decode method_8_code 4 = .ok (.iload_n 2, 1) := by decide +kernel
theorem dL_resolved_5 : decode method_8_code 5 = .ok (.invokevirtual 36, 3) := by decide +kernel
theorem dL_resolved_8 : decode method_8_code 8 = .ok (.i2l, 1) := by decide +kernel
theorem dL_resolved_9 : decode method_8_code 9 = .ok (.lastore, 1) := by decide +kernel
theorem dL_resolved_10 : decode method_8_code 10 = .ok (.goto 11, 3) := by decide +kernel
theorem dL_resolved_13 : decode method_8_code 13 = .ok (.astore 4, 2) := by decide +kernel
theorem dL_resolved_15 : decode method_8_code 15 = .ok (.iconst 1, 1) := by decide +kernel
theorem dL_resolved_16 : decode method_8_code 16 = .ok (.ireturn, 1) := by decide +kernel
theorem dL_resolved_17 : decode method_8_code 17 = .ok (.astore 4, 2) := by decide +kernel
theorem dL_resolved_19 : decode method_8_code 19 = .ok (.iconst 2, 1) := by decide +kernel
theorem dL_resolved_20 : decode method_8_code 20 = .ok (.ireturn, 1) := by decide +kernel
theorem dL_resolved_21 : decode method_8_code 21 = .ok (.iconst 0, 1) := by decide +kernel
theorem dL_resolved_22 : decode method_8_code 22 = .ok (.ireturn, 1) := by decide +kernel
theorem dL_origin_0 : decode method_9_code 0 = .ok (.aload_n 3, 1) := by decide +kernel
theorem dL_origin_1 : decode method_9_code 1 = .ok (.iconst 0, 1) := by decide +kernel
theorem dL_origin_2 : decode method_9_code 2 = .ok (.aload_n 0, 1) := by decide +kernel
theorem dL_origin_3 : decode method_9_code 3 = .ok (.iload_n 1, 1) := by decide +kernel
theorem dL_origin_4 : decode method_9_code 4 = .ok (.iload_n 2, 1) := by decide +kernel
theorem dL_origin_5 : decode method_9_code 5 = .ok (.invokevirtual 39, 3) := by decide +kernel
theorem dL_origin_8 : decode method_9_code 8 = .ok (.i2l, 1) := by decide +kernel
theorem dL_origin_9 : decode method_9_code 9 = .ok (.lastore, 1) := by decide +kernel
theorem dL_origin_10 : decode method_9_code 10 = .ok (.goto 11, 3) := by decide +kernel
theorem dL_origin_13 : decode method_9_code 13 = .ok (.astore 4, 2) := by decide +kernel
theorem dL_origin_15 : decode method_9_code 15 = .ok (.iconst 1, 1) := by decide +kernel
theorem dL_origin_16 : decode method_9_code 16 = .ok (.ireturn, 1) := by decide +kernel
theorem dL_origin_17 : decode method_9_code 17 = .ok (.astore 4, 2) := by decide +kernel
theorem dL_origin_19 : decode method_9_code 19 = .ok (.iconst 2, 1) := by decide +kernel
theorem dL_origin_20 : decode method_9_code 20 = .ok (.ireturn, 1) := by decide +kernel
theorem dL_origin_21 : decode method_9_code 21 = .ok (.iconst 0, 1) := by decide +kernel
theorem dL_origin_22 : decode method_9_code 22 = .ok (.ireturn, 1) := by decide +kernel
theorem dL_binding_0 : decode method_10_code 0 = .ok (.aload_n 2, 1) := by decide +kernel
theorem dL_binding_1 : decode method_10_code 1 = .ok (.iconst 0, 1) := by decide +kernel
theorem dL_binding_2 : decode method_10_code 2 = .ok (.aload_n 0, 1) := by decide +kernel
theorem dL_binding_3 : decode method_10_code 3 = .ok (.iload_n 1, 1) := by decide +kernel
theorem dL_binding_4 : decode method_10_code 4 = .ok (.invokevirtual 42, 3) := by decide +kernel
theorem dL_binding_7 : decode method_10_code 7 = .ok (.i2l, 1) := by decide +kernel
theorem dL_binding_8 : decode method_10_code 8 = .ok (.lastore, 1) := by decide +kernel
theorem dL_binding_9 : decode method_10_code 9 = .ok (.goto 6, 3) := by decide +kernel
theorem dL_binding_12 : decode method_10_code 12 = .ok (.astore_n 3, 1) := by decide +kernel
theorem dL_binding_13 : decode method_10_code 13 = .ok (.iconst 1, 1) := by decide +kernel
theorem dL_binding_14 : decode method_10_code 14 = .ok (.ireturn, 1) := by decide +kernel
theorem dL_binding_15 : decode method_10_code 15 = .ok (.iconst 0, 1) := by decide +kernel
theorem dL_binding_16 : decode method_10_code 16 = .ok (.ireturn, 1) := by decide +kernel
theorem dL_write_0 : decode method_11_code 0 = .ok (.aload 4, 2) := by decide +kernel
theorem dL_write_2 : decode method_11_code 2 = .ok (.iconst 0, 1) := by decide +kernel
theorem dL_write_3 : decode method_11_code 3 = .ok (.aload_n 0, 1) := by decide +kernel
theorem dL_write_4 : decode method_11_code 4 = .ok (.iload_n 1, 1) := by decide +kernel
theorem dL_write_5 : decode method_11_code 5 = .ok (.iload_n 2, 1) := by decide +kernel
theorem dL_write_6 : decode method_11_code 6 = .ok (.iload_n 3, 1) := by decide +kernel
theorem dL_write_7 : decode method_11_code 7 = .ok (.invokevirtual 46, 3) := by decide +kernel
theorem dL_write_10 : decode method_11_code 10 = .ok (.i2l, 1) := by decide +kernel
theorem dL_write_11 : decode method_11_code 11 = .ok (.lastore, 1) := by decide +kernel
theorem dL_write_12 : decode method_11_code 12 = .ok (.goto 15, 3) := by decide +kernel
theorem dL_write_15 : decode method_11_code 15 = .ok (.astore 5, 2) := by decide +kernel
theorem dL_write_17 : decode method_11_code 17 = .ok (.iconst 1, 1) := by decide +kernel
theorem dL_write_18 : decode method_11_code 18 = .ok (.ireturn, 1) := by decide +kernel
theorem dL_write_19 : decode method_11_code 19 = .ok (.astore 5, 2) := by decide +kernel
theorem dL_write_21 : decode method_11_code 21 = .ok (.iconst 2, 1) := by decide +kernel
theorem dL_write_22 : decode method_11_code 22 = .ok (.ireturn, 1) := by decide +kernel
theorem dL_write_23 : decode method_11_code 23 = .ok (.astore 5, 2) := by decide +kernel
theorem dL_write_25 : decode method_11_code 25 = .ok (.iconst 3, 1) := by decide +kernel
theorem dL_write_26 : decode method_11_code 26 = .ok (.ireturn, 1) := by decide +kernel
theorem dL_write_27 : decode method_11_code 27 = .ok (.iconst 0, 1) := by decide +kernel
theorem dL_write_28 : decode method_11_code 28 = .ok (.ireturn, 1) := by decide +kernel
theorem dL_scale_0 : decode method_12_code 0 = .ok (.aload_n 2, 1) := by decide +kernel
theorem dL_scale_1 : decode method_12_code 1 = .ok (.iconst 0, 1) := by decide +kernel
theorem dL_scale_2 : decode method_12_code 2 = .ok (.aload_n 0, 1) := by decide +kernel
theorem dL_scale_3 : decode method_12_code 3 = .ok (.iload_n 1, 1) := by decide +kernel
theorem dL_scale_4 : decode method_12_code 4 = .ok (.invokevirtual 50, 3) := by decide +kernel
theorem dL_scale_7 : decode method_12_code 7 = .ok (.i2l, 1) := by decide +kernel
theorem dL_scale_8 : decode method_12_code 8 = .ok (.lastore, 1) := by decide +kernel
theorem dL_scale_9 : decode method_12_code 9 = .ok (.goto 6, 3) := by decide +kernel
theorem dL_scale_12 : decode method_12_code 12 = .ok (.astore_n 3, 1) := by decide +kernel
theorem dL_scale_13 : decode method_12_code 13 = .ok (.iconst 1, 1) := by decide +kernel
theorem dL_scale_14 : decode method_12_code 14 = .ok (.ireturn, 1) := by decide +kernel
theorem dL_scale_15 : decode method_12_code 15 = .ok (.iconst 0, 1) := by decide +kernel
theorem dL_scale_16 : decode method_12_code 16 = .ok (.ireturn, 1) := by decide +kernel
theorem dL_lines_0 : decode method_13_code 0 = .ok (.aload_n 2, 1) := by decide +kernel
theorem dL_lines_1 : decode method_13_code 1 = .ok (.iconst 0, 1) := by decide +kernel
theorem dL_lines_2 : decode method_13_code 2 = .ok (.aload_n 0, 1) := by decide +kernel
theorem dL_lines_3 : decode method_13_code 3 = .ok (.iload_n 1, 1) := by decide +kernel
theorem dL_lines_4 : decode method_13_code 4 = .ok (.invokevirtual 53, 3) := by decide +kernel
theorem dL_lines_7 : decode method_13_code 7 = .ok (.i2l, 1) := by decide +kernel
theorem dL_lines_8 : decode method_13_code 8 = .ok (.lastore, 1) := by decide +kernel
theorem dL_lines_9 : decode method_13_code 9 = .ok (.goto 6, 3) := by decide +kernel
theorem dL_lines_12 : decode method_13_code 12 = .ok (.astore_n 3, 1) := by decide +kernel
theorem dL_lines_13 : decode method_13_code 13 = .ok (.iconst 1, 1) := by decide +kernel
theorem dL_lines_14 : decode method_13_code 14 = .ok (.ireturn, 1) := by decide +kernel
theorem dL_lines_15 : decode method_13_code 15 = .ok (.iconst 0, 1) := by decide +kernel
theorem dL_lines_16 : decode method_13_code 16 = .ok (.ireturn, 1) := by decide +kernel
theorem dL_line_0 : decode method_14_code 0 = .ok (.aload 4, 2) := by decide +kernel
theorem dL_line_2 : decode method_14_code 2 = .ok (.iconst 0, 1) := by decide +kernel
theorem dL_line_3 : decode method_14_code 3 = .ok (.aload_n 0, 1) := by decide +kernel
theorem dL_line_4 : decode method_14_code 4 = .ok (.iload_n 1, 1) := by decide +kernel
theorem dL_line_5 : decode method_14_code 5 = .ok (.iload_n 2, 1) := by decide +kernel
theorem dL_line_6 : decode method_14_code 6 = .ok (.iload_n 3, 1) := by decide +kernel
theorem dL_line_7 : decode method_14_code 7 = .ok (.invokevirtual 56, 3) := by decide +kernel
theorem dL_line_10 : decode method_14_code 10 = .ok (.i2l, 1) := by decide +kernel
theorem dL_line_11 : decode method_14_code 11 = .ok (.lastore, 1) := by decide +kernel
theorem dL_line_12 : decode method_14_code 12 = .ok (.goto 7, 3) := by decide +kernel
theorem dL_line_15 : decode method_14_code 15 = .ok (.astore 5, 2) := by decide +kernel
theorem dL_line_17 : decode method_14_code 17 = .ok (.iconst 1, 1) := by decide +kernel
theorem dL_line_18 : decode method_14_code 18 = .ok (.ireturn, 1) := by decide +kernel
theorem dL_line_19 : decode method_14_code 19 = .ok (.iconst 0, 1) := by decide +kernel
theorem dL_line_20 : decode method_14_code 20 = .ok (.ireturn, 1) := by decide +kernel
theorem dL_number_0 : decode method_15_code 0 = .ok (.aload_n 3, 1) := by decide +kernel
theorem dL_number_1 : decode method_15_code 1 = .ok (.iconst 0, 1) := by decide +kernel
theorem dL_number_2 : decode method_15_code 2 = .ok (.aload_n 0, 1) := by decide +kernel
theorem dL_number_3 : decode method_15_code 3 = .ok (.iload_n 1, 1) := by decide +kernel
theorem dL_number_4 : decode method_15_code 4 = .ok (.iload_n 2, 1) := by decide +kernel
theorem dL_number_5 : decode method_15_code 5 = .ok (.invokevirtual 59, 3) := by decide +kernel
theorem dL_number_8 : decode method_15_code 8 = .ok (.i2l, 1) := by decide +kernel
theorem dL_number_9 : decode method_15_code 9 = .ok (.lastore, 1) := by decide +kernel
theorem dL_number_10 : decode method_15_code 10 = .ok (.goto 7, 3) := by decide +kernel
theorem dL_number_13 : decode method_15_code 13 = .ok (.astore 4, 2) := by decide +kernel
theorem dL_number_15 : decode method_15_code 15 = .ok (.iconst 1, 1) := by decide +kernel
theorem dL_number_16 : decode method_15_code 16 = .ok (.ireturn, 1) := by decide +kernel
theorem dL_number_17 : decode method_15_code 17 = .ok (.iconst 0, 1) := by decide +kernel
theorem dL_number_18 : decode method_15_code 18 = .ok (.ireturn, 1) := by decide +kernel
theorem dL_effect_0 : decode method_16_code 0 = .ok (.aload 6, 2) := by decide +kernel
theorem dL_effect_2 : decode method_16_code 2 = .ok (.iconst 0, 1) := by decide +kernel
theorem dL_effect_3 : decode method_16_code 3 = .ok (.aload_n 0, 1) := by decide +kernel
theorem dL_effect_4 : decode method_16_code 4 = .ok (.iload_n 1, 1) := by decide +kernel
theorem dL_effect_5 : decode method_16_code 5 = .ok (.iload_n 2, 1) := by decide +kernel
theorem dL_effect_6 : decode method_16_code 6 = .ok (.iload_n 3, 1) := by decide +kernel
theorem dL_effect_7 : decode method_16_code 7 = .ok (.iload 4, 2) := by decide +kernel
theorem dL_effect_9 : decode method_16_code 9 = .ok (.iload 5, 2) := by decide +kernel
theorem dL_effect_11 : decode method_16_code 11 = .ok (.invokevirtual 62, 3) := by decide +kernel
theorem dL_effect_14 : decode method_16_code 14 = .ok (.i2l, 1) := by decide +kernel
theorem dL_effect_15 : decode method_16_code 15 = .ok (.lastore, 1) := by decide +kernel
theorem dL_effect_16 : decode method_16_code 16 = .ok (.goto 19, 3) := by decide +kernel
theorem dL_effect_19 : decode method_16_code 19 = .ok (.astore 7, 2) := by decide +kernel
theorem dL_effect_21 : decode method_16_code 21 = .ok (.iconst 1, 1) := by decide +kernel
theorem dL_effect_22 : decode method_16_code 22 = .ok (.ireturn, 1) := by decide +kernel
theorem dL_effect_23 : decode method_16_code 23 = .ok (.astore 7, 2) := by decide +kernel
theorem dL_effect_25 : decode method_16_code 25 = .ok (.iconst 2, 1) := by decide +kernel
theorem dL_effect_26 : decode method_16_code 26 = .ok (.ireturn, 1) := by decide +kernel
theorem dL_effect_27 : decode method_16_code 27 = .ok (.astore 7, 2) := by decide +kernel
theorem dL_effect_29 : decode method_16_code 29 = .ok (.iconst 3, 1) := by decide +kernel
theorem dL_effect_30 : decode method_16_code 30 = .ok (.ireturn, 1) := by decide +kernel
theorem dL_effect_31 : decode method_16_code 31 = .ok (.astore 7, 2) := by decide +kernel
theorem dL_effect_33 : decode method_16_code 33 = .ok (.iconst 4, 1) := by decide +kernel
theorem dL_effect_34 : decode method_16_code 34 = .ok (.ireturn, 1) := by decide +kernel
theorem dL_effect_35 : decode method_16_code 35 = .ok (.iconst 0, 1) := by decide +kernel
theorem dL_effect_36 : decode method_16_code 36 = .ok (.ireturn, 1) := by decide +kernel
theorem dL_amount_0 : decode method_17_code 0 = .ok (.aload_n 0, 1) := by decide +kernel
theorem dL_amount_1 : decode method_17_code 1 = .ok (.iload_n 1, 1) := by decide +kernel
theorem dL_amount_2 : decode method_17_code 2 = .ok (.iload_n 2, 1) := by decide +kernel
theorem dL_amount_3 : decode method_17_code 3 = .ok (.invokevirtual 66, 3) := by decide +kernel
theorem dL_amount_6 : decode method_17_code 6 = .ok (.goto 9, 3) := by decide +kernel
theorem dL_amount_9 : decode method_17_code 9 = .ok (.astore_n 3, 1) := by decide +kernel
theorem dL_amount_10 : decode method_17_code 10 = .ok (.iconst 1, 1) := by decide +kernel
theorem dL_amount_11 : decode method_17_code 11 = .ok (.ireturn, 1) := by decide +kernel
theorem dL_amount_12 : decode method_17_code 12 = .ok (.astore_n 3, 1) := by decide +kernel
theorem dL_amount_13 : decode method_17_code 13 = .ok (.iconst 2, 1) := by decide +kernel
theorem dL_amount_14 : decode method_17_code 14 = .ok (.ireturn, 1) := by decide +kernel
theorem dL_amount_15 : decode method_17_code 15 = .ok (.iconst 0, 1) := by decide +kernel
theorem dL_amount_16 : decode method_17_code 16 = .ok (.ireturn, 1) := by decide +kernel
theorem dL_timing_0 : decode method_18_code 0 = .ok (.aload_n 3, 1) := by decide +kernel
theorem dL_timing_1 : decode method_18_code 1 = .ok (.iconst 0, 1) := by decide +kernel
theorem dL_timing_2 : decode method_18_code 2 = .ok (.aload_n 0, 1) := by decide +kernel
theorem dL_timing_3 : decode method_18_code 3 = .ok (.iload_n 1, 1) := by decide +kernel
theorem dL_timing_4 : decode method_18_code 4 = .ok (.iload_n 2, 1) := by decide +kernel
theorem dL_timing_5 : decode method_18_code 5 = .ok (.invokevirtual 69, 3) := by decide +kernel
theorem dL_timing_8 : decode method_18_code 8 = .ok (.i2l, 1) := by decide +kernel
theorem dL_timing_9 : decode method_18_code 9 = .ok (.lastore, 1) := by decide +kernel
theorem dL_timing_10 : decode method_18_code 10 = .ok (.goto 7, 3) := by decide +kernel
theorem dL_timing_13 : decode method_18_code 13 = .ok (.astore 4, 2) := by decide +kernel
theorem dL_timing_15 : decode method_18_code 15 = .ok (.iconst 1, 1) := by decide +kernel
theorem dL_timing_16 : decode method_18_code 16 = .ok (.ireturn, 1) := by decide +kernel
theorem dL_timing_17 : decode method_18_code 17 = .ok (.iconst 0, 1) := by decide +kernel
theorem dL_timing_18 : decode method_18_code 18 = .ok (.ireturn, 1) := by decide +kernel
theorem dL_jump_0 : decode method_19_code 0 = .ok (.aload_n 0, 1) := by decide +kernel
theorem dL_jump_1 : decode method_19_code 1 = .ok (.iload_n 1, 1) := by decide +kernel
theorem dL_jump_2 : decode method_19_code 2 = .ok (.invokevirtual 72, 3) := by decide +kernel
theorem dL_jump_5 : decode method_19_code 5 = .ok (.goto 6, 3) := by decide +kernel
theorem dL_jump_8 : decode method_19_code 8 = .ok (.astore_n 2, 1) := by decide +kernel
theorem dL_jump_9 : decode method_19_code 9 = .ok (.iconst 1, 1) := by decide +kernel
theorem dL_jump_10 : decode method_19_code 10 = .ok (.ireturn, 1) := by decide +kernel
theorem dL_jump_11 : decode method_19_code 11 = .ok (.iconst 0, 1) := by decide +kernel
theorem dL_jump_12 : decode method_19_code 12 = .ok (.ireturn, 1) := by decide +kernel
theorem dL_tick_0 : decode method_20_code 0 = .ok (.aload_n 0, 1) := by decide +kernel
theorem dL_tick_1 : decode method_20_code 1 = .ok (.iload_n 1, 1) := by decide +kernel
theorem dL_tick_2 : decode method_20_code 2 = .ok (.invokevirtual 76, 3) := by decide +kernel
theorem dL_tick_5 : decode method_20_code 5 = .ok (.goto 6, 3) := by decide +kernel
theorem dL_tick_8 : decode method_20_code 8 = .ok (.astore_n 2, 1) := by decide +kernel
theorem dL_tick_9 : decode method_20_code 9 = .ok (.iconst 1, 1) := by decide +kernel
theorem dL_tick_10 : decode method_20_code 10 = .ok (.ireturn, 1) := by decide +kernel
theorem dL_tick_11 : decode method_20_code 11 = .ok (.iconst 0, 1) := by decide +kernel
theorem dL_tick_12 : decode method_20_code 12 = .ok (.ireturn, 1) := by decide +kernel
theorem dL_now_0 : decode method_21_code 0 = .ok (.aload_n 3, 1) := by decide +kernel
theorem dL_now_1 : decode method_21_code 1 = .ok (.iconst 0, 1) := by decide +kernel
theorem dL_now_2 : decode method_21_code 2 = .ok (.aload_n 0, 1) := by decide +kernel
theorem dL_now_3 : decode method_21_code 3 = .ok (.iload_n 1, 1) := by decide +kernel
theorem dL_now_4 : decode method_21_code 4 = .ok (.iload_n 2, 1) := by decide +kernel
theorem dL_now_5 : decode method_21_code 5 = .ok (.invokevirtual 79, 3) := by decide +kernel
theorem dL_now_8 : decode method_21_code 8 = .ok (.i2l, 1) := by decide +kernel
theorem dL_now_9 : decode method_21_code 9 = .ok (.lastore, 1) := by decide +kernel
theorem dL_now_10 : decode method_21_code 10 = .ok (.goto 11, 3) := by decide +kernel
theorem dL_now_13 : decode method_21_code 13 = .ok (.astore 4, 2) := by decide +kernel
theorem dL_now_15 : decode method_21_code 15 = .ok (.iconst 1, 1) := by decide +kernel
theorem dL_now_16 : decode method_21_code 16 = .ok (.ireturn, 1) := by decide +kernel
theorem dL_now_17 : decode method_21_code 17 = .ok (.astore 4, 2) := by decide +kernel
theorem dL_now_19 : decode method_21_code 19 = .ok (.iconst 2, 1) := by decide +kernel
theorem dL_now_20 : decode method_21_code 20 = .ok (.ireturn, 1) := by decide +kernel
theorem dL_now_21 : decode method_21_code 21 = .ok (.iconst 0, 1) := by decide +kernel
theorem dL_now_22 : decode method_21_code 22 = .ok (.ireturn, 1) := by decide +kernel
