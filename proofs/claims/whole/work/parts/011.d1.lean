theorem d_CS_init_0 : decode b_CS_init 0 = .ok (.aload_n 0, 1) := by decide +kernel
theorem d_CS_init_1 : decode b_CS_init 1 = .ok (.invokespecial 1, 3) := by decide +kernel
theorem d_CS_init_4 : decode b_CS_init 4 = .ok (.aload_n 0, 1) := by decide +kernel
theorem d_CS_init_5 : decode b_CS_init 5 = .ok (.iconst 0, 1) := by decide +kernel
theorem d_CS_init_6 : decode b_CS_init 6 = .ok (.putfield 7, 3) := by decide +kernel
theorem d_CS_init_9 : decode b_CS_init 9 = .ok (.aload_n 0, 1) := by decide +kernel
theorem d_CS_init_10 : decode b_CS_init 10 = .ok (.iconst 0, 1) := by decide +kernel
theorem d_CS_init_11 : decode b_CS_init 11 = .ok (.putfield 13, 3) := by decide +kernel
theorem d_CS_init_14 : decode b_CS_init 14 = .ok (.aload_n 0, 1) := by decide +kernel
theorem d_CS_init_15 : decode b_CS_init 15 = .ok (.iconst 0, 1) := by decide +kernel
theorem d_CS_init_16 : decode b_CS_init 16 = .ok (.putfield 16, 3) := by decide +kernel
theorem d_CS_init_19 : decode b_CS_init 19 = .ok (.aload_n 0, 1) := by decide +kernel
theorem d_CS_init_20 : decode b_CS_init 20 = .ok (.iconst 0, 1) := by decide +kernel
theorem d_CS_init_21 : decode b_CS_init 21 = .ok (.putfield 19, 3) := by decide +kernel
theorem d_CS_init_24 : decode b_CS_init 24 = .ok (.aload_n 0, 1) := by decide +kernel
theorem d_CS_init_25 : decode b_CS_init 25 = .ok (.iconst 0, 1) := by decide +kernel
theorem d_CS_init_26 : decode b_CS_init 26 = .ok (.putfield 22, 3) := by decide +kernel
theorem d_CS_init_29 : decode b_CS_init 29 = .ok (.aload_n 0, 1) := by decide +kernel
theorem d_CS_init_30 : decode b_CS_init 30 = .ok (.iconst 0, 1) := by decide +kernel
theorem d_CS_init_31 : decode b_CS_init 31 = .ok (.putfield 25, 3) := by decide +kernel
theorem d_CS_init_34 : decode b_CS_init 34 = .ok (.aload_n 0, 1) := by decide +kernel
theorem d_CS_init_35 : decode b_CS_init 35 = .ok (.iconst 0, 1) := by decide +kernel
theorem d_CS_init_36 : decode b_CS_init 36 = .ok (.putfield 28, 3) := by decide +kernel
theorem d_CS_init_39 : decode b_CS_init 39 = .ok (.aload_n 0, 1) := by decide +kernel
theorem d_CS_init_40 : decode b_CS_init 40 = .ok (.iconst 0, 1) := by decide +kernel
theorem d_CS_init_41 : decode b_CS_init 41 = .ok (.putfield 31, 3) := by decide +kernel
theorem d_CS_init_44 : decode b_CS_init 44 = .ok (.aload_n 0, 1) := by decide +kernel
theorem d_CS_init_45 : decode b_CS_init 45 = .ok (.iconst 0, 1) := by decide +kernel
theorem d_CS_init_46 : decode b_CS_init 46 = .ok (.putfield 34, 3) := by decide +kernel
theorem d_CS_init_49 : decode b_CS_init 49 = .ok (.aload_n 0, 1) := by decide +kernel
theorem d_CS_init_50 : decode b_CS_init 50 = .ok (.iconst 0, 1) := by decide +kernel
theorem d_CS_init_51 : decode b_CS_init 51 = .ok (.putfield 37, 3) := by decide +kernel
theorem d_CS_init_54 : decode b_CS_init 54 = .ok (.aload_n 0, 1) := by decide +kernel
theorem d_CS_init_55 : decode b_CS_init 55 = .ok (.iconst 0, 1) := by decide +kernel
theorem d_CS_init_56 : decode b_CS_init 56 = .ok (.putfield 40, 3) := by decide +kernel
theorem d_CS_init_59 : decode b_CS_init 59 = .ok (.aload_n 0, 1) := by decide +kernel
theorem d_CS_init_60 : decode b_CS_init 60 = .ok (.iconst 0, 1) := by decide +kernel
theorem d_CS_init_61 : decode b_CS_init 61 = .ok (.putfield 43, 3) := by decide +kernel
theorem d_CS_init_64 : decode b_CS_init 64 = .ok (.aload_n 0, 1) := by decide +kernel
theorem d_CS_init_65 : decode b_CS_init 65 = .ok (.iconst 0, 1) := by decide +kernel
theorem d_CS_init_66 : decode b_CS_init 66 = .ok (.putfield 46, 3) := by decide +kernel
theorem d_CS_init_69 : decode b_CS_init 69 = .ok (.return_, 1) := by decide +kernel
theorem d_CS_start_0 : decode b_CS_start 0 = .ok (.aload_n 0, 1) := by decide +kernel
theorem d_CS_start_1 : decode b_CS_start 1 = .ok (.iload_n 1, 1) := by decide +kernel
theorem d_CS_start_2 : decode b_CS_start 2 = .ok (.putfield 7, 3) := by decide +kernel
theorem d_CS_start_5 : decode b_CS_start 5 = .ok (.aload_n 0, 1) := by decide +kernel
theorem d_CS_start_6 : decode b_CS_start 6 = .ok (.aload_n 2, 1) := by decide +kernel
theorem d_CS_start_7 : decode b_CS_start 7 = .ok (.getfield 49, 3) := by decide +kernel
theorem d_CS_start_10 : decode b_CS_start 10 = .ok (.putfield 13, 3) := by decide +kernel
theorem d_CS_start_13 : decode b_CS_start 13 = .ok (.aload_n 0, 1) := by decide +kernel
theorem d_CS_start_14 : decode b_CS_start 14 = .ok (.aload_n 2, 1) := by decide +kernel
theorem d_CS_start_15 : decode b_CS_start 15 = .ok (.invokevirtual 52, 3) := by decide +kernel
theorem d_CS_start_18 : decode b_CS_start 18 = .ok (.putfield 16, 3) := by decide +kernel
theorem d_CS_start_21 : decode b_CS_start 21 = .ok (.aload_n 0, 1) := by decide +kernel
theorem d_CS_start_22 : decode b_CS_start 22 = .ok (.aload_n 3, 1) := by decide +kernel
theorem d_CS_start_23 : decode b_CS_start 23 = .ok (.getfield 55, 3) := by decide +kernel
theorem d_CS_start_26 : decode b_CS_start 26 = .ok (.putfield 19, 3) := by decide +kernel
theorem d_CS_start_29 : decode b_CS_start 29 = .ok (.aload_n 0, 1) := by decide +kernel
theorem d_CS_start_30 : decode b_CS_start 30 = .ok (.aload_n 3, 1) := by decide +kernel
theorem d_CS_start_31 : decode b_CS_start 31 = .ok (.getfield 58, 3) := by decide +kernel
theorem d_CS_start_34 : decode b_CS_start 34 = .ok (.putfield 22, 3) := by decide +kernel
theorem d_CS_start_37 : decode b_CS_start 37 = .ok (.aload_n 0, 1) := by decide +kernel
theorem d_CS_start_38 : decode b_CS_start 38 = .ok (.aload_n 3, 1) := by decide +kernel
theorem d_CS_start_39 : decode b_CS_start 39 = .ok (.getfield 59, 3) := by decide +kernel
theorem d_CS_start_42 : decode b_CS_start 42 = .ok (.putfield 25, 3) := by decide +kernel
theorem d_CS_start_45 : decode b_CS_start 45 = .ok (.aload_n 0, 1) := by decide +kernel
theorem d_CS_start_46 : decode b_CS_start 46 = .ok (.aload_n 3, 1) := by decide +kernel
theorem d_CS_start_47 : decode b_CS_start 47 = .ok (.invokevirtual 60, 3) := by decide +kernel
theorem d_CS_start_50 : decode b_CS_start 50 = .ok (.putfield 28, 3) := by decide +kernel
theorem d_CS_start_53 : decode b_CS_start 53 = .ok (.aload_n 0, 1) := by decide +kernel
theorem d_CS_start_54 : decode b_CS_start 54 = .ok (.iconst 0, 1) := by decide +kernel
theorem d_CS_start_55 : decode b_CS_start 55 = .ok (.putfield 37, 3) := by decide +kernel
theorem d_CS_start_58 : decode b_CS_start 58 = .ok (.return_, 1) := by decide +kernel
theorem d_PA_init_0 : decode b_PA_init 0 = .ok (.aload_n 0, 1) := by decide +kernel
theorem d_PA_init_1 : decode b_PA_init 1 = .ok (.invokespecial 1, 3) := by decide +kernel
theorem d_PA_init_4 : decode b_PA_init 4 = .ok (.aload_n 0, 1) := by decide +kernel
theorem d_PA_init_5 : decode b_PA_init 5 = .ok (.iconst 0, 1) := by decide +kernel
theorem d_PA_init_6 : decode b_PA_init 6 = .ok (.putfield 7, 3) := by decide +kernel
theorem d_PA_init_9 : decode b_PA_init 9 = .ok (.aload_n 0, 1) := by decide +kernel
theorem d_PA_init_10 : decode b_PA_init 10 = .ok (.iconst 0, 1) := by decide +kernel
theorem d_PA_init_11 : decode b_PA_init 11 = .ok (.putfield 13, 3) := by decide +kernel
theorem d_PA_init_14 : decode b_PA_init 14 = .ok (.aload_n 0, 1) := by decide +kernel
theorem d_PA_init_15 : decode b_PA_init 15 = .ok (.iconst 0, 1) := by decide +kernel
theorem d_PA_init_16 : decode b_PA_init 16 = .ok (.putfield 16, 3) := by decide +kernel
theorem d_PA_init_19 : decode b_PA_init 19 = .ok (.aload_n 0, 1) := by decide +kernel
theorem d_PA_init_20 : decode b_PA_init 20 = .ok (.iconst 0, 1) := by decide +kernel
theorem d_PA_init_21 : decode b_PA_init 21 = .ok (.putfield 20, 3) := by decide +kernel
theorem d_PA_init_24 : decode b_PA_init 24 = .ok (.aload_n 0, 1) := by decide +kernel
theorem d_PA_init_25 : decode b_PA_init 25 = .ok (.iconst 0, 1) := by decide +kernel
theorem d_PA_init_26 : decode b_PA_init 26 = .ok (.putfield 23, 3) := by decide +kernel
theorem d_PA_init_29 : decode b_PA_init 29 = .ok (.return_, 1) := by decide +kernel
theorem d_PA_area_0 : decode b_PA_area 0 = .ok (.aload_n 0, 1) := by decide +kernel
theorem d_PA_area_1 : decode b_PA_area 1 = .ok (.getfield 7, 3) := by decide +kernel
theorem d_PA_area_4 : decode b_PA_area 4 = .ok (.aload_n 0, 1) := by decide +kernel
theorem d_PA_area_5 : decode b_PA_area 5 = .ok (.getfield 13, 3) := by decide +kernel
theorem d_PA_area_8 : decode b_PA_area 8 = .ok (.imul, 1) := by decide +kernel
theorem d_PA_area_9 : decode b_PA_area 9 = .ok (.ireturn, 1) := by decide +kernel
theorem d_PI_of_0 : decode b_PI_of 0 = .ok (.iload_n 0, 1) := by decide +kernel
theorem d_PI_of_1 : decode b_PI_of 1 = .ok (.iconst 5, 1) := by decide +kernel
theorem d_PI_of_2 : decode b_PI_of 2 = .ok (.ishl, 1) := by decide +kernel
theorem d_PI_of_3 : decode b_PI_of 3 = .ok (.iload_n 1, 1) := by decide +kernel
theorem d_PI_of_4 : decode b_PI_of 4 = .ok (.ior, 1) := by decide +kernel
theorem d_PI_of_5 : decode b_PI_of 5 = .ok (.iconst 5, 1) := by decide +kernel
theorem d_PI_of_6 : decode b_PI_of 6 = .ok (.ishl, 1) := by decide +kernel
theorem d_PI_of_7 : decode b_PI_of 7 = .ok (.iload_n 2, 1) := by decide +kernel
theorem d_PI_of_8 : decode b_PI_of 8 = .ok (.ior, 1) := by decide +kernel
theorem d_PI_of_9 : decode b_PI_of 9 = .ok (.iconst 5, 1) := by decide +kernel
theorem d_PI_of_10 : decode b_PI_of 10 = .ok (.ishl, 1) := by decide +kernel
theorem d_PI_of_11 : decode b_PI_of 11 = .ok (.iload_n 3, 1) := by decide +kernel
theorem d_PI_of_12 : decode b_PI_of 12 = .ok (.ior, 1) := by decide +kernel
theorem d_PI_of_13 : decode b_PI_of 13 = .ok (.iconst 5, 1) := by decide +kernel
theorem d_PI_of_14 : decode b_PI_of 14 = .ok (.ishl, 1) := by decide +kernel
theorem d_PI_of_15 : decode b_PI_of 15 = .ok (.iload 4, 2) := by decide +kernel
theorem d_PI_of_17 : decode b_PI_of 17 = .ok (.ior, 1) := by decide +kernel
theorem d_PI_of_18 : decode b_PI_of 18 = .ok (.ireturn, 1) := by decide +kernel
theorem d_PI_field_0 : decode b_PI_field 0 = .ok (.iload_n 0, 1) := by decide +kernel
theorem d_PI_field_1 : decode b_PI_field 1 = .ok (.iconst 5, 1) := by decide +kernel
theorem d_PI_field_2 : decode b_PI_field 2 = .ok (.iconst 4, 1) := by decide +kernel
theorem d_PI_field_3 : decode b_PI_field 3 = .ok (.iload_n 1, 1) := by decide +kernel
theorem d_PI_field_4 : decode b_PI_field 4 = .ok (.isub, 1) := by decide +kernel
theorem d_PI_field_5 : decode b_PI_field 5 = .ok (.imul, 1) := by decide +kernel
theorem d_PI_field_6 : decode b_PI_field 6 = .ok (.ishr, 1) := by decide +kernel
theorem d_PI_field_7 : decode b_PI_field 7 = .ok (.bipush 31, 2) := by decide +kernel
theorem d_PI_field_9 : decode b_PI_field 9 = .ok (.iand, 1) := by decide +kernel
theorem d_PI_field_10 : decode b_PI_field 10 = .ok (.ireturn, 1) := by decide +kernel
theorem d_PI_isAtLeast_0 : decode b_PI_isAtLeast 0 = .ok (.iload_n 0, 1) := by decide +kernel
theorem d_PI_isAtLeast_1 : decode b_PI_isAtLeast 1 = .ok (.iconst 3, 1) := by decide +kernel
theorem d_PI_isAtLeast_2 : decode b_PI_isAtLeast 2 = .ok (.invokestatic 9, 3) := by decide +kernel
theorem d_PI_isAtLeast_5 : decode b_PI_isAtLeast 5 = .ok (.iload_n 1, 1) := by decide +kernel
theorem d_PI_isAtLeast_6 : decode b_PI_isAtLeast 6 = .ok (.if_icmp .lt 16, 3) := by decide +kernel
theorem d_PI_isAtLeast_9 : decode b_PI_isAtLeast 9 = .ok (.iload_n 0, 1) := by decide +kernel
theorem d_PI_isAtLeast_10 : decode b_PI_isAtLeast 10 = .ok (.iconst 4, 1) := by decide +kernel
theorem d_PI_isAtLeast_11 : decode b_PI_isAtLeast 11 = .ok (.invokestatic 9, 3) := by decide +kernel
theorem d_PI_isAtLeast_14 : decode b_PI_isAtLeast 14 = .ok (.iload_n 1, 1) := by decide +kernel
theorem d_PI_isAtLeast_15 : decode b_PI_isAtLeast 15 = .ok (.if_icmp .lt 7, 3) := by decide +kernel
theorem d_PI_isAtLeast_18 : decode b_PI_isAtLeast 18 = .ok (.iconst 1, 1) := by decide +kernel
theorem d_PI_isAtLeast_19 : decode b_PI_isAtLeast 19 = .ok (.goto 4, 3) := by decide +kernel
theorem d_PI_isAtLeast_22 : decode b_PI_isAtLeast 22 = .ok (.iconst 0, 1) := by decide +kernel
theorem d_PI_isAtLeast_23 : decode b_PI_isAtLeast 23 = .ok (.ireturn, 1) := by decide +kernel
theorem d_SH_init_0 : decode b_SH_init 0 = .ok (.aload_n 0, 1) := by decide +kernel
theorem d_SH_init_1 : decode b_SH_init 1 = .ok (.invokespecial 1, 3) := by decide +kernel
theorem d_SH_init_4 : decode b_SH_init 4 = .ok (.aload_n 0, 1) := by decide +kernel
theorem d_SH_init_5 : decode b_SH_init 5 = .ok (.iconst 0, 1) := by decide +kernel
theorem d_SH_init_6 : decode b_SH_init 6 = .ok (.putfield 7, 3) := by decide +kernel
theorem d_SH_init_9 : decode b_SH_init 9 = .ok (.aload_n 0, 1) := by decide +kernel
theorem d_SH_init_10 : decode b_SH_init 10 = .ok (.iconst 0, 1) := by decide +kernel
theorem d_SH_init_11 : decode b_SH_init 11 = .ok (.putfield 13, 3) := by decide +kernel
theorem d_SH_init_14 : decode b_SH_init 14 = .ok (.aload_n 0, 1) := by decide +kernel
theorem d_SH_init_15 : decode b_SH_init 15 = .ok (.iconst 0, 1) := by decide +kernel
theorem d_SH_init_16 : decode b_SH_init 16 = .ok (.putfield 16, 3) := by decide +kernel
theorem d_SH_init_19 : decode b_SH_init 19 = .ok (.aload_n 0, 1) := by decide +kernel
theorem d_SH_init_20 : decode b_SH_init 20 = .ok (.iconst 0, 1) := by decide +kernel
theorem d_SH_init_21 : decode b_SH_init 21 = .ok (.putfield 19, 3) := by decide +kernel
theorem d_SH_init_24 : decode b_SH_init 24 = .ok (.aload_n 0, 1) := by decide +kernel
theorem d_SH_init_25 : decode b_SH_init 25 = .ok (.iconst 0, 1) := by decide +kernel
theorem d_SH_init_26 : decode b_SH_init 26 = .ok (.putfield 22, 3) := by decide +kernel
theorem d_SH_init_29 : decode b_SH_init 29 = .ok (.return_, 1) := by decide +kernel
theorem d_SH_area_0 : decode b_SH_area 0 = .ok (.aload_n 0, 1) := by decide +kernel
theorem d_SH_area_1 : decode b_SH_area 1 = .ok (.getfield 7, 3) := by decide +kernel
theorem d_SH_area_4 : decode b_SH_area 4 = .ok (.aload_n 0, 1) := by decide +kernel
theorem d_SH_area_5 : decode b_SH_area 5 = .ok (.getfield 13, 3) := by decide +kernel
theorem d_SH_area_8 : decode b_SH_area 8 = .ok (.imul, 1) := by decide +kernel
theorem d_SH_area_9 : decode b_SH_area 9 = .ok (.ireturn, 1) := by decide +kernel
theorem d_TB_init_0 : decode b_TB_init 0 = .ok (.aload_n 0, 1) := by decide +kernel
theorem d_TB_init_1 : decode b_TB_init 1 = .ok (.invokespecial 5, 3) := by decide +kernel
theorem d_TB_init_4 : decode b_TB_init 4 = .ok (.aload_n 0, 1) := by decide +kernel
theorem d_TB_init_5 : decode b_TB_init 5 = .ok (.sipush 2312, 3) := by decide +kernel
theorem d_TB_init_8 : decode b_TB_init 8 = .ok (.newarray .int, 2) := by decide +kernel
theorem d_TB_init_10 : decode b_TB_init 10 = .ok (.putfield 11, 3) := by decide +kernel
theorem d_TB_init_13 : decode b_TB_init 13 = .ok (.aload_n 0, 1) := by decide +kernel
theorem d_TB_init_14 : decode b_TB_init 14 = .ok (.sipush 2312, 3) := by decide +kernel
theorem d_TB_init_17 : decode b_TB_init 17 = .ok (.newarray .int, 2) := by decide +kernel
theorem d_TB_init_19 : decode b_TB_init 19 = .ok (.putfield 15, 3) := by decide +kernel
theorem d_TB_init_22 : decode b_TB_init 22 = .ok (.aload_n 0, 1) := by decide +kernel
theorem d_TB_init_23 : decode b_TB_init 23 = .ok (.iconst (-1), 1) := by decide +kernel
theorem d_TB_init_24 : decode b_TB_init 24 = .ok (.putfield 18, 3) := by decide +kernel
theorem d_TB_init_27 : decode b_TB_init 27 = .ok (.aload_n 0, 1) := by decide +kernel
theorem d_TB_init_28 : decode b_TB_init 28 = .ok (.iconst 0, 1) := by decide +kernel
theorem d_TB_init_29 : decode b_TB_init 29 = .ok (.putfield 22, 3) := by decide +kernel
theorem d_TB_init_32 : decode b_TB_init 32 = .ok (.aload_n 0, 1) := by decide +kernel
theorem d_TB_init_33 : decode b_TB_init 33 = .ok (.iload_n 1, 1) := by decide +kernel
theorem d_TB_init_34 : decode b_TB_init 34 = .ok (.putfield 25, 3) := by decide +kernel
theorem d_TB_init_37 : decode b_TB_init 37 = .ok (.return_, 1) := by decide +kernel
theorem d_TB_fill_0 : decode b_TB_fill 0 = .ok (.iload_n 2, 1) := by decide +kernel
theorem d_TB_fill_1 : decode b_TB_fill 1 = .ok (.aload_n 0, 1) := by decide +kernel
theorem d_TB_fill_2 : decode b_TB_fill 2 = .ok (.getfield 18, 3) := by decide +kernel
theorem d_TB_fill_5 : decode b_TB_fill 5 = .ok (.if_icmp .eq 18, 3) := by decide +kernel
theorem d_TB_fill_8 : decode b_TB_fill 8 = .ok (.aload_n 0, 1) := by decide +kernel
theorem d_TB_fill_9 : decode b_TB_fill 9 = .ok (.iload_n 2, 1) := by decide +kernel
theorem d_TB_fill_10 : decode b_TB_fill 10 = .ok (.putfield 18, 3) := by decide +kernel
theorem d_TB_fill_13 : decode b_TB_fill 13 = .ok (.aload_n 0, 1) := by decide +kernel
theorem d_TB_fill_14 : decode b_TB_fill 14 = .ok (.iconst 0, 1) := by decide +kernel
theorem d_TB_fill_15 : decode b_TB_fill 15 = .ok (.putfield 22, 3) := by decide +kernel
theorem d_TB_fill_18 : decode b_TB_fill 18 = .ok (.aload_n 0, 1) := by decide +kernel
theorem d_TB_fill_19 : decode b_TB_fill 19 = .ok (.aload_n 1, 1) := by decide +kernel
theorem d_TB_fill_20 : decode b_TB_fill 20 = .ok (.invokevirtual 28, 3) := by decide +kernel
theorem d_TB_fill_23 : decode b_TB_fill 23 = .ok (.aload_n 0, 1) := by decide +kernel
theorem d_TB_fill_24 : decode b_TB_fill 24 = .ok (.getfield 22, 3) := by decide +kernel
theorem d_TB_fill_27 : decode b_TB_fill 27 = .ok (.iconst 1, 1) := by decide +kernel
theorem d_TB_fill_28 : decode b_TB_fill 28 = .ok (.iadd, 1) := by decide +kernel
theorem d_TB_fill_29 : decode b_TB_fill 29 = .ok (.istore 4, 2) := by decide +kernel
theorem d_TB_fill_31 : decode b_TB_fill 31 = .ok (.iload 4, 2) := by decide +kernel
theorem d_TB_fill_33 : decode b_TB_fill 33 = .ok (.iload_n 3, 1) := by decide +kernel
theorem d_TB_fill_34 : decode b_TB_fill 34 = .ok (.if_icmp .gt 27, 3) := by decide +kernel
theorem d_TB_fill_37 : decode b_TB_fill 37 = .ok (.iload 4, 2) := by decide +kernel
theorem d_TB_fill_39 : decode b_TB_fill 39 = .ok (.iconst 3, 1) := by decide +kernel
theorem d_TB_fill_40 : decode b_TB_fill 40 = .ok (.if_icmp .gt 21, 3) := by decide +kernel
theorem d_TB_fill_43 : decode b_TB_fill 43 = .ok (.aload_n 0, 1) := by decide +kernel
theorem d_TB_fill_44 : decode b_TB_fill 44 = .ok (.iload 4, 2) := by decide +kernel
theorem d_TB_fill_46 : decode b_TB_fill 46 = .ok (.invokevirtual 32, 3) := by decide +kernel
theorem d_TB_fill_49 : decode b_TB_fill 49 = .ok (.aload_n 0, 1) := by decide +kernel
theorem d_TB_fill_50 : decode b_TB_fill 50 = .ok (.iload 4, 2) := by decide +kernel
theorem d_TB_fill_52 : decode b_TB_fill 52 = .ok (.putfield 22, 3) := by decide +kernel
theorem d_TB_fill_55 : decode b_TB_fill 55 = .ok (.iinc 4 1, 3) := by decide +kernel
theorem d_TB_fill_58 : decode b_TB_fill 58 = .ok (.goto (-27), 3) := by decide +kernel
theorem d_TB_fill_61 : decode b_TB_fill 61 = .ok (.return_, 1) := by decide +kernel
theorem d_TB_valueOf_0 : decode b_TB_valueOf 0 = .ok (.aload_n 0, 1) := by decide +kernel
theorem d_TB_valueOf_1 : decode b_TB_valueOf 1 = .ok (.iload_n 1, 1) := by decide +kernel
theorem d_TB_valueOf_2 : decode b_TB_valueOf 2 = .ok (.iload_n 2, 1) := by decide +kernel
theorem d_TB_valueOf_3 : decode b_TB_valueOf 3 = .ok (.iload_n 3, 1) := by decide +kernel
theorem d_TB_valueOf_4 : decode b_TB_valueOf 4 = .ok (.iload 4, 2) := by decide +kernel
theorem d_TB_valueOf_6 : decode b_TB_valueOf 6 = .ok (.invokevirtual 36, 3) := by decide +kernel
theorem d_TB_valueOf_9 : decode b_TB_valueOf 9 = .ok (.sipush 1024, 3) := by decide +kernel
theorem d_TB_valueOf_12 : decode b_TB_valueOf 12 = .ok (.iadd, 1) := by decide +kernel
theorem d_TB_valueOf_13 : decode b_TB_valueOf 13 = .ok (.iconst 1, 1) := by decide +kernel
theorem d_TB_valueOf_14 : decode b_TB_valueOf 14 = .ok (.isub, 1) := by decide +kernel
theorem d_TB_valueOf_15 : decode b_TB_valueOf 15 = .ok (.sipush 1024, 3) := by decide +kernel
theorem d_TB_valueOf_18 : decode b_TB_valueOf 18 = .ok (.idiv, 1) := by decide +kernel
theorem d_TB_valueOf_19 : decode b_TB_valueOf 19 = .ok (.ireturn, 1) := by decide +kernel
theorem d_TB_scoreOf_0 : decode b_TB_scoreOf 0 = .ok (.aload_n 0, 1) := by decide +kernel
theorem d_TB_scoreOf_1 : decode b_TB_scoreOf 1 = .ok (.iload_n 1, 1) := by decide +kernel
theorem d_TB_scoreOf_2 : decode b_TB_scoreOf 2 = .ok (.iload_n 2, 1) := by decide +kernel
theorem d_TB_scoreOf_3 : decode b_TB_scoreOf 3 = .ok (.iload_n 3, 1) := by decide +kernel
theorem d_TB_scoreOf_4 : decode b_TB_scoreOf 4 = .ok (.iload 4, 2) := by decide +kernel
theorem d_TB_scoreOf_6 : decode b_TB_scoreOf 6 = .ok (.invokestatic 40, 3) := by decide +kernel
theorem d_TB_scoreOf_9 : decode b_TB_scoreOf 9 = .ok (.invokevirtual 43, 3) := by decide +kernel
theorem d_TB_scoreOf_12 : decode b_TB_scoreOf 12 = .ok (.ireturn, 1) := by decide +kernel
theorem d_TB_choiceOf_0 : decode b_TB_choiceOf 0 = .ok (.aload_n 0, 1) := by decide +kernel
theorem d_TB_choiceOf_1 : decode b_TB_choiceOf 1 = .ok (.iload_n 1, 1) := by decide +kernel
theorem d_TB_choiceOf_2 : decode b_TB_choiceOf 2 = .ok (.iload_n 2, 1) := by decide +kernel
theorem d_TB_choiceOf_3 : decode b_TB_choiceOf 3 = .ok (.iload_n 3, 1) := by decide +kernel
theorem d_TB_choiceOf_4 : decode b_TB_choiceOf 4 = .ok (.iload 4, 2) := by decide +kernel
theorem d_TB_choiceOf_6 : decode b_TB_choiceOf 6 = .ok (.invokestatic 40, 3) := by decide +kernel
theorem d_TB_choiceOf_9 : decode b_TB_choiceOf 9 = .ok (.invokevirtual 47, 3) := by decide +kernel
theorem d_TB_choiceOf_12 : decode b_TB_choiceOf 12 = .ok (.ireturn, 1) := by decide +kernel
theorem d_TB_placeOf_0 : decode b_TB_placeOf 0 = .ok (.iload_n 0, 1) := by decide +kernel
theorem d_TB_placeOf_1 : decode b_TB_placeOf 1 = .ok (.iconst 2, 1) := by decide +kernel
theorem d_TB_placeOf_2 : decode b_TB_placeOf 2 = .ok (.imul, 1) := by decide +kernel
theorem d_TB_placeOf_3 : decode b_TB_placeOf 3 = .ok (.iload_n 1, 1) := by decide +kernel
theorem d_TB_placeOf_4 : decode b_TB_placeOf 4 = .ok (.iadd, 1) := by decide +kernel
theorem d_TB_placeOf_5 : decode b_TB_placeOf 5 = .ok (.bipush 17, 2) := by decide +kernel
theorem d_TB_placeOf_7 : decode b_TB_placeOf 7 = .ok (.imul, 1) := by decide +kernel
theorem d_TB_placeOf_8 : decode b_TB_placeOf 8 = .ok (.iload_n 2, 1) := by decide +kernel
theorem d_TB_placeOf_9 : decode b_TB_placeOf 9 = .ok (.iadd, 1) := by decide +kernel
theorem d_TB_placeOf_10 : decode b_TB_placeOf 10 = .ok (.bipush 17, 2) := by decide +kernel
theorem d_TB_placeOf_12 : decode b_TB_placeOf 12 = .ok (.imul, 1) := by decide +kernel
theorem d_TB_placeOf_13 : decode b_TB_placeOf 13 = .ok (.iload_n 3, 1) := by decide +kernel
theorem d_TB_placeOf_14 : decode b_TB_placeOf 14 = .ok (.iadd, 1) := by decide +kernel
theorem d_TB_placeOf_15 : decode b_TB_placeOf 15 = .ok (.ireturn, 1) := by decide +kernel
theorem d_TB_scoreAt_0 : decode b_TB_scoreAt 0 = .ok (.iload_n 1, 1) := by decide +kernel
theorem d_TB_scoreAt_1 : decode b_TB_scoreAt 1 = .ok (.ifCond .lt 21, 3) := by decide +kernel
theorem d_TB_scoreAt_4 : decode b_TB_scoreAt 4 = .ok (.iload_n 1, 1) := by decide +kernel
theorem d_TB_scoreAt_5 : decode b_TB_scoreAt 5 = .ok (.aload_n 0, 1) := by decide +kernel
theorem d_TB_scoreAt_6 : decode b_TB_scoreAt 6 = .ok (.getfield 11, 3) := by decide +kernel
theorem d_TB_scoreAt_9 : decode b_TB_scoreAt 9 = .ok (.arraylength, 1) := by decide +kernel
theorem d_TB_scoreAt_10 : decode b_TB_scoreAt 10 = .ok (.if_icmp .ge 12, 3) := by decide +kernel
theorem d_TB_scoreAt_13 : decode b_TB_scoreAt 13 = .ok (.aload_n 0, 1) := by decide +kernel
theorem d_TB_scoreAt_14 : decode b_TB_scoreAt 14 = .ok (.getfield 11, 3) := by decide +kernel
theorem d_TB_scoreAt_17 : decode b_TB_scoreAt 17 = .ok (.iload_n 1, 1) := by decide +kernel
theorem d_TB_scoreAt_18 : decode b_TB_scoreAt 18 = .ok (.iaload, 1) := by decide +kernel
theorem d_TB_scoreAt_19 : decode b_TB_scoreAt 19 = .ok (.goto 4, 3) := by decide +kernel
theorem d_TB_scoreAt_22 : decode b_TB_scoreAt 22 = .ok (.iconst 0, 1) := by decide +kernel
theorem d_TB_scoreAt_23 : decode b_TB_scoreAt 23 = .ok (.ireturn, 1) := by decide +kernel
theorem d_TB_choiceAt_0 : decode b_TB_choiceAt 0 = .ok (.iload_n 1, 1) := by decide +kernel
theorem d_TB_choiceAt_1 : decode b_TB_choiceAt 1 = .ok (.ifCond .lt 21, 3) := by decide +kernel
theorem d_TB_choiceAt_4 : decode b_TB_choiceAt 4 = .ok (.iload_n 1, 1) := by decide +kernel
theorem d_TB_choiceAt_5 : decode b_TB_choiceAt 5 = .ok (.aload_n 0, 1) := by decide +kernel
theorem d_TB_choiceAt_6 : decode b_TB_choiceAt 6 = .ok (.getfield 15, 3) := by decide +kernel
theorem d_TB_choiceAt_9 : decode b_TB_choiceAt 9 = .ok (.arraylength, 1) := by decide +kernel
theorem d_TB_choiceAt_10 : decode b_TB_choiceAt 10 = .ok (.if_icmp .ge 12, 3) := by decide +kernel
theorem d_TB_choiceAt_13 : decode b_TB_choiceAt 13 = .ok (.aload_n 0, 1) := by decide +kernel
theorem d_TB_choiceAt_14 : decode b_TB_choiceAt 14 = .ok (.getfield 15, 3) := by decide +kernel
theorem d_TB_choiceAt_17 : decode b_TB_choiceAt 17 = .ok (.iload_n 1, 1) := by decide +kernel
theorem d_TB_choiceAt_18 : decode b_TB_choiceAt 18 = .ok (.iaload, 1) := by decide +kernel
theorem d_TB_choiceAt_19 : decode b_TB_choiceAt 19 = .ok (.goto 5, 3) := by decide +kernel
theorem d_TB_choiceAt_22 : decode b_TB_choiceAt 22 = .ok (.bipush 8, 2) := by decide +kernel
theorem d_TB_choiceAt_24 : decode b_TB_choiceAt 24 = .ok (.ireturn, 1) := by decide +kernel
theorem d_TB_put_0 : decode b_TB_put 0 = .ok (.iload_n 1, 1) := by decide +kernel
theorem d_TB_put_1 : decode b_TB_put 1 = .ok (.ifCond .lt 35, 3) := by decide +kernel
theorem d_TB_put_4 : decode b_TB_put 4 = .ok (.iload_n 1, 1) := by decide +kernel
theorem d_TB_put_5 : decode b_TB_put 5 = .ok (.aload_n 0, 1) := by decide +kernel
theorem d_TB_put_6 : decode b_TB_put 6 = .ok (.getfield 11, 3) := by decide +kernel
theorem d_TB_put_9 : decode b_TB_put 9 = .ok (.arraylength, 1) := by decide +kernel
theorem d_TB_put_10 : decode b_TB_put 10 = .ok (.if_icmp .ge 26, 3) := by decide +kernel
theorem d_TB_put_13 : decode b_TB_put 13 = .ok (.iload_n 1, 1) := by decide +kernel
theorem d_TB_put_14 : decode b_TB_put 14 = .ok (.aload_n 0, 1) := by decide +kernel
theorem d_TB_put_15 : decode b_TB_put 15 = .ok (.getfield 15, 3) := by decide +kernel
theorem d_TB_put_18 : decode b_TB_put 18 = .ok (.arraylength, 1) := by decide +kernel
theorem d_TB_put_19 : decode b_TB_put 19 = .ok (.if_icmp .ge 17, 3) := by decide +kernel
theorem d_TB_put_22 : decode b_TB_put 22 = .ok (.aload_n 0, 1) := by decide +kernel
theorem d_TB_put_23 : decode b_TB_put 23 = .ok (.getfield 11, 3) := by decide +kernel
theorem d_TB_put_26 : decode b_TB_put 26 = .ok (.iload_n 1, 1) := by decide +kernel
theorem d_TB_put_27 : decode b_TB_put 27 = .ok (.iload_n 2, 1) := by decide +kernel
theorem d_TB_put_28 : decode b_TB_put 28 = .ok (.iastore, 1) := by decide +kernel
theorem d_TB_put_29 : decode b_TB_put 29 = .ok (.aload_n 0, 1) := by decide +kernel
theorem d_TB_put_30 : decode b_TB_put 30 = .ok (.getfield 15, 3) := by decide +kernel
theorem d_TB_put_33 : decode b_TB_put 33 = .ok (.iload_n 1, 1) := by decide +kernel
theorem d_TB_put_34 : decode b_TB_put 34 = .ok (.iload_n 3, 1) := by decide +kernel
theorem d_TB_put_35 : decode b_TB_put 35 = .ok (.iastore, 1) := by decide +kernel
theorem d_TB_put_36 : decode b_TB_put 36 = .ok (.return_, 1) := by decide +kernel
theorem d_TB_fillWithoutCuts_0 : decode b_TB_fillWithoutCuts 0 = .ok (.aload_n 0, 1) := by decide +kernel
theorem d_TB_fillWithoutCuts_1 : decode b_TB_fillWithoutCuts 1 = .ok (.getfield 11, 3) := by decide +kernel
theorem d_TB_fillWithoutCuts_4 : decode b_TB_fillWithoutCuts 4 = .ok (.iconst 0, 1) := by decide +kernel
theorem d_TB_fillWithoutCuts_5 : decode b_TB_fillWithoutCuts 5 = .ok (.invokestatic 50, 3) := by decide +kernel
theorem d_TB_fillWithoutCuts_8 : decode b_TB_fillWithoutCuts 8 = .ok (.aload_n 0, 1) := by decide +kernel
theorem d_TB_fillWithoutCuts_9 : decode b_TB_fillWithoutCuts 9 = .ok (.getfield 15, 3) := by decide +kernel
theorem d_TB_fillWithoutCuts_12 : decode b_TB_fillWithoutCuts 12 = .ok (.bipush 8, 2) := by decide +kernel
theorem d_TB_fillWithoutCuts_14 : decode b_TB_fillWithoutCuts 14 = .ok (.invokestatic 50, 3) := by decide +kernel
theorem d_TB_fillWithoutCuts_17 : decode b_TB_fillWithoutCuts 17 = .ok (.aload_n 1, 1) := by decide +kernel
theorem d_TB_fillWithoutCuts_18 : decode b_TB_fillWithoutCuts 18 = .ok (.arraylength, 1) := by decide +kernel
theorem d_TB_fillWithoutCuts_19 : decode b_TB_fillWithoutCuts 19 = .ok (.iconst 1, 1) := by decide +kernel
theorem d_TB_fillWithoutCuts_20 : decode b_TB_fillWithoutCuts 20 = .ok (.isub, 1) := by decide +kernel
theorem d_TB_fillWithoutCuts_21 : decode b_TB_fillWithoutCuts 21 = .ok (.istore_n 2, 1) := by decide +kernel
theorem d_TB_fillWithoutCuts_22 : decode b_TB_fillWithoutCuts 22 = .ok (.iload_n 2, 1) := by decide +kernel
theorem d_TB_fillWithoutCuts_23 : decode b_TB_fillWithoutCuts 23 = .ok (.ifCond .lt 64, 3) := by decide +kernel
theorem d_TB_fillWithoutCuts_26 : decode b_TB_fillWithoutCuts 26 = .ok (.aload_n 0, 1) := by decide +kernel
theorem d_TB_fillWithoutCuts_27 : decode b_TB_fillWithoutCuts 27 = .ok (.getfield 18, 3) := by decide +kernel
theorem d_TB_fillWithoutCuts_30 : decode b_TB_fillWithoutCuts 30 = .ok (.iload_n 2, 1) := by decide +kernel
theorem d_TB_fillWithoutCuts_31 : decode b_TB_fillWithoutCuts 31 = .ok (.ishr, 1) := by decide +kernel
theorem d_TB_fillWithoutCuts_32 : decode b_TB_fillWithoutCuts 32 = .ok (.iconst 1, 1) := by decide +kernel
theorem d_TB_fillWithoutCuts_33 : decode b_TB_fillWithoutCuts 33 = .ok (.iand, 1) := by decide +kernel
theorem d_TB_fillWithoutCuts_34 : decode b_TB_fillWithoutCuts 34 = .ok (.iconst 1, 1) := by decide +kernel
theorem d_TB_fillWithoutCuts_35 : decode b_TB_fillWithoutCuts 35 = .ok (.if_icmp .ne 46, 3) := by decide +kernel
theorem d_TB_fillWithoutCuts_38 : decode b_TB_fillWithoutCuts 38 = .ok (.aload_n 0, 1) := by decide +kernel
theorem d_TB_fillWithoutCuts_39 : decode b_TB_fillWithoutCuts 39 = .ok (.iload_n 2, 1) := by decide +kernel
theorem d_TB_fillWithoutCuts_40 : decode b_TB_fillWithoutCuts 40 = .ok (.aload_n 1, 1) := by decide +kernel
theorem d_TB_fillWithoutCuts_41 : decode b_TB_fillWithoutCuts 41 = .ok (.iload_n 2, 1) := by decide +kernel
theorem d_TB_fillWithoutCuts_42 : decode b_TB_fillWithoutCuts 42 = .ok (.aaload, 1) := by decide +kernel
theorem d_TB_fillWithoutCuts_43 : decode b_TB_fillWithoutCuts 43 = .ok (.getfield 56, 3) := by decide +kernel
theorem d_TB_fillWithoutCuts_46 : decode b_TB_fillWithoutCuts 46 = .ok (.aload_n 1, 1) := by decide +kernel
theorem d_TB_fillWithoutCuts_47 : decode b_TB_fillWithoutCuts 47 = .ok (.iload_n 2, 1) := by decide +kernel
theorem d_TB_fillWithoutCuts_48 : decode b_TB_fillWithoutCuts 48 = .ok (.aaload, 1) := by decide +kernel
theorem d_TB_fillWithoutCuts_49 : decode b_TB_fillWithoutCuts 49 = .ok (.getfield 61, 3) := by decide +kernel
theorem d_TB_fillWithoutCuts_52 : decode b_TB_fillWithoutCuts 52 = .ok (.invokevirtual 64, 3) := by decide +kernel
theorem d_TB_fillWithoutCuts_55 : decode b_TB_fillWithoutCuts 55 = .ok (.aload_n 1, 1) := by decide +kernel
theorem d_TB_fillWithoutCuts_56 : decode b_TB_fillWithoutCuts 56 = .ok (.iload_n 2, 1) := by decide +kernel
theorem d_TB_fillWithoutCuts_57 : decode b_TB_fillWithoutCuts 57 = .ok (.aaload, 1) := by decide +kernel
theorem d_TB_fillWithoutCuts_58 : decode b_TB_fillWithoutCuts 58 = .ok (.getfield 68, 3) := by decide +kernel
theorem d_TB_fillWithoutCuts_61 : decode b_TB_fillWithoutCuts 61 = .ok (.ifCond .eq 20, 3) := by decide +kernel
theorem d_TB_fillWithoutCuts_64 : decode b_TB_fillWithoutCuts 64 = .ok (.aload_n 0, 1) := by decide +kernel
theorem d_TB_fillWithoutCuts_65 : decode b_TB_fillWithoutCuts 65 = .ok (.iload_n 2, 1) := by decide +kernel
theorem d_TB_fillWithoutCuts_66 : decode b_TB_fillWithoutCuts 66 = .ok (.aload_n 1, 1) := by decide +kernel
theorem d_TB_fillWithoutCuts_67 : decode b_TB_fillWithoutCuts 67 = .ok (.iload_n 2, 1) := by decide +kernel
theorem d_TB_fillWithoutCuts_68 : decode b_TB_fillWithoutCuts 68 = .ok (.aaload, 1) := by decide +kernel
theorem d_TB_fillWithoutCuts_69 : decode b_TB_fillWithoutCuts 69 = .ok (.getfield 61, 3) := by decide +kernel
theorem d_TB_fillWithoutCuts_72 : decode b_TB_fillWithoutCuts 72 = .ok (.aload_n 1, 1) := by decide +kernel
theorem d_TB_fillWithoutCuts_73 : decode b_TB_fillWithoutCuts 73 = .ok (.iload_n 2, 1) := by decide +kernel
theorem d_TB_fillWithoutCuts_74 : decode b_TB_fillWithoutCuts 74 = .ok (.aaload, 1) := by decide +kernel
theorem d_TB_fillWithoutCuts_75 : decode b_TB_fillWithoutCuts 75 = .ok (.getfield 56, 3) := by decide +kernel
theorem d_TB_fillWithoutCuts_78 : decode b_TB_fillWithoutCuts 78 = .ok (.invokevirtual 64, 3) := by decide +kernel
theorem d_TB_fillWithoutCuts_81 : decode b_TB_fillWithoutCuts 81 = .ok (.iinc 2 (-1), 3) := by decide +kernel
theorem d_TB_fillWithoutCuts_84 : decode b_TB_fillWithoutCuts 84 = .ok (.goto (-62), 3) := by decide +kernel
theorem d_TB_fillWithoutCuts_87 : decode b_TB_fillWithoutCuts 87 = .ok (.return_, 1) := by decide +kernel
theorem d_TB_putPart_0 : decode b_TB_putPart 0 = .ok (.iload_n 2, 1) := by decide +kernel
theorem d_TB_putPart_1 : decode b_TB_putPart 1 = .ok (.iload_n 3, 1) := by decide +kernel
theorem d_TB_putPart_2 : decode b_TB_putPart 2 = .ok (.imul, 1) := by decide +kernel
theorem d_TB_putPart_3 : decode b_TB_putPart 3 = .ok (.sipush 1024, 3) := by decide +kernel
theorem d_TB_putPart_6 : decode b_TB_putPart 6 = .ok (.imul, 1) := by decide +kernel
theorem d_TB_putPart_7 : decode b_TB_putPart 7 = .ok (.istore 4, 2) := by decide +kernel
theorem d_TB_putPart_9 : decode b_TB_putPart 9 = .ok (.aload_n 0, 1) := by decide +kernel
theorem d_TB_putPart_10 : decode b_TB_putPart 10 = .ok (.iconst 0, 1) := by decide +kernel
theorem d_TB_putPart_11 : decode b_TB_putPart 11 = .ok (.iconst 0, 1) := by decide +kernel
theorem d_TB_putPart_12 : decode b_TB_putPart 12 = .ok (.iload_n 2, 1) := by decide +kernel
theorem d_TB_putPart_13 : decode b_TB_putPart 13 = .ok (.iload_n 3, 1) := by decide +kernel
theorem d_TB_putPart_14 : decode b_TB_putPart 14 = .ok (.invokestatic 40, 3) := by decide +kernel
theorem d_TB_putPart_17 : decode b_TB_putPart 17 = .ok (.iload 4, 2) := by decide +kernel
theorem d_TB_putPart_19 : decode b_TB_putPart 19 = .ok (.iload_n 1, 1) := by decide +kernel
theorem d_TB_putPart_20 : decode b_TB_putPart 20 = .ok (.invokevirtual 72, 3) := by decide +kernel
theorem d_TB_putPart_23 : decode b_TB_putPart 23 = .ok (.aload_n 0, 1) := by decide +kernel
theorem d_TB_putPart_24 : decode b_TB_putPart 24 = .ok (.iconst 0, 1) := by decide +kernel
theorem d_TB_putPart_25 : decode b_TB_putPart 25 = .ok (.iconst 1, 1) := by decide +kernel
theorem d_TB_putPart_26 : decode b_TB_putPart 26 = .ok (.iload_n 2, 1) := by decide +kernel
theorem d_TB_putPart_27 : decode b_TB_putPart 27 = .ok (.iload_n 3, 1) := by decide +kernel
theorem d_TB_putPart_28 : decode b_TB_putPart 28 = .ok (.invokestatic 40, 3) := by decide +kernel
theorem d_TB_putPart_31 : decode b_TB_putPart 31 = .ok (.iload 4, 2) := by decide +kernel
theorem d_TB_putPart_33 : decode b_TB_putPart 33 = .ok (.iload_n 1, 1) := by decide +kernel
theorem d_TB_putPart_34 : decode b_TB_putPart 34 = .ok (.invokevirtual 72, 3) := by decide +kernel
theorem d_TB_putPart_37 : decode b_TB_putPart 37 = .ok (.return_, 1) := by decide +kernel
theorem d_TB_fillStage_0 : decode b_TB_fillStage 0 = .ok (.iconst 1, 1) := by decide +kernel
theorem d_TB_fillStage_1 : decode b_TB_fillStage 1 = .ok (.istore_n 2, 1) := by decide +kernel
theorem d_TB_fillStage_2 : decode b_TB_fillStage 2 = .ok (.iload_n 2, 1) := by decide +kernel
theorem d_TB_fillStage_3 : decode b_TB_fillStage 3 = .ok (.bipush 16, 2) := by decide +kernel
theorem d_TB_fillStage_5 : decode b_TB_fillStage 5 = .ok (.if_icmp .gt 39, 3) := by decide +kernel
theorem d_TB_fillStage_8 : decode b_TB_fillStage 8 = .ok (.iconst 1, 1) := by decide +kernel
theorem d_TB_fillStage_9 : decode b_TB_fillStage 9 = .ok (.istore_n 3, 1) := by decide +kernel
theorem d_TB_fillStage_10 : decode b_TB_fillStage 10 = .ok (.iload_n 3, 1) := by decide +kernel
theorem d_TB_fillStage_11 : decode b_TB_fillStage 11 = .ok (.bipush 16, 2) := by decide +kernel
theorem d_TB_fillStage_13 : decode b_TB_fillStage 13 = .ok (.if_icmp .gt 25, 3) := by decide +kernel
theorem d_TB_fillStage_16 : decode b_TB_fillStage 16 = .ok (.aload_n 0, 1) := by decide +kernel
theorem d_TB_fillStage_17 : decode b_TB_fillStage 17 = .ok (.iload_n 1, 1) := by decide +kernel
theorem d_TB_fillStage_18 : decode b_TB_fillStage 18 = .ok (.iconst 0, 1) := by decide +kernel
theorem d_TB_fillStage_19 : decode b_TB_fillStage 19 = .ok (.iload_n 2, 1) := by decide +kernel
theorem d_TB_fillStage_20 : decode b_TB_fillStage 20 = .ok (.iload_n 3, 1) := by decide +kernel
theorem d_TB_fillStage_21 : decode b_TB_fillStage 21 = .ok (.invokevirtual 75, 3) := by decide +kernel
theorem d_TB_fillStage_24 : decode b_TB_fillStage 24 = .ok (.aload_n 0, 1) := by decide +kernel
theorem d_TB_fillStage_25 : decode b_TB_fillStage 25 = .ok (.iload_n 1, 1) := by decide +kernel
theorem d_TB_fillStage_26 : decode b_TB_fillStage 26 = .ok (.iconst 1, 1) := by decide +kernel
theorem d_TB_fillStage_27 : decode b_TB_fillStage 27 = .ok (.iload_n 2, 1) := by decide +kernel
theorem d_TB_fillStage_28 : decode b_TB_fillStage 28 = .ok (.iload_n 3, 1) := by decide +kernel
theorem d_TB_fillStage_29 : decode b_TB_fillStage 29 = .ok (.invokevirtual 75, 3) := by decide +kernel
theorem d_TB_fillStage_32 : decode b_TB_fillStage 32 = .ok (.iinc 3 1, 3) := by decide +kernel
theorem d_TB_fillStage_35 : decode b_TB_fillStage 35 = .ok (.goto (-25), 3) := by decide +kernel
theorem d_TB_fillStage_38 : decode b_TB_fillStage 38 = .ok (.iinc 2 1, 3) := by decide +kernel
theorem d_TB_fillStage_41 : decode b_TB_fillStage 41 = .ok (.goto (-39), 3) := by decide +kernel
theorem d_TB_fillStage_44 : decode b_TB_fillStage 44 = .ok (.return_, 1) := by decide +kernel
theorem d_TB_choose_0 : decode b_TB_choose 0 = .ok (.iconst 0, 1) := by decide +kernel
theorem d_TB_choose_1 : decode b_TB_choose 1 = .ok (.iload_n 2, 1) := by decide +kernel
theorem d_TB_choose_2 : decode b_TB_choose 2 = .ok (.iload_n 3, 1) := by decide +kernel
theorem d_TB_choose_3 : decode b_TB_choose 3 = .ok (.iload 4, 2) := by decide +kernel
theorem d_TB_choose_5 : decode b_TB_choose 5 = .ok (.invokestatic 40, 3) := by decide +kernel
theorem d_TB_choose_8 : decode b_TB_choose 8 = .ok (.istore 5, 2) := by decide +kernel
theorem d_TB_choose_10 : decode b_TB_choose 10 = .ok (.aload_n 0, 1) := by decide +kernel
theorem d_TB_choose_11 : decode b_TB_choose 11 = .ok (.iload 5, 2) := by decide +kernel
theorem d_TB_choose_13 : decode b_TB_choose 13 = .ok (.invokevirtual 43, 3) := by decide +kernel
theorem d_TB_choose_16 : decode b_TB_choose 16 = .ok (.istore 6, 2) := by decide +kernel
theorem d_TB_choose_18 : decode b_TB_choose 18 = .ok (.aload_n 0, 1) := by decide +kernel
theorem d_TB_choose_19 : decode b_TB_choose 19 = .ok (.iload 5, 2) := by decide +kernel
theorem d_TB_choose_21 : decode b_TB_choose 21 = .ok (.invokevirtual 47, 3) := by decide +kernel
theorem d_TB_choose_24 : decode b_TB_choose 24 = .ok (.istore 7, 2) := by decide +kernel
theorem d_TB_choose_26 : decode b_TB_choose 26 = .ok (.iload_n 2, 1) := by decide +kernel
theorem d_TB_choose_27 : decode b_TB_choose 27 = .ok (.ifCond .ne 7, 3) := by decide +kernel
theorem d_TB_choose_30 : decode b_TB_choose 30 = .ok (.iload_n 3, 1) := by decide +kernel
theorem d_TB_choose_31 : decode b_TB_choose 31 = .ok (.goto 5, 3) := by decide +kernel
theorem d_TB_choose_34 : decode b_TB_choose 34 = .ok (.iload 4, 2) := by decide +kernel
theorem d_TB_choose_36 : decode b_TB_choose 36 = .ok (.istore 8, 2) := by decide +kernel
theorem d_TB_choose_38 : decode b_TB_choose 38 = .ok (.iload_n 2, 1) := by decide +kernel
theorem d_TB_choose_39 : decode b_TB_choose 39 = .ok (.ifCond .ne 13, 3) := by decide +kernel
theorem d_TB_choose_42 : decode b_TB_choose 42 = .ok (.iconst 0, 1) := by decide +kernel
theorem d_TB_choose_43 : decode b_TB_choose 43 = .ok (.iconst 0, 1) := by decide +kernel
theorem d_TB_choose_44 : decode b_TB_choose 44 = .ok (.iconst 1, 1) := by decide +kernel
theorem d_TB_choose_45 : decode b_TB_choose 45 = .ok (.iconst 0, 1) := by decide +kernel
theorem d_TB_choose_46 : decode b_TB_choose 46 = .ok (.invokestatic 40, 3) := by decide +kernel
theorem d_TB_choose_49 : decode b_TB_choose 49 = .ok (.goto 10, 3) := by decide +kernel
theorem d_TB_choose_52 : decode b_TB_choose 52 = .ok (.iconst 0, 1) := by decide +kernel
theorem d_TB_choose_53 : decode b_TB_choose 53 = .ok (.iconst 0, 1) := by decide +kernel
theorem d_TB_choose_54 : decode b_TB_choose 54 = .ok (.iconst 0, 1) := by decide +kernel
theorem d_TB_choose_55 : decode b_TB_choose 55 = .ok (.iconst 1, 1) := by decide +kernel
theorem d_TB_choose_56 : decode b_TB_choose 56 = .ok (.invokestatic 40, 3) := by decide +kernel
theorem d_TB_choose_59 : decode b_TB_choose 59 = .ok (.istore 9, 2) := by decide +kernel
theorem d_TB_choose_61 : decode b_TB_choose 61 = .ok (.iload_n 1, 1) := by decide +kernel
theorem d_TB_choose_62 : decode b_TB_choose 62 = .ok (.iconst 1, 1) := by decide +kernel
theorem d_TB_choose_63 : decode b_TB_choose 63 = .ok (.isub, 1) := by decide +kernel
theorem d_TB_choose_64 : decode b_TB_choose 64 = .ok (.iconst 1, 1) := by decide +kernel
theorem d_TB_choose_65 : decode b_TB_choose 65 = .ok (.iload_n 2, 1) := by decide +kernel
theorem d_TB_choose_66 : decode b_TB_choose 66 = .ok (.isub, 1) := by decide +kernel
theorem d_TB_choose_67 : decode b_TB_choose 67 = .ok (.iload_n 3, 1) := by decide +kernel
theorem d_TB_choose_68 : decode b_TB_choose 68 = .ok (.iload 4, 2) := by decide +kernel
theorem d_TB_choose_70 : decode b_TB_choose 70 = .ok (.invokestatic 40, 3) := by decide +kernel
theorem d_TB_choose_73 : decode b_TB_choose 73 = .ok (.iload 8, 2) := by decide +kernel
theorem d_TB_choose_75 : decode b_TB_choose 75 = .ok (.iload 9, 2) := by decide +kernel
theorem d_TB_choose_77 : decode b_TB_choose 77 = .ok (.imul, 1) := by decide +kernel
theorem d_TB_choose_78 : decode b_TB_choose 78 = .ok (.isub, 1) := by decide +kernel
theorem d_TB_choose_79 : decode b_TB_choose 79 = .ok (.istore 10, 2) := by decide +kernel
theorem d_TB_choose_81 : decode b_TB_choose 81 = .ok (.iload_n 1, 1) := by decide +kernel
theorem d_TB_choose_82 : decode b_TB_choose 82 = .ok (.iload_n 2, 1) := by decide +kernel
theorem d_TB_choose_83 : decode b_TB_choose 83 = .ok (.iload_n 3, 1) := by decide +kernel
theorem d_TB_choose_84 : decode b_TB_choose 84 = .ok (.iload 4, 2) := by decide +kernel
theorem d_TB_choose_86 : decode b_TB_choose 86 = .ok (.invokestatic 40, 3) := by decide +kernel
theorem d_TB_choose_89 : decode b_TB_choose 89 = .ok (.iload 8, 2) := by decide +kernel
theorem d_TB_choose_91 : decode b_TB_choose 91 = .ok (.iload 9, 2) := by decide +kernel
theorem d_TB_choose_93 : decode b_TB_choose 93 = .ok (.imul, 1) := by decide +kernel
theorem d_TB_choose_94 : decode b_TB_choose 94 = .ok (.isub, 1) := by decide +kernel
theorem d_TB_choose_95 : decode b_TB_choose 95 = .ok (.istore 11, 2) := by decide +kernel
theorem d_TB_choose_97 : decode b_TB_choose 97 = .ok (.iconst 1, 1) := by decide +kernel
theorem d_TB_choose_98 : decode b_TB_choose 98 = .ok (.istore 12, 2) := by decide +kernel
theorem d_TB_choose_100 : decode b_TB_choose 100 = .ok (.iload 12, 2) := by decide +kernel
theorem d_TB_choose_102 : decode b_TB_choose 102 = .ok (.iload 8, 2) := by decide +kernel
theorem d_TB_choose_104 : decode b_TB_choose 104 = .ok (.if_icmp .ge 72, 3) := by decide +kernel
theorem d_TB_choose_107 : decode b_TB_choose 107 = .ok (.iconst 0, 1) := by decide +kernel
theorem d_TB_choose_108 : decode b_TB_choose 108 = .ok (.iload 8, 2) := by decide +kernel
theorem d_TB_choose_110 : decode b_TB_choose 110 = .ok (.iload 12, 2) := by decide +kernel
theorem d_TB_choose_112 : decode b_TB_choose 112 = .ok (.isub, 1) := by decide +kernel
theorem d_TB_choose_113 : decode b_TB_choose 113 = .ok (.aload_n 0, 1) := by decide +kernel
theorem d_TB_choose_114 : decode b_TB_choose 114 = .ok (.getfield 25, 3) := by decide +kernel
theorem d_TB_choose_117 : decode b_TB_choose 117 = .ok (.isub, 1) := by decide +kernel
theorem d_TB_choose_118 : decode b_TB_choose 118 = .ok (.invokestatic 79, 3) := by decide +kernel
theorem d_TB_choose_121 : decode b_TB_choose 121 = .ok (.istore 13, 2) := by decide +kernel
theorem d_TB_choose_123 : decode b_TB_choose 123 = .ok (.aload_n 0, 1) := by decide +kernel
theorem d_TB_choose_124 : decode b_TB_choose 124 = .ok (.iload 10, 2) := by decide +kernel
theorem d_TB_choose_126 : decode b_TB_choose 126 = .ok (.iload 12, 2) := by decide +kernel
theorem d_TB_choose_128 : decode b_TB_choose 128 = .ok (.iload 9, 2) := by decide +kernel
theorem d_TB_choose_130 : decode b_TB_choose 130 = .ok (.imul, 1) := by decide +kernel
theorem d_TB_choose_131 : decode b_TB_choose 131 = .ok (.iadd, 1) := by decide +kernel
theorem d_TB_choose_132 : decode b_TB_choose 132 = .ok (.invokevirtual 43, 3) := by decide +kernel
theorem d_TB_choose_135 : decode b_TB_choose 135 = .ok (.aload_n 0, 1) := by decide +kernel
theorem d_TB_choose_136 : decode b_TB_choose 136 = .ok (.iload 11, 2) := by decide +kernel
theorem d_TB_choose_138 : decode b_TB_choose 138 = .ok (.iload 13, 2) := by decide +kernel
theorem d_TB_choose_140 : decode b_TB_choose 140 = .ok (.iload 9, 2) := by decide +kernel
theorem d_TB_choose_142 : decode b_TB_choose 142 = .ok (.imul, 1) := by decide +kernel
theorem d_TB_choose_143 : decode b_TB_choose 143 = .ok (.iadd, 1) := by decide +kernel
theorem d_TB_choose_144 : decode b_TB_choose 144 = .ok (.invokevirtual 43, 3) := by decide +kernel
theorem d_TB_choose_147 : decode b_TB_choose 147 = .ok (.iadd, 1) := by decide +kernel
theorem d_TB_choose_148 : decode b_TB_choose 148 = .ok (.iconst 1, 1) := by decide +kernel
theorem d_TB_choose_149 : decode b_TB_choose 149 = .ok (.isub, 1) := by decide +kernel
theorem d_TB_choose_150 : decode b_TB_choose 150 = .ok (.istore 14, 2) := by decide +kernel
theorem d_TB_choose_152 : decode b_TB_choose 152 = .ok (.iload 14, 2) := by decide +kernel
theorem d_TB_choose_154 : decode b_TB_choose 154 = .ok (.iload 6, 2) := by decide +kernel
theorem d_TB_choose_156 : decode b_TB_choose 156 = .ok (.if_icmp .le 14, 3) := by decide +kernel
theorem d_TB_choose_159 : decode b_TB_choose 159 = .ok (.iload 14, 2) := by decide +kernel
theorem d_TB_choose_161 : decode b_TB_choose 161 = .ok (.istore 6, 2) := by decide +kernel
theorem d_TB_choose_163 : decode b_TB_choose 163 = .ok (.bipush 8, 2) := by decide +kernel
theorem d_TB_choose_165 : decode b_TB_choose 165 = .ok (.iload 12, 2) := by decide +kernel
theorem d_TB_choose_167 : decode b_TB_choose 167 = .ok (.iadd, 1) := by decide +kernel
theorem d_TB_choose_168 : decode b_TB_choose 168 = .ok (.istore 7, 2) := by decide +kernel
theorem d_TB_choose_170 : decode b_TB_choose 170 = .ok (.iinc 12 1, 3) := by decide +kernel
theorem d_TB_choose_173 : decode b_TB_choose 173 = .ok (.goto (-73), 3) := by decide +kernel
theorem d_TB_choose_176 : decode b_TB_choose 176 = .ok (.aload_n 0, 1) := by decide +kernel
theorem d_TB_choose_177 : decode b_TB_choose 177 = .ok (.iload 11, 2) := by decide +kernel
theorem d_TB_choose_179 : decode b_TB_choose 179 = .ok (.iload 8, 2) := by decide +kernel
theorem d_TB_choose_181 : decode b_TB_choose 181 = .ok (.iload 9, 2) := by decide +kernel
theorem d_TB_choose_183 : decode b_TB_choose 183 = .ok (.imul, 1) := by decide +kernel
theorem d_TB_choose_184 : decode b_TB_choose 184 = .ok (.iadd, 1) := by decide +kernel
theorem d_TB_choose_185 : decode b_TB_choose 185 = .ok (.iload 6, 2) := by decide +kernel
theorem d_TB_choose_187 : decode b_TB_choose 187 = .ok (.iload 7, 2) := by decide +kernel
theorem d_TB_choose_189 : decode b_TB_choose 189 = .ok (.invokevirtual 72, 3) := by decide +kernel
theorem d_TB_choose_192 : decode b_TB_choose 192 = .ok (.return_, 1) := by decide +kernel
theorem d_AR_fill_0 : decode b_AR_fill 0 = .ok (.iconst 0, 1) := by decide +kernel
theorem d_AR_fill_1 : decode b_AR_fill 1 = .ok (.istore_n 2, 1) := by decide +kernel
theorem d_AR_fill_2 : decode b_AR_fill 2 = .ok (.aload_n 0, 1) := by decide +kernel
theorem d_AR_fill_3 : decode b_AR_fill 3 = .ok (.arraylength, 1) := by decide +kernel
theorem d_AR_fill_4 : decode b_AR_fill 4 = .ok (.istore_n 3, 1) := by decide +kernel
theorem d_AR_fill_5 : decode b_AR_fill 5 = .ok (.iload_n 2, 1) := by decide +kernel
theorem d_AR_fill_6 : decode b_AR_fill 6 = .ok (.iload_n 3, 1) := by decide +kernel
theorem d_AR_fill_7 : decode b_AR_fill 7 = .ok (.if_icmp .ge 13, 3) := by decide +kernel
theorem d_AR_fill_10 : decode b_AR_fill 10 = .ok (.aload_n 0, 1) := by decide +kernel
theorem d_AR_fill_11 : decode b_AR_fill 11 = .ok (.iload_n 2, 1) := by decide +kernel
theorem d_AR_fill_12 : decode b_AR_fill 12 = .ok (.iload_n 1, 1) := by decide +kernel
theorem d_AR_fill_13 : decode b_AR_fill 13 = .ok (.iastore, 1) := by decide +kernel
theorem d_AR_fill_14 : decode b_AR_fill 14 = .ok (.iinc 2 1, 3) := by decide +kernel
theorem d_AR_fill_17 : decode b_AR_fill 17 = .ok (.goto (-12), 3) := by decide +kernel
theorem d_AR_fill_20 : decode b_AR_fill 20 = .ok (.return_, 1) := by decide +kernel
