theorem dm_Re_bring_43 : decode mm_Re_bring.2.1 43 = .ok (.iload_n 2, 1) := by decide +kernel
theorem dm_Re_bring_44 : decode mm_Re_bring.2.1 44 = .ok (.iload_n 3, 1) := by decide +kernel
theorem dm_Re_bring_45 : decode mm_Re_bring.2.1 45 = .ok (.invokevirtual 69, 3) := by decide +kernel
theorem dm_Re_bring_48 : decode mm_Re_bring.2.1 48 = .ok (.ifCond .ne 29, 3) := by decide +kernel
theorem dm_Re_bring_51 : decode mm_Re_bring.2.1 51 = .ok (.aload_n 0, 1) := by decide +kernel
theorem dm_Re_bring_52 : decode mm_Re_bring.2.1 52 = .ok (.getfield 28, 3) := by decide +kernel
theorem dm_Re_bring_55 : decode mm_Re_bring.2.1 55 = .ok (.istore 7, 2) := by decide +kernel
theorem dm_Re_bring_57 : decode mm_Re_bring.2.1 57 = .ok (.aload_n 0, 1) := by decide +kernel
theorem dm_Re_bring_58 : decode mm_Re_bring.2.1 58 = .ok (.iload 5, 2) := by decide +kernel
theorem dm_Re_bring_60 : decode mm_Re_bring.2.1 60 = .ok (.iload 6, 2) := by decide +kernel
theorem dm_Re_bring_62 : decode mm_Re_bring.2.1 62 = .ok (.invokevirtual 43, 3) := by decide +kernel
theorem dm_Re_bring_65 : decode mm_Re_bring.2.1 65 = .ok (.aload_n 0, 1) := by decide +kernel
theorem dm_Re_bring_66 : decode mm_Re_bring.2.1 66 = .ok (.iload 7, 2) := by decide +kernel
theorem dm_Re_bring_68 : decode mm_Re_bring.2.1 68 = .ok (.invokevirtual 73, 3) := by decide +kernel
theorem dm_Re_bring_71 : decode mm_Re_bring.2.1 71 = .ok (.aload_n 0, 1) := by decide +kernel
theorem dm_Re_bring_72 : decode mm_Re_bring.2.1 72 = .ok (.iload 7, 2) := by decide +kernel
theorem dm_Re_bring_74 : decode mm_Re_bring.2.1 74 = .ok (.putfield 28, 3) := by decide +kernel
theorem dm_Re_bring_77 : decode mm_Re_bring.2.1 77 = .ok (.iinc 4 1, 3) := by decide +kernel
theorem dm_Re_bring_80 : decode mm_Re_bring.2.1 80 = .ok (.goto (-77), 3) := by decide +kernel
theorem dm_Re_bring_83 : decode mm_Re_bring.2.1 83 = .ok (.return_, 1) := by decide +kernel
theorem dm_Re_beginEquation_0 : decode mm_Re_beginEquation.2.1 0 = .ok (.aload_n 0, 1) := by decide +kernel
theorem dm_Re_beginEquation_1 : decode mm_Re_beginEquation.2.1 1 = .ok (.bipush 12, 2) := by decide +kernel
theorem dm_Re_beginEquation_3 : decode mm_Re_beginEquation.2.1 3 = .ok (.invokevirtual 32, 3) := by decide +kernel
theorem dm_Re_beginEquation_6 : decode mm_Re_beginEquation.2.1 6 = .ok (.aload_n 0, 1) := by decide +kernel
theorem dm_Re_beginEquation_7 : decode mm_Re_beginEquation.2.1 7 = .ok (.bipush 12, 2) := by decide +kernel
theorem dm_Re_beginEquation_9 : decode mm_Re_beginEquation.2.1 9 = .ok (.invokevirtual 32, 3) := by decide +kernel
theorem dm_Re_beginEquation_12 : decode mm_Re_beginEquation.2.1 12 = .ok (.aload_n 0, 1) := by decide +kernel
theorem dm_Re_beginEquation_13 : decode mm_Re_beginEquation.2.1 13 = .ok (.bipush 11, 2) := by decide +kernel
theorem dm_Re_beginEquation_15 : decode mm_Re_beginEquation.2.1 15 = .ok (.invokevirtual 32, 3) := by decide +kernel
theorem dm_Re_beginEquation_18 : decode mm_Re_beginEquation.2.1 18 = .ok (.aload_n 0, 1) := by decide +kernel
theorem dm_Re_beginEquation_19 : decode mm_Re_beginEquation.2.1 19 = .ok (.iconst 0, 1) := by decide +kernel
theorem dm_Re_beginEquation_20 : decode mm_Re_beginEquation.2.1 20 = .ok (.invokevirtual 32, 3) := by decide +kernel
theorem dm_Re_beginEquation_23 : decode mm_Re_beginEquation.2.1 23 = .ok (.aload_n 0, 1) := by decide +kernel
theorem dm_Re_beginEquation_24 : decode mm_Re_beginEquation.2.1 24 = .ok (.iload_n 1, 1) := by decide +kernel
theorem dm_Re_beginEquation_25 : decode mm_Re_beginEquation.2.1 25 = .ok (.iload_n 2, 1) := by decide +kernel
theorem dm_Re_beginEquation_26 : decode mm_Re_beginEquation.2.1 26 = .ok (.invokevirtual 43, 3) := by decide +kernel
theorem dm_Re_beginEquation_29 : decode mm_Re_beginEquation.2.1 29 = .ok (.return_, 1) := by decide +kernel
theorem dm_Re_done_0 : decode mm_Re_done.2.1 0 = .ok (.aload_n 0, 1) := by decide +kernel
theorem dm_Re_done_1 : decode mm_Re_done.2.1 1 = .ok (.getfield 50, 3) := by decide +kernel
theorem dm_Re_done_4 : decode mm_Re_done.2.1 4 = .ok (.ifCond .ne 12, 3) := by decide +kernel
theorem dm_Re_done_7 : decode mm_Re_done.2.1 7 = .ok (.aload_n 0, 1) := by decide +kernel
theorem dm_Re_done_8 : decode mm_Re_done.2.1 8 = .ok (.getfield 76, 3) := by decide +kernel
theorem dm_Re_done_11 : decode mm_Re_done.2.1 11 = .ok (.bipush 120, 2) := by decide +kernel
theorem dm_Re_done_13 : decode mm_Re_done.2.1 13 = .ok (.if_icmp .ne 5, 3) := by decide +kernel
theorem dm_Re_done_16 : decode mm_Re_done.2.1 16 = .ok (.iconst 4, 1) := by decide +kernel
theorem dm_Re_done_17 : decode mm_Re_done.2.1 17 = .ok (.ireturn, 1) := by decide +kernel
theorem dm_Re_done_18 : decode mm_Re_done.2.1 18 = .ok (.aload_n 0, 1) := by decide +kernel
theorem dm_Re_done_19 : decode mm_Re_done.2.1 19 = .ok (.dup, 1) := by decide +kernel
theorem dm_Re_done_20 : decode mm_Re_done.2.1 20 = .ok (.getfield 76, 3) := by decide +kernel
theorem dm_Re_done_23 : decode mm_Re_done.2.1 23 = .ok (.iconst 1, 1) := by decide +kernel
theorem dm_Re_done_24 : decode mm_Re_done.2.1 24 = .ok (.iadd, 1) := by decide +kernel
theorem dm_Re_done_25 : decode mm_Re_done.2.1 25 = .ok (.putfield 76, 3) := by decide +kernel
theorem dm_Re_done_28 : decode mm_Re_done.2.1 28 = .ok (.aload_n 0, 1) := by decide +kernel
theorem dm_Re_done_29 : decode mm_Re_done.2.1 29 = .ok (.dup, 1) := by decide +kernel
theorem dm_Re_done_30 : decode mm_Re_done.2.1 30 = .ok (.getfield 79, 3) := by decide +kernel
theorem dm_Re_done_33 : decode mm_Re_done.2.1 33 = .ok (.iload_n 1, 1) := by decide +kernel
theorem dm_Re_done_34 : decode mm_Re_done.2.1 34 = .ok (.isub, 1) := by decide +kernel
theorem dm_Re_done_35 : decode mm_Re_done.2.1 35 = .ok (.putfield 79, 3) := by decide +kernel
theorem dm_Re_done_38 : decode mm_Re_done.2.1 38 = .ok (.aload_n 0, 1) := by decide +kernel
theorem dm_Re_done_39 : decode mm_Re_done.2.1 39 = .ok (.bipush 28, 2) := by decide +kernel
theorem dm_Re_done_41 : decode mm_Re_done.2.1 41 = .ok (.aload_n 0, 1) := by decide +kernel
theorem dm_Re_done_42 : decode mm_Re_done.2.1 42 = .ok (.getfield 79, 3) := by decide +kernel
theorem dm_Re_done_45 : decode mm_Re_done.2.1 45 = .ok (.invokevirtual 82, 3) := by decide +kernel
theorem dm_Re_done_48 : decode mm_Re_done.2.1 48 = .ok (.aload_n 0, 1) := by decide +kernel
theorem dm_Re_done_49 : decode mm_Re_done.2.1 49 = .ok (.dup, 1) := by decide +kernel
theorem dm_Re_done_50 : decode mm_Re_done.2.1 50 = .ok (.getfield 79, 3) := by decide +kernel
theorem dm_Re_done_53 : decode mm_Re_done.2.1 53 = .ok (.iconst 1, 1) := by decide +kernel
theorem dm_Re_done_54 : decode mm_Re_done.2.1 54 = .ok (.iadd, 1) := by decide +kernel
theorem dm_Re_done_55 : decode mm_Re_done.2.1 55 = .ok (.putfield 79, 3) := by decide +kernel
theorem dm_Re_done_58 : decode mm_Re_done.2.1 58 = .ok (.iconst 0, 1) := by decide +kernel
theorem dm_Re_done_59 : decode mm_Re_done.2.1 59 = .ok (.ireturn, 1) := by decide +kernel
theorem dm_Re_top_0 : decode mm_Re_top.2.1 0 = .ok (.iload_n 1, 1) := by decide +kernel
theorem dm_Re_top_1 : decode mm_Re_top.2.1 1 = .ok (.aload_n 0, 1) := by decide +kernel
theorem dm_Re_top_2 : decode mm_Re_top.2.1 2 = .ok (.getfield 79, 3) := by decide +kernel
theorem dm_Re_top_5 : decode mm_Re_top.2.1 5 = .ok (.if_icmp .ge 19, 3) := by decide +kernel
theorem dm_Re_top_8 : decode mm_Re_top.2.1 8 = .ok (.aload_n 0, 1) := by decide +kernel
theorem dm_Re_top_9 : decode mm_Re_top.2.1 9 = .ok (.getfield 16, 3) := by decide +kernel
theorem dm_Re_top_12 : decode mm_Re_top.2.1 12 = .ok (.aload_n 0, 1) := by decide +kernel
theorem dm_Re_top_13 : decode mm_Re_top.2.1 13 = .ok (.getfield 79, 3) := by decide +kernel
theorem dm_Re_top_16 : decode mm_Re_top.2.1 16 = .ok (.iconst 1, 1) := by decide +kernel
theorem dm_Re_top_17 : decode mm_Re_top.2.1 17 = .ok (.isub, 1) := by decide +kernel
theorem dm_Re_top_18 : decode mm_Re_top.2.1 18 = .ok (.iload_n 1, 1) := by decide +kernel
theorem dm_Re_top_19 : decode mm_Re_top.2.1 19 = .ok (.isub, 1) := by decide +kernel
theorem dm_Re_top_20 : decode mm_Re_top.2.1 20 = .ok (.iaload, 1) := by decide +kernel
theorem dm_Re_top_21 : decode mm_Re_top.2.1 21 = .ok (.goto 4, 3) := by decide +kernel
theorem dm_Re_top_24 : decode mm_Re_top.2.1 24 = .ok (.iconst (-1), 1) := by decide +kernel
theorem dm_Re_top_25 : decode mm_Re_top.2.1 25 = .ok (.ireturn, 1) := by decide +kernel
theorem dm_Re_variable_0 : decode mm_Re_variable.2.1 0 = .ok (.aload_n 0, 1) := by decide +kernel
theorem dm_Re_variable_1 : decode mm_Re_variable.2.1 1 = .ok (.iload_n 1, 1) := by decide +kernel
theorem dm_Re_variable_2 : decode mm_Re_variable.2.1 2 = .ok (.invokevirtual 85, 3) := by decide +kernel
theorem dm_Re_variable_5 : decode mm_Re_variable.2.1 5 = .ok (.iconst 1, 1) := by decide +kernel
theorem dm_Re_variable_6 : decode mm_Re_variable.2.1 6 = .ok (.if_icmp .ne 29, 3) := by decide +kernel
theorem dm_Re_variable_9 : decode mm_Re_variable.2.1 9 = .ok (.aload_n 0, 1) := by decide +kernel
theorem dm_Re_variable_10 : decode mm_Re_variable.2.1 10 = .ok (.getfield 7, 3) := by decide +kernel
theorem dm_Re_variable_13 : decode mm_Re_variable.2.1 13 = .ok (.aload_n 0, 1) := by decide +kernel
theorem dm_Re_variable_14 : decode mm_Re_variable.2.1 14 = .ok (.getfield 79, 3) := by decide +kernel
theorem dm_Re_variable_17 : decode mm_Re_variable.2.1 17 = .ok (.iconst 1, 1) := by decide +kernel
theorem dm_Re_variable_18 : decode mm_Re_variable.2.1 18 = .ok (.isub, 1) := by decide +kernel
theorem dm_Re_variable_19 : decode mm_Re_variable.2.1 19 = .ok (.iload_n 1, 1) := by decide +kernel
theorem dm_Re_variable_20 : decode mm_Re_variable.2.1 20 = .ok (.isub, 1) := by decide +kernel
theorem dm_Re_variable_21 : decode mm_Re_variable.2.1 21 = .ok (.iconst 0, 1) := by decide +kernel
theorem dm_Re_variable_22 : decode mm_Re_variable.2.1 22 = .ok (.invokestatic 54, 3) := by decide +kernel
theorem dm_Re_variable_25 : decode mm_Re_variable.2.1 25 = .ok (.iaload, 1) := by decide +kernel
theorem dm_Re_variable_26 : decode mm_Re_variable.2.1 26 = .ok (.bipush 10, 2) := by decide +kernel
theorem dm_Re_variable_28 : decode mm_Re_variable.2.1 28 = .ok (.if_icmp .ne 7, 3) := by decide +kernel
theorem dm_Re_variable_31 : decode mm_Re_variable.2.1 31 = .ok (.iconst 1, 1) := by decide +kernel
theorem dm_Re_variable_32 : decode mm_Re_variable.2.1 32 = .ok (.goto 4, 3) := by decide +kernel
theorem dm_Re_variable_35 : decode mm_Re_variable.2.1 35 = .ok (.iconst 0, 1) := by decide +kernel
theorem dm_Re_variable_36 : decode mm_Re_variable.2.1 36 = .ok (.ireturn, 1) := by decide +kernel
theorem dm_Re_rowOf_0 : decode mm_Re_rowOf.2.1 0 = .ok (.aload_n 0, 1) := by decide +kernel
theorem dm_Re_rowOf_1 : decode mm_Re_rowOf.2.1 1 = .ok (.getfield 79, 3) := by decide +kernel
theorem dm_Re_rowOf_4 : decode mm_Re_rowOf.2.1 4 = .ok (.iconst 1, 1) := by decide +kernel
theorem dm_Re_rowOf_5 : decode mm_Re_rowOf.2.1 5 = .ok (.isub, 1) := by decide +kernel
theorem dm_Re_rowOf_6 : decode mm_Re_rowOf.2.1 6 = .ok (.iload_n 1, 1) := by decide +kernel
theorem dm_Re_rowOf_7 : decode mm_Re_rowOf.2.1 7 = .ok (.isub, 1) := by decide +kernel
theorem dm_Re_rowOf_8 : decode mm_Re_rowOf.2.1 8 = .ok (.iconst 0, 1) := by decide +kernel
theorem dm_Re_rowOf_9 : decode mm_Re_rowOf.2.1 9 = .ok (.invokestatic 54, 3) := by decide +kernel
theorem dm_Re_rowOf_12 : decode mm_Re_rowOf.2.1 12 = .ok (.ireturn, 1) := by decide +kernel
theorem dm_Re_rowEnd_0 : decode mm_Re_rowEnd.2.1 0 = .ok (.aload_n 0, 1) := by decide +kernel
theorem dm_Re_rowEnd_1 : decode mm_Re_rowEnd.2.1 1 = .ok (.getfield 79, 3) := by decide +kernel
theorem dm_Re_rowEnd_4 : decode mm_Re_rowEnd.2.1 4 = .ok (.iconst 1, 1) := by decide +kernel
theorem dm_Re_rowEnd_5 : decode mm_Re_rowEnd.2.1 5 = .ok (.isub, 1) := by decide +kernel
theorem dm_Re_rowEnd_6 : decode mm_Re_rowEnd.2.1 6 = .ok (.iload_n 1, 1) := by decide +kernel
theorem dm_Re_rowEnd_7 : decode mm_Re_rowEnd.2.1 7 = .ok (.isub, 1) := by decide +kernel
theorem dm_Re_rowEnd_8 : decode mm_Re_rowEnd.2.1 8 = .ok (.iconst 0, 1) := by decide +kernel
theorem dm_Re_rowEnd_9 : decode mm_Re_rowEnd.2.1 9 = .ok (.invokestatic 54, 3) := by decide +kernel
theorem dm_Re_rowEnd_12 : decode mm_Re_rowEnd.2.1 12 = .ok (.aload_n 0, 1) := by decide +kernel
theorem dm_Re_rowEnd_13 : decode mm_Re_rowEnd.2.1 13 = .ok (.getfield 13, 3) := by decide +kernel
theorem dm_Re_rowEnd_16 : decode mm_Re_rowEnd.2.1 16 = .ok (.iconst 4, 1) := by decide +kernel
theorem dm_Re_rowEnd_17 : decode mm_Re_rowEnd.2.1 17 = .ok (.aload_n 0, 1) := by decide +kernel
theorem dm_Re_rowEnd_18 : decode mm_Re_rowEnd.2.1 18 = .ok (.getfield 79, 3) := by decide +kernel
theorem dm_Re_rowEnd_21 : decode mm_Re_rowEnd.2.1 21 = .ok (.iconst 1, 1) := by decide +kernel
theorem dm_Re_rowEnd_22 : decode mm_Re_rowEnd.2.1 22 = .ok (.isub, 1) := by decide +kernel
theorem dm_Re_rowEnd_23 : decode mm_Re_rowEnd.2.1 23 = .ok (.iload_n 1, 1) := by decide +kernel
theorem dm_Re_rowEnd_24 : decode mm_Re_rowEnd.2.1 24 = .ok (.isub, 1) := by decide +kernel
theorem dm_Re_rowEnd_25 : decode mm_Re_rowEnd.2.1 25 = .ok (.imul, 1) := by decide +kernel
theorem dm_Re_rowEnd_26 : decode mm_Re_rowEnd.2.1 26 = .ok (.iaload, 1) := by decide +kernel
theorem dm_Re_rowEnd_27 : decode mm_Re_rowEnd.2.1 27 = .ok (.iadd, 1) := by decide +kernel
theorem dm_Re_rowEnd_28 : decode mm_Re_rowEnd.2.1 28 = .ok (.ireturn, 1) := by decide +kernel
theorem dm_Re_type_0 : decode mm_Re_type.2.1 0 = .ok (.iload_n 1, 1) := by decide +kernel
theorem dm_Re_type_1 : decode mm_Re_type.2.1 1 = .ok (.iconst (-1), 1) := by decide +kernel
theorem dm_Re_type_2 : decode mm_Re_type.2.1 2 = .ok (.if_icmp .lt 8, 3) := by decide +kernel
theorem dm_Re_type_5 : decode mm_Re_type.2.1 5 = .ok (.iload_n 1, 1) := by decide +kernel
theorem dm_Re_type_6 : decode mm_Re_type.2.1 6 = .ok (.iconst 4, 1) := by decide +kernel
theorem dm_Re_type_7 : decode mm_Re_type.2.1 7 = .ok (.if_icmp .le 5, 3) := by decide +kernel
theorem dm_Re_type_10 : decode mm_Re_type.2.1 10 = .ok (.iconst 2, 1) := by decide +kernel
theorem dm_Re_type_11 : decode mm_Re_type.2.1 11 = .ok (.ireturn, 1) := by decide +kernel
theorem dm_Re_type_12 : decode mm_Re_type.2.1 12 = .ok (.iload_n 1, 1) := by decide +kernel
theorem dm_Re_type_13 : decode mm_Re_type.2.1 13 = .ok (.iconst 4, 1) := by decide +kernel
theorem dm_Re_type_14 : decode mm_Re_type.2.1 14 = .ok (.if_icmp .ne 21, 3) := by decide +kernel
theorem dm_Re_type_17 : decode mm_Re_type.2.1 17 = .ok (.aload_n 0, 1) := by decide +kernel
theorem dm_Re_type_18 : decode mm_Re_type.2.1 18 = .ok (.iconst 0, 1) := by decide +kernel
theorem dm_Re_type_19 : decode mm_Re_type.2.1 19 = .ok (.invokevirtual 85, 3) := by decide +kernel
theorem dm_Re_type_22 : decode mm_Re_type.2.1 22 = .ok (.ifCond .ne 11, 3) := by decide +kernel
theorem dm_Re_type_25 : decode mm_Re_type.2.1 25 = .ok (.aload_n 0, 1) := by decide +kernel
theorem dm_Re_type_26 : decode mm_Re_type.2.1 26 = .ok (.iconst 1, 1) := by decide +kernel
theorem dm_Re_type_27 : decode mm_Re_type.2.1 27 = .ok (.invokevirtual 85, 3) := by decide +kernel
theorem dm_Re_type_30 : decode mm_Re_type.2.1 30 = .ok (.ifCond .eq 5, 3) := by decide +kernel
theorem dm_Re_type_33 : decode mm_Re_type.2.1 33 = .ok (.iconst 1, 1) := by decide +kernel
theorem dm_Re_type_34 : decode mm_Re_type.2.1 34 = .ok (.ireturn, 1) := by decide +kernel
theorem dm_Re_type_35 : decode mm_Re_type.2.1 35 = .ok (.aload_n 0, 1) := by decide +kernel
theorem dm_Re_type_36 : decode mm_Re_type.2.1 36 = .ok (.invokevirtual 88, 3) := by decide +kernel
theorem dm_Re_type_39 : decode mm_Re_type.2.1 39 = .ok (.aload_n 0, 1) := by decide +kernel
theorem dm_Re_type_40 : decode mm_Re_type.2.1 40 = .ok (.getfield 16, 3) := by decide +kernel
theorem dm_Re_type_43 : decode mm_Re_type.2.1 43 = .ok (.bipush 28, 2) := by decide +kernel
theorem dm_Re_type_45 : decode mm_Re_type.2.1 45 = .ok (.iconst 0, 1) := by decide +kernel
theorem dm_Re_type_46 : decode mm_Re_type.2.1 46 = .ok (.iastore, 1) := by decide +kernel
theorem dm_Re_type_47 : decode mm_Re_type.2.1 47 = .ok (.iload_n 1, 1) := by decide +kernel
theorem dm_Re_type_48 : decode mm_Re_type.2.1 48 = .ok (.iconst 4, 1) := by decide +kernel
theorem dm_Re_type_49 : decode mm_Re_type.2.1 49 = .ok (.if_icmp .ge 35, 3) := by decide +kernel
theorem dm_Re_type_52 : decode mm_Re_type.2.1 52 = .ok (.aload_n 0, 1) := by decide +kernel
theorem dm_Re_type_53 : decode mm_Re_type.2.1 53 = .ok (.getfield 79, 3) := by decide +kernel
theorem dm_Re_type_56 : decode mm_Re_type.2.1 56 = .ok (.bipush 12, 2) := by decide +kernel
theorem dm_Re_type_58 : decode mm_Re_type.2.1 58 = .ok (.if_icmp .ne 5, 3) := by decide +kernel
theorem dm_Re_type_61 : decode mm_Re_type.2.1 61 = .ok (.iconst 4, 1) := by decide +kernel
theorem dm_Re_type_62 : decode mm_Re_type.2.1 62 = .ok (.ireturn, 1) := by decide +kernel
theorem dm_Re_type_63 : decode mm_Re_type.2.1 63 = .ok (.aload_n 0, 1) := by decide +kernel
theorem dm_Re_type_64 : decode mm_Re_type.2.1 64 = .ok (.iload_n 1, 1) := by decide +kernel
theorem dm_Re_type_65 : decode mm_Re_type.2.1 65 = .ok (.iconst 2, 1) := by decide +kernel
theorem dm_Re_type_66 : decode mm_Re_type.2.1 66 = .ok (.iadd, 1) := by decide +kernel
theorem dm_Re_type_67 : decode mm_Re_type.2.1 67 = .ok (.invokevirtual 32, 3) := by decide +kernel
theorem dm_Re_type_70 : decode mm_Re_type.2.1 70 = .ok (.aload_n 0, 1) := by decide +kernel
theorem dm_Re_type_71 : decode mm_Re_type.2.1 71 = .ok (.iconst 0, 1) := by decide +kernel
theorem dm_Re_type_72 : decode mm_Re_type.2.1 72 = .ok (.sipush 5200, 3) := by decide +kernel
theorem dm_Re_type_75 : decode mm_Re_type.2.1 75 = .ok (.invokevirtual 66, 3) := by decide +kernel
theorem dm_Re_type_78 : decode mm_Re_type.2.1 78 = .ok (.aload_n 0, 1) := by decide +kernel
theorem dm_Re_type_79 : decode mm_Re_type.2.1 79 = .ok (.iconst 0, 1) := by decide +kernel
theorem dm_Re_type_80 : decode mm_Re_type.2.1 80 = .ok (.invokevirtual 91, 3) := by decide +kernel
theorem dm_Re_type_83 : decode mm_Re_type.2.1 83 = .ok (.ireturn, 1) := by decide +kernel
theorem dm_Re_type_84 : decode mm_Re_type.2.1 84 = .ok (.aload_n 0, 1) := by decide +kernel
theorem dm_Re_type_85 : decode mm_Re_type.2.1 85 = .ok (.iconst 0, 1) := by decide +kernel
theorem dm_Re_type_86 : decode mm_Re_type.2.1 86 = .ok (.invokevirtual 32, 3) := by decide +kernel
theorem dm_Re_type_89 : decode mm_Re_type.2.1 89 = .ok (.aload_n 0, 1) := by decide +kernel
theorem dm_Re_type_90 : decode mm_Re_type.2.1 90 = .ok (.aload_n 0, 1) := by decide +kernel
theorem dm_Re_type_91 : decode mm_Re_type.2.1 91 = .ok (.iconst 1, 1) := by decide +kernel
theorem dm_Re_type_92 : decode mm_Re_type.2.1 92 = .ok (.invokevirtual 94, 3) := by decide +kernel
theorem dm_Re_type_95 : decode mm_Re_type.2.1 95 = .ok (.aload_n 0, 1) := by decide +kernel
theorem dm_Re_type_96 : decode mm_Re_type.2.1 96 = .ok (.iconst 1, 1) := by decide +kernel
theorem dm_Re_type_97 : decode mm_Re_type.2.1 97 = .ok (.invokevirtual 97, 3) := by decide +kernel
theorem dm_Re_type_100 : decode mm_Re_type.2.1 100 = .ok (.invokevirtual 43, 3) := by decide +kernel
theorem dm_Re_type_103 : decode mm_Re_type.2.1 103 = .ok (.aload_n 0, 1) := by decide +kernel
theorem dm_Re_type_104 : decode mm_Re_type.2.1 104 = .ok (.aload_n 0, 1) := by decide +kernel
theorem dm_Re_type_105 : decode mm_Re_type.2.1 105 = .ok (.iconst 0, 1) := by decide +kernel
theorem dm_Re_type_106 : decode mm_Re_type.2.1 106 = .ok (.invokevirtual 94, 3) := by decide +kernel
theorem dm_Re_type_109 : decode mm_Re_type.2.1 109 = .ok (.aload_n 0, 1) := by decide +kernel
theorem dm_Re_type_110 : decode mm_Re_type.2.1 110 = .ok (.iconst 0, 1) := by decide +kernel
theorem dm_Re_type_111 : decode mm_Re_type.2.1 111 = .ok (.invokevirtual 97, 3) := by decide +kernel
theorem dm_Re_type_114 : decode mm_Re_type.2.1 114 = .ok (.invokevirtual 43, 3) := by decide +kernel
theorem dm_Re_type_117 : decode mm_Re_type.2.1 117 = .ok (.aload_n 0, 1) := by decide +kernel
theorem dm_Re_type_118 : decode mm_Re_type.2.1 118 = .ok (.getfield 28, 3) := by decide +kernel
theorem dm_Re_type_121 : decode mm_Re_type.2.1 121 = .ok (.sipush 5200, 3) := by decide +kernel
theorem dm_Re_type_124 : decode mm_Re_type.2.1 124 = .ok (.isub, 1) := by decide +kernel
theorem dm_Re_type_125 : decode mm_Re_type.2.1 125 = .ok (.bipush 15, 2) := by decide +kernel
theorem dm_Re_type_127 : decode mm_Re_type.2.1 127 = .ok (.if_icmp .le 5, 3) := by decide +kernel
theorem dm_Re_type_130 : decode mm_Re_type.2.1 130 = .ok (.iconst 4, 1) := by decide +kernel
theorem dm_Re_type_131 : decode mm_Re_type.2.1 131 = .ok (.ireturn, 1) := by decide +kernel
theorem dm_Re_type_132 : decode mm_Re_type.2.1 132 = .ok (.aload_n 0, 1) := by decide +kernel
theorem dm_Re_type_133 : decode mm_Re_type.2.1 133 = .ok (.iconst 0, 1) := by decide +kernel
theorem dm_Re_type_134 : decode mm_Re_type.2.1 134 = .ok (.sipush 5200, 3) := by decide +kernel
theorem dm_Re_type_137 : decode mm_Re_type.2.1 137 = .ok (.invokevirtual 66, 3) := by decide +kernel
theorem dm_Re_type_140 : decode mm_Re_type.2.1 140 = .ok (.aload_n 0, 1) := by decide +kernel
theorem dm_Re_type_141 : decode mm_Re_type.2.1 141 = .ok (.iconst 2, 1) := by decide +kernel
theorem dm_Re_type_142 : decode mm_Re_type.2.1 142 = .ok (.invokevirtual 91, 3) := by decide +kernel
theorem dm_Re_type_145 : decode mm_Re_type.2.1 145 = .ok (.ireturn, 1) := by decide +kernel
theorem dm_Re_leaf_0 : decode mm_Re_leaf.2.1 0 = .ok (.aload_n 0, 1) := by decide +kernel
theorem dm_Re_leaf_1 : decode mm_Re_leaf.2.1 1 = .ok (.invokevirtual 88, 3) := by decide +kernel
theorem dm_Re_leaf_4 : decode mm_Re_leaf.2.1 4 = .ok (.aload_n 0, 1) := by decide +kernel
theorem dm_Re_leaf_5 : decode mm_Re_leaf.2.1 5 = .ok (.getfield 16, 3) := by decide +kernel
theorem dm_Re_leaf_8 : decode mm_Re_leaf.2.1 8 = .ok (.bipush 28, 2) := by decide +kernel
theorem dm_Re_leaf_10 : decode mm_Re_leaf.2.1 10 = .ok (.iconst 1, 1) := by decide +kernel
theorem dm_Re_leaf_11 : decode mm_Re_leaf.2.1 11 = .ok (.iastore, 1) := by decide +kernel
theorem dm_Re_leaf_12 : decode mm_Re_leaf.2.1 12 = .ok (.aload_n 0, 1) := by decide +kernel
theorem dm_Re_leaf_13 : decode mm_Re_leaf.2.1 13 = .ok (.iload_n 1, 1) := by decide +kernel
theorem dm_Re_leaf_14 : decode mm_Re_leaf.2.1 14 = .ok (.invokevirtual 32, 3) := by decide +kernel
theorem dm_Re_leaf_17 : decode mm_Re_leaf.2.1 17 = .ok (.aload_n 0, 1) := by decide +kernel
theorem dm_Re_leaf_18 : decode mm_Re_leaf.2.1 18 = .ok (.iload_n 2, 1) := by decide +kernel
theorem dm_Re_leaf_19 : decode mm_Re_leaf.2.1 19 = .ok (.invokevirtual 32, 3) := by decide +kernel
theorem dm_Re_leaf_22 : decode mm_Re_leaf.2.1 22 = .ok (.aload_n 0, 1) := by decide +kernel
theorem dm_Re_leaf_23 : decode mm_Re_leaf.2.1 23 = .ok (.aload_n 0, 1) := by decide +kernel
theorem dm_Re_leaf_24 : decode mm_Re_leaf.2.1 24 = .ok (.iconst 0, 1) := by decide +kernel
theorem dm_Re_leaf_25 : decode mm_Re_leaf.2.1 25 = .ok (.invokevirtual 94, 3) := by decide +kernel
theorem dm_Re_leaf_28 : decode mm_Re_leaf.2.1 28 = .ok (.aload_n 0, 1) := by decide +kernel
theorem dm_Re_leaf_29 : decode mm_Re_leaf.2.1 29 = .ok (.iconst 0, 1) := by decide +kernel
theorem dm_Re_leaf_30 : decode mm_Re_leaf.2.1 30 = .ok (.invokevirtual 97, 3) := by decide +kernel
theorem dm_Re_leaf_33 : decode mm_Re_leaf.2.1 33 = .ok (.invokevirtual 43, 3) := by decide +kernel
theorem dm_Re_leaf_36 : decode mm_Re_leaf.2.1 36 = .ok (.aload_n 0, 1) := by decide +kernel
theorem dm_Re_leaf_37 : decode mm_Re_leaf.2.1 37 = .ok (.iconst 0, 1) := by decide +kernel
theorem dm_Re_leaf_38 : decode mm_Re_leaf.2.1 38 = .ok (.sipush 5200, 3) := by decide +kernel
theorem dm_Re_leaf_41 : decode mm_Re_leaf.2.1 41 = .ok (.invokevirtual 66, 3) := by decide +kernel
theorem dm_Re_leaf_44 : decode mm_Re_leaf.2.1 44 = .ok (.aload_n 0, 1) := by decide +kernel
theorem dm_Re_leaf_45 : decode mm_Re_leaf.2.1 45 = .ok (.iconst 1, 1) := by decide +kernel
theorem dm_Re_leaf_46 : decode mm_Re_leaf.2.1 46 = .ok (.invokevirtual 91, 3) := by decide +kernel
theorem dm_Re_leaf_49 : decode mm_Re_leaf.2.1 49 = .ok (.ireturn, 1) := by decide +kernel
theorem dm_Re_var_0 : decode mm_Re_var.2.1 0 = .ok (.aload_n 0, 1) := by decide +kernel
theorem dm_Re_var_1 : decode mm_Re_var.2.1 1 = .ok (.iconst 0, 1) := by decide +kernel
theorem dm_Re_var_2 : decode mm_Re_var.2.1 2 = .ok (.invokevirtual 85, 3) := by decide +kernel
theorem dm_Re_var_5 : decode mm_Re_var.2.1 5 = .ok (.ifCond .eq 5, 3) := by decide +kernel
theorem dm_Re_var_8 : decode mm_Re_var.2.1 8 = .ok (.iconst 1, 1) := by decide +kernel
theorem dm_Re_var_9 : decode mm_Re_var.2.1 9 = .ok (.ireturn, 1) := by decide +kernel
theorem dm_Re_var_10 : decode mm_Re_var.2.1 10 = .ok (.iload_n 1, 1) := by decide +kernel
theorem dm_Re_var_11 : decode mm_Re_var.2.1 11 = .ok (.ifCond .lt 9, 3) := by decide +kernel
theorem dm_Re_var_14 : decode mm_Re_var.2.1 14 = .ok (.iload_n 1, 1) := by decide +kernel
theorem dm_Re_var_15 : decode mm_Re_var.2.1 15 = .ok (.bipush 7, 2) := by decide +kernel
theorem dm_Re_var_17 : decode mm_Re_var.2.1 17 = .ok (.if_icmp .le 7, 3) := by decide +kernel
theorem dm_Re_var_20 : decode mm_Re_var.2.1 20 = .ok (.iconst 2, 1) := by decide +kernel
theorem dm_Re_var_21 : decode mm_Re_var.2.1 21 = .ok (.goto 10, 3) := by decide +kernel
theorem dm_Re_var_24 : decode mm_Re_var.2.1 24 = .ok (.aload_n 0, 1) := by decide +kernel
theorem dm_Re_var_25 : decode mm_Re_var.2.1 25 = .ok (.bipush 10, 2) := by decide +kernel
theorem dm_Re_var_27 : decode mm_Re_var.2.1 27 = .ok (.iload_n 1, 1) := by decide +kernel
theorem dm_Re_var_28 : decode mm_Re_var.2.1 28 = .ok (.invokevirtual 100, 3) := by decide +kernel
theorem dm_Re_var_31 : decode mm_Re_var.2.1 31 = .ok (.ireturn, 1) := by decide +kernel
theorem dm_Re_constant_0 : decode mm_Re_constant.2.1 0 = .ok (.iload_n 1, 1) := by decide +kernel
theorem dm_Re_constant_1 : decode mm_Re_constant.2.1 1 = .ok (.ifCond .ne 23, 3) := by decide +kernel
theorem dm_Re_constant_4 : decode mm_Re_constant.2.1 4 = .ok (.aload_n 0, 1) := by decide +kernel
theorem dm_Re_constant_5 : decode mm_Re_constant.2.1 5 = .ok (.iconst 0, 1) := by decide +kernel
theorem dm_Re_constant_6 : decode mm_Re_constant.2.1 6 = .ok (.invokevirtual 85, 3) := by decide +kernel
theorem dm_Re_constant_9 : decode mm_Re_constant.2.1 9 = .ok (.ifCond .eq 7, 3) := by decide +kernel
theorem dm_Re_constant_12 : decode mm_Re_constant.2.1 12 = .ok (.iconst 1, 1) := by decide +kernel
theorem dm_Re_constant_13 : decode mm_Re_constant.2.1 13 = .ok (.goto 10, 3) := by decide +kernel
theorem dm_Re_constant_16 : decode mm_Re_constant.2.1 16 = .ok (.aload_n 0, 1) := by decide +kernel
theorem dm_Re_constant_17 : decode mm_Re_constant.2.1 17 = .ok (.bipush 11, 2) := by decide +kernel
theorem dm_Re_constant_19 : decode mm_Re_constant.2.1 19 = .ok (.iconst 0, 1) := by decide +kernel
theorem dm_Re_constant_20 : decode mm_Re_constant.2.1 20 = .ok (.invokevirtual 100, 3) := by decide +kernel
theorem dm_Re_constant_23 : decode mm_Re_constant.2.1 23 = .ok (.ireturn, 1) := by decide +kernel
theorem dm_Re_constant_24 : decode mm_Re_constant.2.1 24 = .ok (.iload_n 1, 1) := by decide +kernel
theorem dm_Re_constant_25 : decode mm_Re_constant.2.1 25 = .ok (.ifCond .lt 11, 3) := by decide +kernel
theorem dm_Re_constant_28 : decode mm_Re_constant.2.1 28 = .ok (.iload_n 1, 1) := by decide +kernel
theorem dm_Re_constant_29 : decode mm_Re_constant.2.1 29 = .ok (.aload_n 0, 1) := by decide +kernel
theorem dm_Re_constant_30 : decode mm_Re_constant.2.1 30 = .ok (.getfield 103, 3) := by decide +kernel
theorem dm_Re_constant_33 : decode mm_Re_constant.2.1 33 = .ok (.if_icmp .le 5, 3) := by decide +kernel
theorem dm_Re_constant_36 : decode mm_Re_constant.2.1 36 = .ok (.iconst 2, 1) := by decide +kernel
theorem dm_Re_constant_37 : decode mm_Re_constant.2.1 37 = .ok (.ireturn, 1) := by decide +kernel
theorem dm_Re_constant_38 : decode mm_Re_constant.2.1 38 = .ok (.aload_n 0, 1) := by decide +kernel
theorem dm_Re_constant_39 : decode mm_Re_constant.2.1 39 = .ok (.getfield 79, 3) := by decide +kernel
theorem dm_Re_constant_42 : decode mm_Re_constant.2.1 42 = .ok (.bipush 12, 2) := by decide +kernel
theorem dm_Re_constant_44 : decode mm_Re_constant.2.1 44 = .ok (.if_icmp .ne 5, 3) := by decide +kernel
theorem dm_Re_constant_47 : decode mm_Re_constant.2.1 47 = .ok (.iconst 4, 1) := by decide +kernel
theorem dm_Re_constant_48 : decode mm_Re_constant.2.1 48 = .ok (.ireturn, 1) := by decide +kernel
theorem dm_Re_constant_49 : decode mm_Re_constant.2.1 49 = .ok (.aload_n 0, 1) := by decide +kernel
theorem dm_Re_constant_50 : decode mm_Re_constant.2.1 50 = .ok (.invokevirtual 88, 3) := by decide +kernel
theorem dm_Re_constant_53 : decode mm_Re_constant.2.1 53 = .ok (.aload_n 0, 1) := by decide +kernel
theorem dm_Re_constant_54 : decode mm_Re_constant.2.1 54 = .ok (.getfield 16, 3) := by decide +kernel
theorem dm_Re_constant_57 : decode mm_Re_constant.2.1 57 = .ok (.bipush 28, 2) := by decide +kernel
theorem dm_Re_constant_59 : decode mm_Re_constant.2.1 59 = .ok (.iconst 1, 1) := by decide +kernel
theorem dm_Re_constant_60 : decode mm_Re_constant.2.1 60 = .ok (.iastore, 1) := by decide +kernel
theorem dm_Re_constant_61 : decode mm_Re_constant.2.1 61 = .ok (.aload_n 0, 1) := by decide +kernel
theorem dm_Re_constant_62 : decode mm_Re_constant.2.1 62 = .ok (.bipush 11, 2) := by decide +kernel
theorem dm_Re_constant_64 : decode mm_Re_constant.2.1 64 = .ok (.invokevirtual 32, 3) := by decide +kernel
theorem dm_Re_constant_67 : decode mm_Re_constant.2.1 67 = .ok (.aload_n 0, 1) := by decide +kernel
theorem dm_Re_constant_68 : decode mm_Re_constant.2.1 68 = .ok (.iload_n 1, 1) := by decide +kernel
theorem dm_Re_constant_69 : decode mm_Re_constant.2.1 69 = .ok (.invokevirtual 32, 3) := by decide +kernel
theorem dm_Re_constant_72 : decode mm_Re_constant.2.1 72 = .ok (.aload_n 0, 1) := by decide +kernel
theorem dm_Re_constant_73 : decode mm_Re_constant.2.1 73 = .ok (.sipush 4800, 3) := by decide +kernel
theorem dm_Re_constant_76 : decode mm_Re_constant.2.1 76 = .ok (.bipush 40, 2) := by decide +kernel
theorem dm_Re_constant_78 : decode mm_Re_constant.2.1 78 = .ok (.iload_n 1, 1) := by decide +kernel
theorem dm_Re_constant_79 : decode mm_Re_constant.2.1 79 = .ok (.imul, 1) := by decide +kernel
theorem dm_Re_constant_80 : decode mm_Re_constant.2.1 80 = .ok (.iadd, 1) := by decide +kernel
theorem dm_Re_constant_81 : decode mm_Re_constant.2.1 81 = .ok (.sipush 4800, 3) := by decide +kernel
theorem dm_Re_constant_84 : decode mm_Re_constant.2.1 84 = .ok (.bipush 40, 2) := by decide +kernel
theorem dm_Re_constant_86 : decode mm_Re_constant.2.1 86 = .ok (.iload_n 1, 1) := by decide +kernel
theorem dm_Re_constant_87 : decode mm_Re_constant.2.1 87 = .ok (.imul, 1) := by decide +kernel
theorem dm_Re_constant_88 : decode mm_Re_constant.2.1 88 = .ok (.iadd, 1) := by decide +kernel
theorem dm_Re_constant_89 : decode mm_Re_constant.2.1 89 = .ok (.aload_n 0, 1) := by decide +kernel
theorem dm_Re_constant_90 : decode mm_Re_constant.2.1 90 = .ok (.getfield 22, 3) := by decide +kernel
theorem dm_Re_constant_93 : decode mm_Re_constant.2.1 93 = .ok (.iload_n 1, 1) := by decide +kernel
theorem dm_Re_constant_94 : decode mm_Re_constant.2.1 94 = .ok (.iaload, 1) := by decide +kernel
theorem dm_Re_constant_95 : decode mm_Re_constant.2.1 95 = .ok (.iadd, 1) := by decide +kernel
theorem dm_Re_constant_96 : decode mm_Re_constant.2.1 96 = .ok (.invokevirtual 43, 3) := by decide +kernel
theorem dm_Re_constant_99 : decode mm_Re_constant.2.1 99 = .ok (.aload_n 0, 1) := by decide +kernel
theorem dm_Re_constant_100 : decode mm_Re_constant.2.1 100 = .ok (.iconst 0, 1) := by decide +kernel
theorem dm_Re_constant_101 : decode mm_Re_constant.2.1 101 = .ok (.sipush 5200, 3) := by decide +kernel
theorem dm_Re_constant_104 : decode mm_Re_constant.2.1 104 = .ok (.invokevirtual 66, 3) := by decide +kernel
theorem dm_Re_constant_107 : decode mm_Re_constant.2.1 107 = .ok (.aload_n 0, 1) := by decide +kernel
theorem dm_Re_constant_108 : decode mm_Re_constant.2.1 108 = .ok (.iconst 0, 1) := by decide +kernel
theorem dm_Re_constant_109 : decode mm_Re_constant.2.1 109 = .ok (.invokevirtual 91, 3) := by decide +kernel
theorem dm_Re_constant_112 : decode mm_Re_constant.2.1 112 = .ok (.ireturn, 1) := by decide +kernel
theorem dm_Re_fits_0 : decode mm_Re_fits.2.1 0 = .ok (.aload_n 0, 1) := by decide +kernel
theorem dm_Re_fits_1 : decode mm_Re_fits.2.1 1 = .ok (.iload_n 1, 1) := by decide +kernel
theorem dm_Re_fits_2 : decode mm_Re_fits.2.1 2 = .ok (.invokevirtual 106, 3) := by decide +kernel
theorem dm_Re_fits_5 : decode mm_Re_fits.2.1 5 = .ok (.istore_n 3, 1) := by decide +kernel
theorem dm_Re_fits_6 : decode mm_Re_fits.2.1 6 = .ok (.aload_n 0, 1) := by decide +kernel
theorem dm_Re_fits_7 : decode mm_Re_fits.2.1 7 = .ok (.getfield 28, 3) := by decide +kernel
theorem dm_Re_fits_10 : decode mm_Re_fits.2.1 10 = .ok (.istore 4, 2) := by decide +kernel
theorem dm_Re_fits_12 : decode mm_Re_fits.2.1 12 = .ok (.aload_n 0, 1) := by decide +kernel
theorem dm_Re_fits_13 : decode mm_Re_fits.2.1 13 = .ok (.iload_n 2, 1) := by decide +kernel
theorem dm_Re_fits_14 : decode mm_Re_fits.2.1 14 = .ok (.invokevirtual 106, 3) := by decide +kernel
theorem dm_Re_fits_17 : decode mm_Re_fits.2.1 17 = .ok (.istore 5, 2) := by decide +kernel
theorem dm_Re_fits_19 : decode mm_Re_fits.2.1 19 = .ok (.aload_n 0, 1) := by decide +kernel
theorem dm_Re_fits_20 : decode mm_Re_fits.2.1 20 = .ok (.getfield 28, 3) := by decide +kernel
theorem dm_Re_fits_23 : decode mm_Re_fits.2.1 23 = .ok (.istore 6, 2) := by decide +kernel
theorem dm_Re_fits_25 : decode mm_Re_fits.2.1 25 = .ok (.aload_n 0, 1) := by decide +kernel
theorem dm_Re_fits_26 : decode mm_Re_fits.2.1 26 = .ok (.getfield 7, 3) := by decide +kernel
theorem dm_Re_fits_29 : decode mm_Re_fits.2.1 29 = .ok (.iload_n 3, 1) := by decide +kernel
theorem dm_Re_fits_30 : decode mm_Re_fits.2.1 30 = .ok (.iaload, 1) := by decide +kernel
theorem dm_Re_fits_31 : decode mm_Re_fits.2.1 31 = .ok (.ifCond .eq 5, 3) := by decide +kernel
theorem dm_Re_fits_34 : decode mm_Re_fits.2.1 34 = .ok (.iconst 0, 1) := by decide +kernel
theorem dm_Re_fits_35 : decode mm_Re_fits.2.1 35 = .ok (.ireturn, 1) := by decide +kernel
theorem dm_Re_fits_36 : decode mm_Re_fits.2.1 36 = .ok (.aload_n 0, 1) := by decide +kernel
theorem dm_Re_fits_37 : decode mm_Re_fits.2.1 37 = .ok (.iload_n 3, 1) := by decide +kernel
theorem dm_Re_fits_38 : decode mm_Re_fits.2.1 38 = .ok (.iconst 1, 1) := by decide +kernel
theorem dm_Re_fits_39 : decode mm_Re_fits.2.1 39 = .ok (.iadd, 1) := by decide +kernel
theorem dm_Re_fits_40 : decode mm_Re_fits.2.1 40 = .ok (.invokevirtual 36, 3) := by decide +kernel
theorem dm_Re_fits_43 : decode mm_Re_fits.2.1 43 = .ok (.istore 7, 2) := by decide +kernel
theorem dm_Re_fits_45 : decode mm_Re_fits.2.1 45 = .ok (.aload_n 0, 1) := by decide +kernel
theorem dm_Re_fits_46 : decode mm_Re_fits.2.1 46 = .ok (.iload_n 3, 1) := by decide +kernel
theorem dm_Re_fits_47 : decode mm_Re_fits.2.1 47 = .ok (.iconst 1, 1) := by decide +kernel
theorem dm_Re_fits_48 : decode mm_Re_fits.2.1 48 = .ok (.iadd, 1) := by decide +kernel
theorem dm_Re_fits_49 : decode mm_Re_fits.2.1 49 = .ok (.iload 7, 2) := by decide +kernel
theorem dm_Re_fits_51 : decode mm_Re_fits.2.1 51 = .ok (.iload 5, 2) := by decide +kernel
theorem dm_Re_fits_53 : decode mm_Re_fits.2.1 53 = .ok (.iload 6, 2) := by decide +kernel
theorem dm_Re_fits_55 : decode mm_Re_fits.2.1 55 = .ok (.invokevirtual 69, 3) := by decide +kernel
theorem dm_Re_fits_58 : decode mm_Re_fits.2.1 58 = .ok (.istore 8, 2) := by decide +kernel
theorem dm_Re_fits_60 : decode mm_Re_fits.2.1 60 = .ok (.aload_n 0, 1) := by decide +kernel
theorem dm_Re_fits_61 : decode mm_Re_fits.2.1 61 = .ok (.iload 7, 2) := by decide +kernel
theorem dm_Re_fits_63 : decode mm_Re_fits.2.1 63 = .ok (.putfield 109, 3) := by decide +kernel
theorem dm_Re_fits_66 : decode mm_Re_fits.2.1 66 = .ok (.aload_n 0, 1) := by decide +kernel
theorem dm_Re_fits_67 : decode mm_Re_fits.2.1 67 = .ok (.iload 4, 2) := by decide +kernel
theorem dm_Re_fits_69 : decode mm_Re_fits.2.1 69 = .ok (.putfield 112, 3) := by decide +kernel
theorem dm_Re_fits_72 : decode mm_Re_fits.2.1 72 = .ok (.iload 8, 2) := by decide +kernel
theorem dm_Re_fits_74 : decode mm_Re_fits.2.1 74 = .ok (.ireturn, 1) := by decide +kernel
theorem dm_Re_app_0 : decode mm_Re_app.2.1 0 = .ok (.aload_n 0, 1) := by decide +kernel
theorem dm_Re_app_1 : decode mm_Re_app.2.1 1 = .ok (.iconst 0, 1) := by decide +kernel
theorem dm_Re_app_2 : decode mm_Re_app.2.1 2 = .ok (.invokevirtual 85, 3) := by decide +kernel
theorem dm_Re_app_5 : decode mm_Re_app.2.1 5 = .ok (.iconst 1, 1) := by decide +kernel
theorem dm_Re_app_6 : decode mm_Re_app.2.1 6 = .ok (.if_icmp .ne 12, 3) := by decide +kernel
theorem dm_Re_app_9 : decode mm_Re_app.2.1 9 = .ok (.aload_n 0, 1) := by decide +kernel
theorem dm_Re_app_10 : decode mm_Re_app.2.1 10 = .ok (.iconst 1, 1) := by decide +kernel
theorem dm_Re_app_11 : decode mm_Re_app.2.1 11 = .ok (.invokevirtual 85, 3) := by decide +kernel
theorem dm_Re_app_14 : decode mm_Re_app.2.1 14 = .ok (.iconst 1, 1) := by decide +kernel
theorem dm_Re_app_15 : decode mm_Re_app.2.1 15 = .ok (.if_icmp .eq 5, 3) := by decide +kernel
theorem dm_Re_app_18 : decode mm_Re_app.2.1 18 = .ok (.iconst 1, 1) := by decide +kernel
theorem dm_Re_app_19 : decode mm_Re_app.2.1 19 = .ok (.ireturn, 1) := by decide +kernel
theorem dm_Re_app_20 : decode mm_Re_app.2.1 20 = .ok (.aload_n 0, 1) := by decide +kernel
theorem dm_Re_app_21 : decode mm_Re_app.2.1 21 = .ok (.invokevirtual 88, 3) := by decide +kernel
theorem dm_Re_app_24 : decode mm_Re_app.2.1 24 = .ok (.aload_n 0, 1) := by decide +kernel
theorem dm_Re_app_25 : decode mm_Re_app.2.1 25 = .ok (.getfield 16, 3) := by decide +kernel
theorem dm_Re_app_28 : decode mm_Re_app.2.1 28 = .ok (.bipush 28, 2) := by decide +kernel
theorem dm_Re_app_30 : decode mm_Re_app.2.1 30 = .ok (.iconst 1, 1) := by decide +kernel
theorem dm_Re_app_31 : decode mm_Re_app.2.1 31 = .ok (.iastore, 1) := by decide +kernel
theorem dm_Re_app_32 : decode mm_Re_app.2.1 32 = .ok (.aload_n 0, 1) := by decide +kernel
theorem dm_Re_app_33 : decode mm_Re_app.2.1 33 = .ok (.aload_n 0, 1) := by decide +kernel
theorem dm_Re_app_34 : decode mm_Re_app.2.1 34 = .ok (.iconst 1, 1) := by decide +kernel
theorem dm_Re_app_35 : decode mm_Re_app.2.1 35 = .ok (.invokevirtual 94, 3) := by decide +kernel
theorem dm_Re_app_38 : decode mm_Re_app.2.1 38 = .ok (.aload_n 0, 1) := by decide +kernel
theorem dm_Re_app_39 : decode mm_Re_app.2.1 39 = .ok (.iconst 0, 1) := by decide +kernel
theorem dm_Re_app_40 : decode mm_Re_app.2.1 40 = .ok (.invokevirtual 94, 3) := by decide +kernel
theorem dm_Re_app_43 : decode mm_Re_app.2.1 43 = .ok (.invokevirtual 115, 3) := by decide +kernel
theorem dm_Re_app_46 : decode mm_Re_app.2.1 46 = .ok (.ifCond .ne 5, 3) := by decide +kernel
theorem dm_Re_app_49 : decode mm_Re_app.2.1 49 = .ok (.iconst 2, 1) := by decide +kernel
theorem dm_Re_app_50 : decode mm_Re_app.2.1 50 = .ok (.ireturn, 1) := by decide +kernel
theorem dm_Re_app_51 : decode mm_Re_app.2.1 51 = .ok (.aload_n 0, 1) := by decide +kernel
theorem dm_Re_app_52 : decode mm_Re_app.2.1 52 = .ok (.getfield 28, 3) := by decide +kernel
theorem dm_Re_app_55 : decode mm_Re_app.2.1 55 = .ok (.istore_n 1, 1) := by decide +kernel
theorem dm_Re_app_56 : decode mm_Re_app.2.1 56 = .ok (.aload_n 0, 1) := by decide +kernel
theorem dm_Re_app_57 : decode mm_Re_app.2.1 57 = .ok (.bipush 12, 2) := by decide +kernel
theorem dm_Re_app_59 : decode mm_Re_app.2.1 59 = .ok (.invokevirtual 32, 3) := by decide +kernel
theorem dm_Re_app_62 : decode mm_Re_app.2.1 62 = .ok (.aload_n 0, 1) := by decide +kernel
theorem dm_Re_app_63 : decode mm_Re_app.2.1 63 = .ok (.aload_n 0, 1) := by decide +kernel
theorem dm_Re_app_64 : decode mm_Re_app.2.1 64 = .ok (.iconst 1, 1) := by decide +kernel
theorem dm_Re_app_65 : decode mm_Re_app.2.1 65 = .ok (.invokevirtual 94, 3) := by decide +kernel
theorem dm_Re_app_68 : decode mm_Re_app.2.1 68 = .ok (.aload_n 0, 1) := by decide +kernel
theorem dm_Re_app_69 : decode mm_Re_app.2.1 69 = .ok (.iconst 1, 1) := by decide +kernel
theorem dm_Re_app_70 : decode mm_Re_app.2.1 70 = .ok (.invokevirtual 97, 3) := by decide +kernel
theorem dm_Re_app_73 : decode mm_Re_app.2.1 73 = .ok (.invokevirtual 43, 3) := by decide +kernel
theorem dm_Re_app_76 : decode mm_Re_app.2.1 76 = .ok (.aload_n 0, 1) := by decide +kernel
theorem dm_Re_app_77 : decode mm_Re_app.2.1 77 = .ok (.aload_n 0, 1) := by decide +kernel
theorem dm_Re_app_78 : decode mm_Re_app.2.1 78 = .ok (.iconst 0, 1) := by decide +kernel
theorem dm_Re_app_79 : decode mm_Re_app.2.1 79 = .ok (.invokevirtual 94, 3) := by decide +kernel
theorem dm_Re_app_82 : decode mm_Re_app.2.1 82 = .ok (.aload_n 0, 1) := by decide +kernel
theorem dm_Re_app_83 : decode mm_Re_app.2.1 83 = .ok (.iconst 0, 1) := by decide +kernel
theorem dm_Re_app_84 : decode mm_Re_app.2.1 84 = .ok (.invokevirtual 97, 3) := by decide +kernel
theorem dm_Re_app_87 : decode mm_Re_app.2.1 87 = .ok (.invokevirtual 43, 3) := by decide +kernel
theorem dm_Re_app_90 : decode mm_Re_app.2.1 90 = .ok (.aload_n 0, 1) := by decide +kernel
theorem dm_Re_app_91 : decode mm_Re_app.2.1 91 = .ok (.iconst 0, 1) := by decide +kernel
theorem dm_Re_app_92 : decode mm_Re_app.2.1 92 = .ok (.iload_n 1, 1) := by decide +kernel
theorem dm_Re_app_93 : decode mm_Re_app.2.1 93 = .ok (.invokevirtual 66, 3) := by decide +kernel
theorem dm_Re_app_96 : decode mm_Re_app.2.1 96 = .ok (.aload_n 0, 1) := by decide +kernel
theorem dm_Re_app_97 : decode mm_Re_app.2.1 97 = .ok (.iconst 2, 1) := by decide +kernel
theorem dm_Re_app_98 : decode mm_Re_app.2.1 98 = .ok (.invokevirtual 91, 3) := by decide +kernel
theorem dm_Re_app_101 : decode mm_Re_app.2.1 101 = .ok (.ireturn, 1) := by decide +kernel
theorem dm_Re_stands_0 : decode mm_Re_stands.2.1 0 = .ok (.aload_n 0, 1) := by decide +kernel
theorem dm_Re_stands_1 : decode mm_Re_stands.2.1 1 = .ok (.getfield 7, 3) := by decide +kernel
theorem dm_Re_stands_4 : decode mm_Re_stands.2.1 4 = .ok (.iload_n 1, 1) := by decide +kernel
theorem dm_Re_stands_5 : decode mm_Re_stands.2.1 5 = .ok (.iaload, 1) := by decide +kernel
theorem dm_Re_stands_6 : decode mm_Re_stands.2.1 6 = .ok (.bipush 10, 2) := by decide +kernel
theorem dm_Re_stands_8 : decode mm_Re_stands.2.1 8 = .ok (.if_icmp .ne 24, 3) := by decide +kernel
theorem dm_Re_stands_11 : decode mm_Re_stands.2.1 11 = .ok (.aload_n 0, 1) := by decide +kernel
theorem dm_Re_stands_12 : decode mm_Re_stands.2.1 12 = .ok (.iload_n 1, 1) := by decide +kernel
theorem dm_Re_stands_13 : decode mm_Re_stands.2.1 13 = .ok (.aload_n 0, 1) := by decide +kernel
theorem dm_Re_stands_14 : decode mm_Re_stands.2.1 14 = .ok (.iload_n 1, 1) := by decide +kernel
theorem dm_Re_stands_15 : decode mm_Re_stands.2.1 15 = .ok (.iconst 2, 1) := by decide +kernel
theorem dm_Re_stands_16 : decode mm_Re_stands.2.1 16 = .ok (.iadd, 1) := by decide +kernel
theorem dm_Re_stands_17 : decode mm_Re_stands.2.1 17 = .ok (.invokevirtual 36, 3) := by decide +kernel
theorem dm_Re_stands_20 : decode mm_Re_stands.2.1 20 = .ok (.iload_n 2, 1) := by decide +kernel
theorem dm_Re_stands_21 : decode mm_Re_stands.2.1 21 = .ok (.iload_n 3, 1) := by decide +kernel
theorem dm_Re_stands_22 : decode mm_Re_stands.2.1 22 = .ok (.invokevirtual 69, 3) := by decide +kernel
theorem dm_Re_stands_25 : decode mm_Re_stands.2.1 25 = .ok (.ifCond .eq 7, 3) := by decide +kernel
theorem dm_Re_stands_28 : decode mm_Re_stands.2.1 28 = .ok (.iconst 1, 1) := by decide +kernel
theorem dm_Re_stands_29 : decode mm_Re_stands.2.1 29 = .ok (.goto 4, 3) := by decide +kernel
theorem dm_Re_stands_32 : decode mm_Re_stands.2.1 32 = .ok (.iconst 0, 1) := by decide +kernel
theorem dm_Re_stands_33 : decode mm_Re_stands.2.1 33 = .ok (.ireturn, 1) := by decide +kernel
theorem dm_Re_emitAbs_0 : decode mm_Re_emitAbs.2.1 0 = .ok (.aload_n 0, 1) := by decide +kernel
theorem dm_Re_emitAbs_1 : decode mm_Re_emitAbs.2.1 1 = .ok (.bipush 13, 2) := by decide +kernel
theorem dm_Re_emitAbs_3 : decode mm_Re_emitAbs.2.1 3 = .ok (.invokevirtual 32, 3) := by decide +kernel
theorem dm_Re_emitAbs_6 : decode mm_Re_emitAbs.2.1 6 = .ok (.aload_n 0, 1) := by decide +kernel
theorem dm_Re_emitAbs_7 : decode mm_Re_emitAbs.2.1 7 = .ok (.iload_n 1, 1) := by decide +kernel
theorem dm_Re_emitAbs_8 : decode mm_Re_emitAbs.2.1 8 = .ok (.iconst 2, 1) := by decide +kernel
theorem dm_Re_emitAbs_9 : decode mm_Re_emitAbs.2.1 9 = .ok (.iadd, 1) := by decide +kernel
theorem dm_Re_emitAbs_10 : decode mm_Re_emitAbs.2.1 10 = .ok (.iload_n 2, 1) := by decide +kernel
theorem dm_Re_emitAbs_11 : decode mm_Re_emitAbs.2.1 11 = .ok (.invokevirtual 43, 3) := by decide +kernel
theorem dm_Re_emitAbs_14 : decode mm_Re_emitAbs.2.1 14 = .ok (.iload_n 3, 1) := by decide +kernel
theorem dm_Re_emitAbs_15 : decode mm_Re_emitAbs.2.1 15 = .ok (.istore 5, 2) := by decide +kernel
theorem dm_Re_emitAbs_17 : decode mm_Re_emitAbs.2.1 17 = .ok (.iload 5, 2) := by decide +kernel
theorem dm_Re_emitAbs_19 : decode mm_Re_emitAbs.2.1 19 = .ok (.iload 4, 2) := by decide +kernel
theorem dm_Re_emitAbs_21 : decode mm_Re_emitAbs.2.1 21 = .ok (.if_icmp .ge 56, 3) := by decide +kernel
theorem dm_Re_emitAbs_24 : decode mm_Re_emitAbs.2.1 24 = .ok (.aload_n 0, 1) := by decide +kernel
theorem dm_Re_emitAbs_25 : decode mm_Re_emitAbs.2.1 25 = .ok (.iload 5, 2) := by decide +kernel
theorem dm_Re_emitAbs_27 : decode mm_Re_emitAbs.2.1 27 = .ok (.iload_n 1, 1) := by decide +kernel
theorem dm_Re_emitAbs_28 : decode mm_Re_emitAbs.2.1 28 = .ok (.iload_n 2, 1) := by decide +kernel
theorem dm_Re_emitAbs_29 : decode mm_Re_emitAbs.2.1 29 = .ok (.invokevirtual 119, 3) := by decide +kernel
theorem dm_Re_emitAbs_32 : decode mm_Re_emitAbs.2.1 32 = .ok (.ifCond .eq 28, 3) := by decide +kernel
theorem dm_Re_emitAbs_35 : decode mm_Re_emitAbs.2.1 35 = .ok (.aload_n 0, 1) := by decide +kernel
theorem dm_Re_emitAbs_36 : decode mm_Re_emitAbs.2.1 36 = .ok (.bipush 20, 2) := by decide +kernel
theorem dm_Re_emitAbs_38 : decode mm_Re_emitAbs.2.1 38 = .ok (.aload_n 0, 1) := by decide +kernel
theorem dm_Re_emitAbs_39 : decode mm_Re_emitAbs.2.1 39 = .ok (.iload_n 3, 1) := by decide +kernel
theorem dm_Re_emitAbs_40 : decode mm_Re_emitAbs.2.1 40 = .ok (.iload 5, 2) := by decide +kernel
theorem dm_Re_emitAbs_42 : decode mm_Re_emitAbs.2.1 42 = .ok (.invokevirtual 123, 3) := by decide +kernel
theorem dm_Re_emitAbs_45 : decode mm_Re_emitAbs.2.1 45 = .ok (.iadd, 1) := by decide +kernel
theorem dm_Re_emitAbs_46 : decode mm_Re_emitAbs.2.1 46 = .ok (.invokevirtual 32, 3) := by decide +kernel
theorem dm_Re_emitAbs_49 : decode mm_Re_emitAbs.2.1 49 = .ok (.iload 5, 2) := by decide +kernel
theorem dm_Re_emitAbs_51 : decode mm_Re_emitAbs.2.1 51 = .ok (.iload_n 2, 1) := by decide +kernel
theorem dm_Re_emitAbs_52 : decode mm_Re_emitAbs.2.1 52 = .ok (.iload_n 1, 1) := by decide +kernel
theorem dm_Re_emitAbs_53 : decode mm_Re_emitAbs.2.1 53 = .ok (.isub, 1) := by decide +kernel
theorem dm_Re_emitAbs_54 : decode mm_Re_emitAbs.2.1 54 = .ok (.iadd, 1) := by decide +kernel
theorem dm_Re_emitAbs_55 : decode mm_Re_emitAbs.2.1 55 = .ok (.istore 5, 2) := by decide +kernel
theorem dm_Re_emitAbs_57 : decode mm_Re_emitAbs.2.1 57 = .ok (.goto (-40), 3) := by decide +kernel
theorem dm_Re_emitAbs_60 : decode mm_Re_emitAbs.2.1 60 = .ok (.aload_n 0, 1) := by decide +kernel
theorem dm_Re_emitAbs_61 : decode mm_Re_emitAbs.2.1 61 = .ok (.aload_n 0, 1) := by decide +kernel
theorem dm_Re_emitAbs_62 : decode mm_Re_emitAbs.2.1 62 = .ok (.getfield 7, 3) := by decide +kernel
theorem dm_Re_emitAbs_65 : decode mm_Re_emitAbs.2.1 65 = .ok (.iload 5, 2) := by decide +kernel
theorem dm_Re_emitAbs_67 : decode mm_Re_emitAbs.2.1 67 = .ok (.iaload, 1) := by decide +kernel
theorem dm_Re_emitAbs_68 : decode mm_Re_emitAbs.2.1 68 = .ok (.invokevirtual 32, 3) := by decide +kernel
theorem dm_Re_emitAbs_71 : decode mm_Re_emitAbs.2.1 71 = .ok (.iinc 5 1, 3) := by decide +kernel
theorem dm_Re_emitAbs_74 : decode mm_Re_emitAbs.2.1 74 = .ok (.goto (-57), 3) := by decide +kernel
theorem dm_Re_emitAbs_77 : decode mm_Re_emitAbs.2.1 77 = .ok (.return_, 1) := by decide +kernel
theorem dm_Re_abs_0 : decode mm_Re_abs.2.1 0 = .ok (.aload_n 0, 1) := by decide +kernel
theorem dm_Re_abs_1 : decode mm_Re_abs.2.1 1 = .ok (.iconst 1, 1) := by decide +kernel
theorem dm_Re_abs_2 : decode mm_Re_abs.2.1 2 = .ok (.invokevirtual 126, 3) := by decide +kernel
theorem dm_Re_abs_5 : decode mm_Re_abs.2.1 5 = .ok (.ifCond .eq 12, 3) := by decide +kernel
theorem dm_Re_abs_8 : decode mm_Re_abs.2.1 8 = .ok (.aload_n 0, 1) := by decide +kernel
theorem dm_Re_abs_9 : decode mm_Re_abs.2.1 9 = .ok (.iconst 0, 1) := by decide +kernel
theorem dm_Re_abs_10 : decode mm_Re_abs.2.1 10 = .ok (.invokevirtual 85, 3) := by decide +kernel
theorem dm_Re_abs_13 : decode mm_Re_abs.2.1 13 = .ok (.iconst 1, 1) := by decide +kernel
theorem dm_Re_abs_14 : decode mm_Re_abs.2.1 14 = .ok (.if_icmp .eq 5, 3) := by decide +kernel
theorem dm_Re_abs_17 : decode mm_Re_abs.2.1 17 = .ok (.iconst 1, 1) := by decide +kernel
theorem dm_Re_abs_18 : decode mm_Re_abs.2.1 18 = .ok (.ireturn, 1) := by decide +kernel
theorem dm_Re_abs_19 : decode mm_Re_abs.2.1 19 = .ok (.aload_n 0, 1) := by decide +kernel
theorem dm_Re_abs_20 : decode mm_Re_abs.2.1 20 = .ok (.invokevirtual 88, 3) := by decide +kernel
theorem dm_Re_abs_23 : decode mm_Re_abs.2.1 23 = .ok (.aload_n 0, 1) := by decide +kernel
theorem dm_Re_abs_24 : decode mm_Re_abs.2.1 24 = .ok (.getfield 16, 3) := by decide +kernel
theorem dm_Re_abs_27 : decode mm_Re_abs.2.1 27 = .ok (.bipush 28, 2) := by decide +kernel
theorem dm_Re_abs_29 : decode mm_Re_abs.2.1 29 = .ok (.iconst 1, 1) := by decide +kernel
theorem dm_Re_abs_30 : decode mm_Re_abs.2.1 30 = .ok (.iastore, 1) := by decide +kernel
theorem dm_Re_abs_31 : decode mm_Re_abs.2.1 31 = .ok (.aload_n 0, 1) := by decide +kernel
theorem dm_Re_abs_32 : decode mm_Re_abs.2.1 32 = .ok (.aload_n 0, 1) := by decide +kernel
theorem dm_Re_abs_33 : decode mm_Re_abs.2.1 33 = .ok (.iconst 1, 1) := by decide +kernel
theorem dm_Re_abs_34 : decode mm_Re_abs.2.1 34 = .ok (.invokevirtual 94, 3) := by decide +kernel
theorem dm_Re_abs_37 : decode mm_Re_abs.2.1 37 = .ok (.aload_n 0, 1) := by decide +kernel
theorem dm_Re_abs_38 : decode mm_Re_abs.2.1 38 = .ok (.iconst 1, 1) := by decide +kernel
theorem dm_Re_abs_39 : decode mm_Re_abs.2.1 39 = .ok (.invokevirtual 97, 3) := by decide +kernel
theorem dm_Re_abs_42 : decode mm_Re_abs.2.1 42 = .ok (.aload_n 0, 1) := by decide +kernel
theorem dm_Re_abs_43 : decode mm_Re_abs.2.1 43 = .ok (.iconst 0, 1) := by decide +kernel
theorem dm_Re_abs_44 : decode mm_Re_abs.2.1 44 = .ok (.invokevirtual 94, 3) := by decide +kernel
theorem dm_Re_abs_47 : decode mm_Re_abs.2.1 47 = .ok (.aload_n 0, 1) := by decide +kernel
theorem dm_Re_abs_48 : decode mm_Re_abs.2.1 48 = .ok (.iconst 0, 1) := by decide +kernel
theorem dm_Re_abs_49 : decode mm_Re_abs.2.1 49 = .ok (.invokevirtual 97, 3) := by decide +kernel
theorem dm_Re_abs_52 : decode mm_Re_abs.2.1 52 = .ok (.invokevirtual 130, 3) := by decide +kernel
theorem dm_Re_abs_55 : decode mm_Re_abs.2.1 55 = .ok (.aload_n 0, 1) := by decide +kernel
theorem dm_Re_abs_56 : decode mm_Re_abs.2.1 56 = .ok (.iconst 0, 1) := by decide +kernel
theorem dm_Re_abs_57 : decode mm_Re_abs.2.1 57 = .ok (.sipush 5200, 3) := by decide +kernel
theorem dm_Re_abs_60 : decode mm_Re_abs.2.1 60 = .ok (.invokevirtual 66, 3) := by decide +kernel
theorem dm_Re_abs_63 : decode mm_Re_abs.2.1 63 = .ok (.aload_n 0, 1) := by decide +kernel
theorem dm_Re_abs_64 : decode mm_Re_abs.2.1 64 = .ok (.iconst 2, 1) := by decide +kernel
theorem dm_Re_abs_65 : decode mm_Re_abs.2.1 65 = .ok (.invokevirtual 91, 3) := by decide +kernel
theorem dm_Re_abs_68 : decode mm_Re_abs.2.1 68 = .ok (.ireturn, 1) := by decide +kernel
theorem dm_Re_isBool_0 : decode mm_Re_isBool.2.1 0 = .ok (.iload_n 2, 1) := by decide +kernel
theorem dm_Re_isBool_1 : decode mm_Re_isBool.2.1 1 = .ok (.iload_n 1, 1) := by decide +kernel
theorem dm_Re_isBool_2 : decode mm_Re_isBool.2.1 2 = .ok (.isub, 1) := by decide +kernel
theorem dm_Re_isBool_3 : decode mm_Re_isBool.2.1 3 = .ok (.iconst 1, 1) := by decide +kernel
theorem dm_Re_isBool_4 : decode mm_Re_isBool.2.1 4 = .ok (.if_icmp .ne 17, 3) := by decide +kernel
theorem dm_Re_isBool_7 : decode mm_Re_isBool.2.1 7 = .ok (.aload_n 0, 1) := by decide +kernel
theorem dm_Re_isBool_8 : decode mm_Re_isBool.2.1 8 = .ok (.getfield 7, 3) := by decide +kernel
theorem dm_Re_isBool_11 : decode mm_Re_isBool.2.1 11 = .ok (.iload_n 1, 1) := by decide +kernel
theorem dm_Re_isBool_12 : decode mm_Re_isBool.2.1 12 = .ok (.iaload, 1) := by decide +kernel
theorem dm_Re_isBool_13 : decode mm_Re_isBool.2.1 13 = .ok (.iconst 1, 1) := by decide +kernel
theorem dm_Re_isBool_14 : decode mm_Re_isBool.2.1 14 = .ok (.if_icmp .ne 7, 3) := by decide +kernel
theorem dm_Re_isBool_17 : decode mm_Re_isBool.2.1 17 = .ok (.iconst 1, 1) := by decide +kernel
theorem dm_Re_isBool_18 : decode mm_Re_isBool.2.1 18 = .ok (.goto 4, 3) := by decide +kernel
theorem dm_Re_isBool_21 : decode mm_Re_isBool.2.1 21 = .ok (.iconst 0, 1) := by decide +kernel
theorem dm_Re_isBool_22 : decode mm_Re_isBool.2.1 22 = .ok (.ireturn, 1) := by decide +kernel
theorem dm_Re_theorem_0 : decode mm_Re_theorem.2.1 0 = .ok (.aload_n 0, 1) := by decide +kernel
theorem dm_Re_theorem_1 : decode mm_Re_theorem.2.1 1 = .ok (.iconst 0, 1) := by decide +kernel
theorem dm_Re_theorem_2 : decode mm_Re_theorem.2.1 2 = .ok (.invokevirtual 85, 3) := by decide +kernel
theorem dm_Re_theorem_5 : decode mm_Re_theorem.2.1 5 = .ok (.iconst 1, 1) := by decide +kernel
theorem dm_Re_theorem_6 : decode mm_Re_theorem.2.1 6 = .ok (.if_icmp .eq 5, 3) := by decide +kernel
theorem dm_Re_theorem_9 : decode mm_Re_theorem.2.1 9 = .ok (.iconst 1, 1) := by decide +kernel
theorem dm_Re_theorem_10 : decode mm_Re_theorem.2.1 10 = .ok (.ireturn, 1) := by decide +kernel
theorem dm_Re_theorem_11 : decode mm_Re_theorem.2.1 11 = .ok (.iload_n 1, 1) := by decide +kernel
theorem dm_Re_theorem_12 : decode mm_Re_theorem.2.1 12 = .ok (.ifCond .lt 8, 3) := by decide +kernel
theorem dm_Re_theorem_15 : decode mm_Re_theorem.2.1 15 = .ok (.iload_n 1, 1) := by decide +kernel
theorem dm_Re_theorem_16 : decode mm_Re_theorem.2.1 16 = .ok (.iconst 4, 1) := by decide +kernel
theorem dm_Re_theorem_17 : decode mm_Re_theorem.2.1 17 = .ok (.if_icmp .le 5, 3) := by decide +kernel
theorem dm_Re_theorem_20 : decode mm_Re_theorem.2.1 20 = .ok (.iconst 2, 1) := by decide +kernel
theorem dm_Re_theorem_21 : decode mm_Re_theorem.2.1 21 = .ok (.ireturn, 1) := by decide +kernel
theorem dm_Re_theorem_22 : decode mm_Re_theorem.2.1 22 = .ok (.aload_n 0, 1) := by decide +kernel
theorem dm_Re_theorem_23 : decode mm_Re_theorem.2.1 23 = .ok (.iconst 0, 1) := by decide +kernel
theorem dm_Re_theorem_24 : decode mm_Re_theorem.2.1 24 = .ok (.invokevirtual 94, 3) := by decide +kernel
theorem dm_Re_theorem_27 : decode mm_Re_theorem.2.1 27 = .ok (.istore_n 2, 1) := by decide +kernel
theorem dm_Re_theorem_28 : decode mm_Re_theorem.2.1 28 = .ok (.aload_n 0, 1) := by decide +kernel
theorem dm_Re_theorem_29 : decode mm_Re_theorem.2.1 29 = .ok (.iconst 0, 1) := by decide +kernel
theorem dm_Re_theorem_30 : decode mm_Re_theorem.2.1 30 = .ok (.invokevirtual 97, 3) := by decide +kernel
theorem dm_Re_theorem_33 : decode mm_Re_theorem.2.1 33 = .ok (.istore_n 3, 1) := by decide +kernel
theorem dm_Re_theorem_34 : decode mm_Re_theorem.2.1 34 = .ok (.aload_n 0, 1) := by decide +kernel
theorem dm_Re_theorem_35 : decode mm_Re_theorem.2.1 35 = .ok (.invokevirtual 88, 3) := by decide +kernel
theorem dm_Re_theorem_38 : decode mm_Re_theorem.2.1 38 = .ok (.aload_n 0, 1) := by decide +kernel
theorem dm_Re_theorem_39 : decode mm_Re_theorem.2.1 39 = .ok (.iload_n 2, 1) := by decide +kernel
theorem dm_Re_theorem_40 : decode mm_Re_theorem.2.1 40 = .ok (.invokevirtual 106, 3) := by decide +kernel
theorem dm_Re_theorem_43 : decode mm_Re_theorem.2.1 43 = .ok (.istore 4, 2) := by decide +kernel
theorem dm_Re_theorem_45 : decode mm_Re_theorem.2.1 45 = .ok (.aload_n 0, 1) := by decide +kernel
theorem dm_Re_theorem_46 : decode mm_Re_theorem.2.1 46 = .ok (.getfield 28, 3) := by decide +kernel
theorem dm_Re_theorem_49 : decode mm_Re_theorem.2.1 49 = .ok (.istore 5, 2) := by decide +kernel
theorem dm_Re_theorem_51 : decode mm_Re_theorem.2.1 51 = .ok (.iload_n 1, 1) := by decide +kernel
theorem dm_Re_theorem_52 : decode mm_Re_theorem.2.1 52 = .ok (.iconst 1, 1) := by decide +kernel
theorem dm_Re_theorem_53 : decode mm_Re_theorem.2.1 53 = .ok (.if_icmp .eq 8, 3) := by decide +kernel
theorem dm_Re_theorem_56 : decode mm_Re_theorem.2.1 56 = .ok (.iload_n 1, 1) := by decide +kernel
theorem dm_Re_theorem_57 : decode mm_Re_theorem.2.1 57 = .ok (.iconst 3, 1) := by decide +kernel
theorem dm_Re_theorem_58 : decode mm_Re_theorem.2.1 58 = .ok (.if_icmp .ne 26, 3) := by decide +kernel
theorem dm_Re_theorem_61 : decode mm_Re_theorem.2.1 61 = .ok (.aload_n 0, 1) := by decide +kernel
theorem dm_Re_theorem_62 : decode mm_Re_theorem.2.1 62 = .ok (.iload 4, 2) := by decide +kernel
theorem dm_Re_theorem_64 : decode mm_Re_theorem.2.1 64 = .ok (.iload 5, 2) := by decide +kernel
theorem dm_Re_theorem_66 : decode mm_Re_theorem.2.1 66 = .ok (.invokevirtual 133, 3) := by decide +kernel
theorem dm_Re_theorem_69 : decode mm_Re_theorem.2.1 69 = .ok (.ifCond .eq 13, 3) := by decide +kernel
theorem dm_Re_theorem_72 : decode mm_Re_theorem.2.1 72 = .ok (.aload_n 0, 1) := by decide +kernel
theorem dm_Re_theorem_73 : decode mm_Re_theorem.2.1 73 = .ok (.iload_n 1, 1) := by decide +kernel
theorem dm_Re_theorem_74 : decode mm_Re_theorem.2.1 74 = .ok (.iload_n 2, 1) := by decide +kernel
theorem dm_Re_theorem_75 : decode mm_Re_theorem.2.1 75 = .ok (.iload_n 3, 1) := by decide +kernel
theorem dm_Re_theorem_76 : decode mm_Re_theorem.2.1 76 = .ok (.invokevirtual 136, 3) := by decide +kernel
theorem dm_Re_theorem_79 : decode mm_Re_theorem.2.1 79 = .ok (.goto 4, 3) := by decide +kernel
theorem dm_Re_theorem_82 : decode mm_Re_theorem.2.1 82 = .ok (.iconst 2, 1) := by decide +kernel
theorem dm_Re_theorem_83 : decode mm_Re_theorem.2.1 83 = .ok (.ireturn, 1) := by decide +kernel
theorem dm_Re_theorem_84 : decode mm_Re_theorem.2.1 84 = .ok (.iload_n 1, 1) := by decide +kernel
theorem dm_Re_theorem_85 : decode mm_Re_theorem.2.1 85 = .ok (.iconst 2, 1) := by decide +kernel
theorem dm_Re_theorem_86 : decode mm_Re_theorem.2.1 86 = .ok (.if_icmp .ne 29, 3) := by decide +kernel
theorem dm_Re_theorem_89 : decode mm_Re_theorem.2.1 89 = .ok (.aload_n 0, 1) := by decide +kernel
theorem dm_Re_theorem_90 : decode mm_Re_theorem.2.1 90 = .ok (.getfield 7, 3) := by decide +kernel
theorem dm_Re_theorem_93 : decode mm_Re_theorem.2.1 93 = .ok (.iload_n 2, 1) := by decide +kernel
theorem dm_Re_theorem_94 : decode mm_Re_theorem.2.1 94 = .ok (.iaload, 1) := by decide +kernel
theorem dm_Re_theorem_95 : decode mm_Re_theorem.2.1 95 = .ok (.bipush 12, 2) := by decide +kernel
theorem dm_Re_theorem_97 : decode mm_Re_theorem.2.1 97 = .ok (.if_icmp .ne 16, 3) := by decide +kernel
theorem dm_Re_theorem_100 : decode mm_Re_theorem.2.1 100 = .ok (.aload_n 0, 1) := by decide +kernel
theorem dm_Re_theorem_101 : decode mm_Re_theorem.2.1 101 = .ok (.getfield 7, 3) := by decide +kernel
theorem dm_Re_theorem_104 : decode mm_Re_theorem.2.1 104 = .ok (.iload_n 2, 1) := by decide +kernel
theorem dm_Re_theorem_105 : decode mm_Re_theorem.2.1 105 = .ok (.iconst 1, 1) := by decide +kernel
theorem dm_Re_theorem_106 : decode mm_Re_theorem.2.1 106 = .ok (.iadd, 1) := by decide +kernel
theorem dm_Re_theorem_107 : decode mm_Re_theorem.2.1 107 = .ok (.iaload, 1) := by decide +kernel
theorem dm_Re_theorem_108 : decode mm_Re_theorem.2.1 108 = .ok (.bipush 13, 2) := by decide +kernel
theorem dm_Re_theorem_110 : decode mm_Re_theorem.2.1 110 = .ok (.if_icmp .eq 5, 3) := by decide +kernel
theorem dm_Re_theorem_113 : decode mm_Re_theorem.2.1 113 = .ok (.iconst 2, 1) := by decide +kernel
theorem dm_Re_theorem_114 : decode mm_Re_theorem.2.1 114 = .ok (.ireturn, 1) := by decide +kernel
theorem dm_Re_theorem_115 : decode mm_Re_theorem.2.1 115 = .ok (.iload_n 1, 1) := by decide +kernel
theorem dm_Re_theorem_116 : decode mm_Re_theorem.2.1 116 = .ok (.iconst 4, 1) := by decide +kernel
theorem dm_Re_theorem_117 : decode mm_Re_theorem.2.1 117 = .ok (.if_icmp .ne 18, 3) := by decide +kernel
theorem dm_Re_theorem_120 : decode mm_Re_theorem.2.1 120 = .ok (.aload_n 0, 1) := by decide +kernel
theorem dm_Re_theorem_121 : decode mm_Re_theorem.2.1 121 = .ok (.iload_n 2, 1) := by decide +kernel
theorem dm_Re_theorem_122 : decode mm_Re_theorem.2.1 122 = .ok (.iload_n 3, 1) := by decide +kernel
theorem dm_Re_theorem_123 : decode mm_Re_theorem.2.1 123 = .ok (.iload 4, 2) := by decide +kernel
theorem dm_Re_theorem_125 : decode mm_Re_theorem.2.1 125 = .ok (.iload 5, 2) := by decide +kernel
theorem dm_Re_theorem_127 : decode mm_Re_theorem.2.1 127 = .ok (.invokevirtual 140, 3) := by decide +kernel
theorem dm_Re_theorem_130 : decode mm_Re_theorem.2.1 130 = .ok (.ifCond .ne 5, 3) := by decide +kernel
theorem dm_Re_theorem_133 : decode mm_Re_theorem.2.1 133 = .ok (.iconst 3, 1) := by decide +kernel
theorem dm_Re_theorem_134 : decode mm_Re_theorem.2.1 134 = .ok (.ireturn, 1) := by decide +kernel
theorem dm_Re_theorem_135 : decode mm_Re_theorem.2.1 135 = .ok (.aload_n 0, 1) := by decide +kernel
theorem dm_Re_theorem_136 : decode mm_Re_theorem.2.1 136 = .ok (.getfield 28, 3) := by decide +kernel
theorem dm_Re_theorem_139 : decode mm_Re_theorem.2.1 139 = .ok (.istore 6, 2) := by decide +kernel
theorem dm_Re_theorem_141 : decode mm_Re_theorem.2.1 141 = .ok (.aload_n 0, 1) := by decide +kernel
theorem dm_Re_theorem_142 : decode mm_Re_theorem.2.1 142 = .ok (.iload 4, 2) := by decide +kernel
theorem dm_Re_theorem_144 : decode mm_Re_theorem.2.1 144 = .ok (.iload 5, 2) := by decide +kernel
theorem dm_Re_theorem_146 : decode mm_Re_theorem.2.1 146 = .ok (.invokevirtual 143, 3) := by decide +kernel
theorem dm_Re_theorem_149 : decode mm_Re_theorem.2.1 149 = .ok (.iload_n 1, 1) := by decide +kernel
theorem dm_Re_theorem_150 : decode mm_Re_theorem.2.1 150 = .ok (.iconst 4, 1) := by decide +kernel
theorem dm_Re_theorem_151 : decode mm_Re_theorem.2.1 151 = .ok (.if_icmp .ne 27, 3) := by decide +kernel
theorem dm_Re_theorem_154 : decode mm_Re_theorem.2.1 154 = .ok (.aload_n 0, 1) := by decide +kernel
theorem dm_Re_theorem_155 : decode mm_Re_theorem.2.1 155 = .ok (.bipush 11, 2) := by decide +kernel
theorem dm_Re_theorem_157 : decode mm_Re_theorem.2.1 157 = .ok (.invokevirtual 32, 3) := by decide +kernel
theorem dm_Re_theorem_160 : decode mm_Re_theorem.2.1 160 = .ok (.aload_n 0, 1) := by decide +kernel
theorem dm_Re_theorem_161 : decode mm_Re_theorem.2.1 161 = .ok (.aload_n 0, 1) := by decide +kernel
theorem dm_Re_theorem_162 : decode mm_Re_theorem.2.1 162 = .ok (.getfield 103, 3) := by decide +kernel
theorem dm_Re_theorem_165 : decode mm_Re_theorem.2.1 165 = .ok (.iconst 1, 1) := by decide +kernel
theorem dm_Re_theorem_166 : decode mm_Re_theorem.2.1 166 = .ok (.iadd, 1) := by decide +kernel
theorem dm_Re_theorem_167 : decode mm_Re_theorem.2.1 167 = .ok (.invokevirtual 32, 3) := by decide +kernel
theorem dm_Re_theorem_170 : decode mm_Re_theorem.2.1 170 = .ok (.aload_n 0, 1) := by decide +kernel
theorem dm_Re_theorem_171 : decode mm_Re_theorem.2.1 171 = .ok (.iload 4, 2) := by decide +kernel
theorem dm_Re_theorem_173 : decode mm_Re_theorem.2.1 173 = .ok (.iload 5, 2) := by decide +kernel
theorem dm_Re_theorem_175 : decode mm_Re_theorem.2.1 175 = .ok (.invokevirtual 43, 3) := by decide +kernel
theorem dm_Re_theorem_178 : decode mm_Re_theorem.2.1 178 = .ok (.aload_n 0, 1) := by decide +kernel
theorem dm_Re_theorem_179 : decode mm_Re_theorem.2.1 179 = .ok (.iload_n 2, 1) := by decide +kernel
theorem dm_Re_theorem_180 : decode mm_Re_theorem.2.1 180 = .ok (.iload_n 3, 1) := by decide +kernel
theorem dm_Re_theorem_181 : decode mm_Re_theorem.2.1 181 = .ok (.invokevirtual 43, 3) := by decide +kernel
theorem dm_Re_theorem_184 : decode mm_Re_theorem.2.1 184 = .ok (.iload_n 1, 1) := by decide +kernel
theorem dm_Re_theorem_185 : decode mm_Re_theorem.2.1 185 = .ok (.ifCond .ne 9, 3) := by decide +kernel
theorem dm_Re_theorem_188 : decode mm_Re_theorem.2.1 188 = .ok (.aload_n 0, 1) := by decide +kernel
theorem dm_Re_theorem_189 : decode mm_Re_theorem.2.1 189 = .ok (.iload_n 2, 1) := by decide +kernel
theorem dm_Re_theorem_190 : decode mm_Re_theorem.2.1 190 = .ok (.iload_n 3, 1) := by decide +kernel
theorem dm_Re_theorem_191 : decode mm_Re_theorem.2.1 191 = .ok (.invokevirtual 43, 3) := by decide +kernel
theorem dm_Re_theorem_194 : decode mm_Re_theorem.2.1 194 = .ok (.iload_n 1, 1) := by decide +kernel
theorem dm_Re_theorem_195 : decode mm_Re_theorem.2.1 195 = .ok (.iconst 2, 1) := by decide +kernel
theorem dm_Re_theorem_196 : decode mm_Re_theorem.2.1 196 = .ok (.if_icmp .ne 15, 3) := by decide +kernel
theorem dm_Re_theorem_199 : decode mm_Re_theorem.2.1 199 = .ok (.aload_n 0, 1) := by decide +kernel
theorem dm_Re_theorem_200 : decode mm_Re_theorem.2.1 200 = .ok (.aload_n 0, 1) := by decide +kernel
theorem dm_Re_theorem_201 : decode mm_Re_theorem.2.1 201 = .ok (.iload_n 2, 1) := by decide +kernel
theorem dm_Re_theorem_202 : decode mm_Re_theorem.2.1 202 = .ok (.iconst 2, 1) := by decide +kernel
theorem dm_Re_theorem_203 : decode mm_Re_theorem.2.1 203 = .ok (.iadd, 1) := by decide +kernel
theorem dm_Re_theorem_204 : decode mm_Re_theorem.2.1 204 = .ok (.invokevirtual 36, 3) := by decide +kernel
theorem dm_Re_theorem_207 : decode mm_Re_theorem.2.1 207 = .ok (.iload_n 3, 1) := by decide +kernel
theorem dm_Re_theorem_208 : decode mm_Re_theorem.2.1 208 = .ok (.invokevirtual 146, 3) := by decide +kernel
theorem dm_Re_theorem_211 : decode mm_Re_theorem.2.1 211 = .ok (.aload_n 0, 1) := by decide +kernel
theorem dm_Re_theorem_212 : decode mm_Re_theorem.2.1 212 = .ok (.iconst 0, 1) := by decide +kernel
theorem dm_Re_theorem_213 : decode mm_Re_theorem.2.1 213 = .ok (.iload 6, 2) := by decide +kernel
theorem dm_Re_theorem_215 : decode mm_Re_theorem.2.1 215 = .ok (.invokevirtual 66, 3) := by decide +kernel
theorem dm_Re_theorem_218 : decode mm_Re_theorem.2.1 218 = .ok (.iload_n 1, 1) := by decide +kernel
theorem dm_Re_theorem_219 : decode mm_Re_theorem.2.1 219 = .ok (.iconst 4, 1) := by decide +kernel
theorem dm_Re_theorem_220 : decode mm_Re_theorem.2.1 220 = .ok (.if_icmp .ne 14, 3) := by decide +kernel
theorem dm_Re_theorem_223 : decode mm_Re_theorem.2.1 223 = .ok (.aload_n 0, 1) := by decide +kernel
theorem dm_Re_theorem_224 : decode mm_Re_theorem.2.1 224 = .ok (.iload 4, 2) := by decide +kernel
theorem dm_Re_theorem_226 : decode mm_Re_theorem.2.1 226 = .ok (.iload 5, 2) := by decide +kernel
theorem dm_Re_theorem_228 : decode mm_Re_theorem.2.1 228 = .ok (.invokevirtual 149, 3) := by decide +kernel
theorem dm_Re_theorem_231 : decode mm_Re_theorem.2.1 231 = .ok (.goto 8, 3) := by decide +kernel
theorem dm_Re_theorem_234 : decode mm_Re_theorem.2.1 234 = .ok (.aload_n 0, 1) := by decide +kernel
theorem dm_Re_theorem_235 : decode mm_Re_theorem.2.1 235 = .ok (.iconst 1, 1) := by decide +kernel
theorem dm_Re_theorem_236 : decode mm_Re_theorem.2.1 236 = .ok (.invokevirtual 91, 3) := by decide +kernel
