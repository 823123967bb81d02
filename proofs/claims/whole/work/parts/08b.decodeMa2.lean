theorem dm_Ma_reduce_29 : decode mm_Ma_reduce.2.1 29 = .ok (.iload_n 2, 1) := by decide +kernel
theorem dm_Ma_reduce_30 : decode mm_Ma_reduce.2.1 30 = .ok (.invokevirtual 217, 3) := by decide +kernel
theorem dm_Ma_reduce_33 : decode mm_Ma_reduce.2.1 33 = .ok (.istore_n 3, 1) := by decide +kernel
theorem dm_Ma_reduce_34 : decode mm_Ma_reduce.2.1 34 = .ok (.aload_n 1, 1) := by decide +kernel
theorem dm_Ma_reduce_35 : decode mm_Ma_reduce.2.1 35 = .ok (.iload_n 2, 1) := by decide +kernel
theorem dm_Ma_reduce_36 : decode mm_Ma_reduce.2.1 36 = .ok (.iload_n 3, 1) := by decide +kernel
theorem dm_Ma_reduce_37 : decode mm_Ma_reduce.2.1 37 = .ok (.invokevirtual 220, 3) := by decide +kernel
theorem dm_Ma_reduce_40 : decode mm_Ma_reduce.2.1 40 = .ok (.astore 4, 2) := by decide +kernel
theorem dm_Ma_reduce_42 : decode mm_Ma_reduce.2.1 42 = .ok (.aload_n 1, 1) := by decide +kernel
theorem dm_Ma_reduce_43 : decode mm_Ma_reduce.2.1 43 = .ok (.iload_n 3, 1) := by decide +kernel
theorem dm_Ma_reduce_44 : decode mm_Ma_reduce.2.1 44 = .ok (.aload_n 1, 1) := by decide +kernel
theorem dm_Ma_reduce_45 : decode mm_Ma_reduce.2.1 45 = .ok (.getfield 210, 3) := by decide +kernel
theorem dm_Ma_reduce_48 : decode mm_Ma_reduce.2.1 48 = .ok (.invokevirtual 220, 3) := by decide +kernel
theorem dm_Ma_reduce_51 : decode mm_Ma_reduce.2.1 51 = .ok (.astore 5, 2) := by decide +kernel
theorem dm_Ma_reduce_53 : decode mm_Ma_reduce.2.1 53 = .ok (.aload_n 0, 1) := by decide +kernel
theorem dm_Ma_reduce_54 : decode mm_Ma_reduce.2.1 54 = .ok (.getfield 10, 3) := by decide +kernel
theorem dm_Ma_reduce_57 : decode mm_Ma_reduce.2.1 57 = .ok (.aload 4, 2) := by decide +kernel
theorem dm_Ma_reduce_59 : decode mm_Ma_reduce.2.1 59 = .ok (.aload 5, 2) := by decide +kernel
theorem dm_Ma_reduce_61 : decode mm_Ma_reduce.2.1 61 = .ok (.invokevirtual 223, 3) := by decide +kernel
theorem dm_Ma_reduce_64 : decode mm_Ma_reduce.2.1 64 = .ok (.astore 6, 2) := by decide +kernel
theorem dm_Ma_reduce_66 : decode mm_Ma_reduce.2.1 66 = .ok (.aload_n 0, 1) := by decide +kernel
theorem dm_Ma_reduce_67 : decode mm_Ma_reduce.2.1 67 = .ok (.iconst 1, 1) := by decide +kernel
theorem dm_Ma_reduce_68 : decode mm_Ma_reduce.2.1 68 = .ok (.aload_n 0, 1) := by decide +kernel
theorem dm_Ma_reduce_69 : decode mm_Ma_reduce.2.1 69 = .ok (.getfield 46, 3) := by decide +kernel
theorem dm_Ma_reduce_72 : decode mm_Ma_reduce.2.1 72 = .ok (.aload_n 0, 1) := by decide +kernel
theorem dm_Ma_reduce_73 : decode mm_Ma_reduce.2.1 73 = .ok (.getfield 10, 3) := by decide +kernel
theorem dm_Ma_reduce_76 : decode mm_Ma_reduce.2.1 76 = .ok (.aload_n 0, 1) := by decide +kernel
theorem dm_Ma_reduce_77 : decode mm_Ma_reduce.2.1 77 = .ok (.getfield 10, 3) := by decide +kernel
theorem dm_Ma_reduce_80 : decode mm_Ma_reduce.2.1 80 = .ok (.aload_n 1, 1) := by decide +kernel
theorem dm_Ma_reduce_81 : decode mm_Ma_reduce.2.1 81 = .ok (.invokevirtual 80, 3) := by decide +kernel
theorem dm_Ma_reduce_84 : decode mm_Ma_reduce.2.1 84 = .ok (.aload_n 1, 1) := by decide +kernel
theorem dm_Ma_reduce_85 : decode mm_Ma_reduce.2.1 85 = .ok (.aload 6, 2) := by decide +kernel
theorem dm_Ma_reduce_87 : decode mm_Ma_reduce.2.1 87 = .ok (.invokevirtual 97, 3) := by decide +kernel
theorem dm_Ma_reduce_90 : decode mm_Ma_reduce.2.1 90 = .ok (.invokevirtual 101, 3) := by decide +kernel
theorem dm_Ma_reduce_93 : decode mm_Ma_reduce.2.1 93 = .ok (.ireturn, 1) := by decide +kernel
theorem dm_Ma_addAxiom_0 : decode mm_Ma_addAxiom.2.1 0 = .ok (.aload_n 0, 1) := by decide +kernel
theorem dm_Ma_addAxiom_1 : decode mm_Ma_addAxiom.2.1 1 = .ok (.getfield 10, 3) := by decide +kernel
theorem dm_Ma_addAxiom_4 : decode mm_Ma_addAxiom.2.1 4 = .ok (.aload_n 1, 1) := by decide +kernel
theorem dm_Ma_addAxiom_5 : decode mm_Ma_addAxiom.2.1 5 = .ok (.invokevirtual 80, 3) := by decide +kernel
theorem dm_Ma_addAxiom_8 : decode mm_Ma_addAxiom.2.1 8 = .ok (.iconst 0, 1) := by decide +kernel
theorem dm_Ma_addAxiom_9 : decode mm_Ma_addAxiom.2.1 9 = .ok (.invokevirtual 211, 3) := by decide +kernel
theorem dm_Ma_addAxiom_12 : decode mm_Ma_addAxiom.2.1 12 = .ok (.iconst 1, 1) := by decide +kernel
theorem dm_Ma_addAxiom_13 : decode mm_Ma_addAxiom.2.1 13 = .ok (.if_icmp .eq 5, 3) := by decide +kernel
theorem dm_Ma_addAxiom_16 : decode mm_Ma_addAxiom.2.1 16 = .ok (.iconst 2, 1) := by decide +kernel
theorem dm_Ma_addAxiom_17 : decode mm_Ma_addAxiom.2.1 17 = .ok (.ireturn, 1) := by decide +kernel
theorem dm_Ma_addAxiom_18 : decode mm_Ma_addAxiom.2.1 18 = .ok (.aload_n 0, 1) := by decide +kernel
theorem dm_Ma_addAxiom_19 : decode mm_Ma_addAxiom.2.1 19 = .ok (.getfield 25, 3) := by decide +kernel
theorem dm_Ma_addAxiom_22 : decode mm_Ma_addAxiom.2.1 22 = .ok (.invokevirtual 193, 3) := by decide +kernel
theorem dm_Ma_addAxiom_25 : decode mm_Ma_addAxiom.2.1 25 = .ok (.ifCond .eq 5, 3) := by decide +kernel
theorem dm_Ma_addAxiom_28 : decode mm_Ma_addAxiom.2.1 28 = .ok (.iconst 4, 1) := by decide +kernel
theorem dm_Ma_addAxiom_29 : decode mm_Ma_addAxiom.2.1 29 = .ok (.ireturn, 1) := by decide +kernel
theorem dm_Ma_addAxiom_30 : decode mm_Ma_addAxiom.2.1 30 = .ok (.new 31, 3) := by decide +kernel
theorem dm_Ma_addAxiom_33 : decode mm_Ma_addAxiom.2.1 33 = .ok (.dup, 1) := by decide +kernel
theorem dm_Ma_addAxiom_34 : decode mm_Ma_addAxiom.2.1 34 = .ok (.iconst 2, 1) := by decide +kernel
theorem dm_Ma_addAxiom_35 : decode mm_Ma_addAxiom.2.1 35 = .ok (.aload_n 1, 1) := by decide +kernel
theorem dm_Ma_addAxiom_36 : decode mm_Ma_addAxiom.2.1 36 = .ok (.aload_n 0, 1) := by decide +kernel
theorem dm_Ma_addAxiom_37 : decode mm_Ma_addAxiom.2.1 37 = .ok (.getfield 46, 3) := by decide +kernel
theorem dm_Ma_addAxiom_40 : decode mm_Ma_addAxiom.2.1 40 = .ok (.invokespecial 226, 3) := by decide +kernel
theorem dm_Ma_addAxiom_43 : decode mm_Ma_addAxiom.2.1 43 = .ok (.astore_n 2, 1) := by decide +kernel
theorem dm_Ma_addAxiom_44 : decode mm_Ma_addAxiom.2.1 44 = .ok (.aload_n 0, 1) := by decide +kernel
theorem dm_Ma_addAxiom_45 : decode mm_Ma_addAxiom.2.1 45 = .ok (.iconst 1, 1) := by decide +kernel
theorem dm_Ma_addAxiom_46 : decode mm_Ma_addAxiom.2.1 46 = .ok (.aload_n 2, 1) := by decide +kernel
theorem dm_Ma_addAxiom_47 : decode mm_Ma_addAxiom.2.1 47 = .ok (.invokevirtual 182, 3) := by decide +kernel
theorem dm_Ma_addAxiom_50 : decode mm_Ma_addAxiom.2.1 50 = .ok (.istore_n 3, 1) := by decide +kernel
theorem dm_Ma_addAxiom_51 : decode mm_Ma_addAxiom.2.1 51 = .ok (.iload_n 3, 1) := by decide +kernel
theorem dm_Ma_addAxiom_52 : decode mm_Ma_addAxiom.2.1 52 = .ok (.ifCond .ne 11, 3) := by decide +kernel
theorem dm_Ma_addAxiom_55 : decode mm_Ma_addAxiom.2.1 55 = .ok (.aload_n 0, 1) := by decide +kernel
theorem dm_Ma_addAxiom_56 : decode mm_Ma_addAxiom.2.1 56 = .ok (.getfield 25, 3) := by decide +kernel
theorem dm_Ma_addAxiom_59 : decode mm_Ma_addAxiom.2.1 59 = .ok (.aload_n 2, 1) := by decide +kernel
theorem dm_Ma_addAxiom_60 : decode mm_Ma_addAxiom.2.1 60 = .ok (.invokevirtual 197, 3) := by decide +kernel
theorem dm_Ma_addAxiom_63 : decode mm_Ma_addAxiom.2.1 63 = .ok (.iload_n 3, 1) := by decide +kernel
theorem dm_Ma_addAxiom_64 : decode mm_Ma_addAxiom.2.1 64 = .ok (.ireturn, 1) := by decide +kernel
theorem dm_Ma_define_0 : decode mm_Ma_define.2.1 0 = .ok (.aload_n 0, 1) := by decide +kernel
theorem dm_Ma_define_1 : decode mm_Ma_define.2.1 1 = .ok (.getfield 10, 3) := by decide +kernel
theorem dm_Ma_define_4 : decode mm_Ma_define.2.1 4 = .ok (.aload_n 1, 1) := by decide +kernel
theorem dm_Ma_define_5 : decode mm_Ma_define.2.1 5 = .ok (.invokevirtual 80, 3) := by decide +kernel
theorem dm_Ma_define_8 : decode mm_Ma_define.2.1 8 = .ok (.astore_n 2, 1) := by decide +kernel
theorem dm_Ma_define_9 : decode mm_Ma_define.2.1 9 = .ok (.aload_n 1, 1) := by decide +kernel
theorem dm_Ma_define_10 : decode mm_Ma_define.2.1 10 = .ok (.invokevirtual 229, 3) := by decide +kernel
theorem dm_Ma_define_13 : decode mm_Ma_define.2.1 13 = .ok (.ifCond .ne 11, 3) := by decide +kernel
theorem dm_Ma_define_16 : decode mm_Ma_define.2.1 16 = .ok (.aload_n 1, 1) := by decide +kernel
theorem dm_Ma_define_17 : decode mm_Ma_define.2.1 17 = .ok (.aload_n 2, 1) := by decide +kernel
theorem dm_Ma_define_18 : decode mm_Ma_define.2.1 18 = .ok (.invokevirtual 232, 3) := by decide +kernel
theorem dm_Ma_define_21 : decode mm_Ma_define.2.1 21 = .ok (.ifCond .ne 5, 3) := by decide +kernel
theorem dm_Ma_define_24 : decode mm_Ma_define.2.1 24 = .ok (.iconst 3, 1) := by decide +kernel
theorem dm_Ma_define_25 : decode mm_Ma_define.2.1 25 = .ok (.ireturn, 1) := by decide +kernel
theorem dm_Ma_define_26 : decode mm_Ma_define.2.1 26 = .ok (.aload_n 0, 1) := by decide +kernel
theorem dm_Ma_define_27 : decode mm_Ma_define.2.1 27 = .ok (.getfield 50, 3) := by decide +kernel
theorem dm_Ma_define_30 : decode mm_Ma_define.2.1 30 = .ok (.bipush 6, 2) := by decide +kernel
theorem dm_Ma_define_32 : decode mm_Ma_define.2.1 32 = .ok (.if_icmp .lt 5, 3) := by decide +kernel
theorem dm_Ma_define_35 : decode mm_Ma_define.2.1 35 = .ok (.iconst 4, 1) := by decide +kernel
theorem dm_Ma_define_36 : decode mm_Ma_define.2.1 36 = .ok (.ireturn, 1) := by decide +kernel
theorem dm_Ma_define_37 : decode mm_Ma_define.2.1 37 = .ok (.aload_n 0, 1) := by decide +kernel
theorem dm_Ma_define_38 : decode mm_Ma_define.2.1 38 = .ok (.getfield 10, 3) := by decide +kernel
theorem dm_Ma_define_41 : decode mm_Ma_define.2.1 41 = .ok (.bipush 11, 2) := by decide +kernel
theorem dm_Ma_define_43 : decode mm_Ma_define.2.1 43 = .ok (.aload_n 0, 1) := by decide +kernel
theorem dm_Ma_define_44 : decode mm_Ma_define.2.1 44 = .ok (.getfield 50, 3) := by decide +kernel
theorem dm_Ma_define_47 : decode mm_Ma_define.2.1 47 = .ok (.iconst 1, 1) := by decide +kernel
theorem dm_Ma_define_48 : decode mm_Ma_define.2.1 48 = .ok (.iadd, 1) := by decide +kernel
theorem dm_Ma_define_49 : decode mm_Ma_define.2.1 49 = .ok (.aload_n 2, 1) := by decide +kernel
theorem dm_Ma_define_50 : decode mm_Ma_define.2.1 50 = .ok (.invokevirtual 73, 3) := by decide +kernel
theorem dm_Ma_define_53 : decode mm_Ma_define.2.1 53 = .ok (.astore_n 3, 1) := by decide +kernel
theorem dm_Ma_define_54 : decode mm_Ma_define.2.1 54 = .ok (.aload_n 0, 1) := by decide +kernel
theorem dm_Ma_define_55 : decode mm_Ma_define.2.1 55 = .ok (.iconst 1, 1) := by decide +kernel
theorem dm_Ma_define_56 : decode mm_Ma_define.2.1 56 = .ok (.aload_n 0, 1) := by decide +kernel
theorem dm_Ma_define_57 : decode mm_Ma_define.2.1 57 = .ok (.getfield 46, 3) := by decide +kernel
theorem dm_Ma_define_60 : decode mm_Ma_define.2.1 60 = .ok (.aload_n 0, 1) := by decide +kernel
theorem dm_Ma_define_61 : decode mm_Ma_define.2.1 61 = .ok (.getfield 10, 3) := by decide +kernel
theorem dm_Ma_define_64 : decode mm_Ma_define.2.1 64 = .ok (.aload_n 2, 1) := by decide +kernel
theorem dm_Ma_define_65 : decode mm_Ma_define.2.1 65 = .ok (.aload_n 3, 1) := by decide +kernel
theorem dm_Ma_define_66 : decode mm_Ma_define.2.1 66 = .ok (.aload_n 1, 1) := by decide +kernel
theorem dm_Ma_define_67 : decode mm_Ma_define.2.1 67 = .ok (.invokevirtual 97, 3) := by decide +kernel
theorem dm_Ma_define_70 : decode mm_Ma_define.2.1 70 = .ok (.invokevirtual 101, 3) := by decide +kernel
theorem dm_Ma_define_73 : decode mm_Ma_define.2.1 73 = .ok (.istore 4, 2) := by decide +kernel
theorem dm_Ma_define_75 : decode mm_Ma_define.2.1 75 = .ok (.iload 4, 2) := by decide +kernel
theorem dm_Ma_define_77 : decode mm_Ma_define.2.1 77 = .ok (.ifCond .ne 23, 3) := by decide +kernel
theorem dm_Ma_define_80 : decode mm_Ma_define.2.1 80 = .ok (.aload_n 0, 1) := by decide +kernel
theorem dm_Ma_define_81 : decode mm_Ma_define.2.1 81 = .ok (.getfield 39, 3) := by decide +kernel
theorem dm_Ma_define_84 : decode mm_Ma_define.2.1 84 = .ok (.aload_n 0, 1) := by decide +kernel
theorem dm_Ma_define_85 : decode mm_Ma_define.2.1 85 = .ok (.getfield 50, 3) := by decide +kernel
theorem dm_Ma_define_88 : decode mm_Ma_define.2.1 88 = .ok (.aload_n 2, 1) := by decide +kernel
theorem dm_Ma_define_89 : decode mm_Ma_define.2.1 89 = .ok (.aastore, 1) := by decide +kernel
theorem dm_Ma_define_90 : decode mm_Ma_define.2.1 90 = .ok (.aload_n 0, 1) := by decide +kernel
theorem dm_Ma_define_91 : decode mm_Ma_define.2.1 91 = .ok (.dup, 1) := by decide +kernel
theorem dm_Ma_define_92 : decode mm_Ma_define.2.1 92 = .ok (.getfield 50, 3) := by decide +kernel
theorem dm_Ma_define_95 : decode mm_Ma_define.2.1 95 = .ok (.iconst 1, 1) := by decide +kernel
theorem dm_Ma_define_96 : decode mm_Ma_define.2.1 96 = .ok (.iadd, 1) := by decide +kernel
theorem dm_Ma_define_97 : decode mm_Ma_define.2.1 97 = .ok (.putfield 50, 3) := by decide +kernel
theorem dm_Ma_define_100 : decode mm_Ma_define.2.1 100 = .ok (.iload 4, 2) := by decide +kernel
theorem dm_Ma_define_102 : decode mm_Ma_define.2.1 102 = .ok (.ireturn, 1) := by decide +kernel
theorem dm_Ma_followEquation_0 : decode mm_Ma_followEquation.2.1 0 = .ok (.aload_n 0, 1) := by decide +kernel
theorem dm_Ma_followEquation_1 : decode mm_Ma_followEquation.2.1 1 = .ok (.aload_n 1, 1) := by decide +kernel
theorem dm_Ma_followEquation_2 : decode mm_Ma_followEquation.2.1 2 = .ok (.getfield 132, 3) := by decide +kernel
theorem dm_Ma_followEquation_5 : decode mm_Ma_followEquation.2.1 5 = .ok (.invokevirtual 136, 3) := by decide +kernel
theorem dm_Ma_followEquation_8 : decode mm_Ma_followEquation.2.1 8 = .ok (.astore_n 3, 1) := by decide +kernel
theorem dm_Ma_followEquation_9 : decode mm_Ma_followEquation.2.1 9 = .ok (.aload_n 3, 1) := by decide +kernel
theorem dm_Ma_followEquation_10 : decode mm_Ma_followEquation.2.1 10 = .ok (.ifnull 17, 3) := by decide +kernel
theorem dm_Ma_followEquation_13 : decode mm_Ma_followEquation.2.1 13 = .ok (.aload_n 3, 1) := by decide +kernel
theorem dm_Ma_followEquation_14 : decode mm_Ma_followEquation.2.1 14 = .ok (.getfield 147, 3) := by decide +kernel
theorem dm_Ma_followEquation_17 : decode mm_Ma_followEquation.2.1 17 = .ok (.aload_n 2, 1) := by decide +kernel
theorem dm_Ma_followEquation_18 : decode mm_Ma_followEquation.2.1 18 = .ok (.getfield 132, 3) := by decide +kernel
theorem dm_Ma_followEquation_21 : decode mm_Ma_followEquation.2.1 21 = .ok (.invokevirtual 158, 3) := by decide +kernel
theorem dm_Ma_followEquation_24 : decode mm_Ma_followEquation.2.1 24 = .ok (.ifCond .ne 5, 3) := by decide +kernel
theorem dm_Ma_followEquation_27 : decode mm_Ma_followEquation.2.1 27 = .ok (.iconst 2, 1) := by decide +kernel
theorem dm_Ma_followEquation_28 : decode mm_Ma_followEquation.2.1 28 = .ok (.ireturn, 1) := by decide +kernel
theorem dm_Ma_followEquation_29 : decode mm_Ma_followEquation.2.1 29 = .ok (.aload_n 0, 1) := by decide +kernel
theorem dm_Ma_followEquation_30 : decode mm_Ma_followEquation.2.1 30 = .ok (.iconst 2, 1) := by decide +kernel
theorem dm_Ma_followEquation_31 : decode mm_Ma_followEquation.2.1 31 = .ok (.aload_n 0, 1) := by decide +kernel
theorem dm_Ma_followEquation_32 : decode mm_Ma_followEquation.2.1 32 = .ok (.aload_n 1, 1) := by decide +kernel
theorem dm_Ma_followEquation_33 : decode mm_Ma_followEquation.2.1 33 = .ok (.aload_n 2, 1) := by decide +kernel
theorem dm_Ma_followEquation_34 : decode mm_Ma_followEquation.2.1 34 = .ok (.invokevirtual 235, 3) := by decide +kernel
theorem dm_Ma_followEquation_37 : decode mm_Ma_followEquation.2.1 37 = .ok (.aload_n 3, 1) := by decide +kernel
theorem dm_Ma_followEquation_38 : decode mm_Ma_followEquation.2.1 38 = .ok (.getfield 152, 3) := by decide +kernel
theorem dm_Ma_followEquation_41 : decode mm_Ma_followEquation.2.1 41 = .ok (.invokevirtual 101, 3) := by decide +kernel
theorem dm_Ma_followEquation_44 : decode mm_Ma_followEquation.2.1 44 = .ok (.ireturn, 1) := by decide +kernel
theorem dm_Ma_applyEquations_0 : decode mm_Ma_applyEquations.2.1 0 = .ok (.aload_n 0, 1) := by decide +kernel
theorem dm_Ma_applyEquations_1 : decode mm_Ma_applyEquations.2.1 1 = .ok (.aload_n 1, 1) := by decide +kernel
theorem dm_Ma_applyEquations_2 : decode mm_Ma_applyEquations.2.1 2 = .ok (.getfield 132, 3) := by decide +kernel
theorem dm_Ma_applyEquations_5 : decode mm_Ma_applyEquations.2.1 5 = .ok (.invokevirtual 136, 3) := by decide +kernel
theorem dm_Ma_applyEquations_8 : decode mm_Ma_applyEquations.2.1 8 = .ok (.astore_n 3, 1) := by decide +kernel
theorem dm_Ma_applyEquations_9 : decode mm_Ma_applyEquations.2.1 9 = .ok (.aload_n 0, 1) := by decide +kernel
theorem dm_Ma_applyEquations_10 : decode mm_Ma_applyEquations.2.1 10 = .ok (.aload_n 2, 1) := by decide +kernel
theorem dm_Ma_applyEquations_11 : decode mm_Ma_applyEquations.2.1 11 = .ok (.getfield 132, 3) := by decide +kernel
theorem dm_Ma_applyEquations_14 : decode mm_Ma_applyEquations.2.1 14 = .ok (.invokevirtual 136, 3) := by decide +kernel
theorem dm_Ma_applyEquations_17 : decode mm_Ma_applyEquations.2.1 17 = .ok (.astore 4, 2) := by decide +kernel
theorem dm_Ma_applyEquations_19 : decode mm_Ma_applyEquations.2.1 19 = .ok (.aload_n 3, 1) := by decide +kernel
theorem dm_Ma_applyEquations_20 : decode mm_Ma_applyEquations.2.1 20 = .ok (.ifnull 24, 3) := by decide +kernel
theorem dm_Ma_applyEquations_23 : decode mm_Ma_applyEquations.2.1 23 = .ok (.aload 4, 2) := by decide +kernel
theorem dm_Ma_applyEquations_25 : decode mm_Ma_applyEquations.2.1 25 = .ok (.ifnull 19, 3) := by decide +kernel
theorem dm_Ma_applyEquations_28 : decode mm_Ma_applyEquations.2.1 28 = .ok (.aload_n 0, 1) := by decide +kernel
theorem dm_Ma_applyEquations_29 : decode mm_Ma_applyEquations.2.1 29 = .ok (.aload_n 3, 1) := by decide +kernel
theorem dm_Ma_applyEquations_30 : decode mm_Ma_applyEquations.2.1 30 = .ok (.getfield 155, 3) := by decide +kernel
theorem dm_Ma_applyEquations_33 : decode mm_Ma_applyEquations.2.1 33 = .ok (.aload 4, 2) := by decide +kernel
theorem dm_Ma_applyEquations_35 : decode mm_Ma_applyEquations.2.1 35 = .ok (.getfield 155, 3) := by decide +kernel
theorem dm_Ma_applyEquations_38 : decode mm_Ma_applyEquations.2.1 38 = .ok (.invokevirtual 84, 3) := by decide +kernel
theorem dm_Ma_applyEquations_41 : decode mm_Ma_applyEquations.2.1 41 = .ok (.ifCond .ne 5, 3) := by decide +kernel
theorem dm_Ma_applyEquations_44 : decode mm_Ma_applyEquations.2.1 44 = .ok (.iconst 2, 1) := by decide +kernel
theorem dm_Ma_applyEquations_45 : decode mm_Ma_applyEquations.2.1 45 = .ok (.ireturn, 1) := by decide +kernel
theorem dm_Ma_applyEquations_46 : decode mm_Ma_applyEquations.2.1 46 = .ok (.aload_n 0, 1) := by decide +kernel
theorem dm_Ma_applyEquations_47 : decode mm_Ma_applyEquations.2.1 47 = .ok (.getfield 10, 3) := by decide +kernel
theorem dm_Ma_applyEquations_50 : decode mm_Ma_applyEquations.2.1 50 = .ok (.aload_n 3, 1) := by decide +kernel
theorem dm_Ma_applyEquations_51 : decode mm_Ma_applyEquations.2.1 51 = .ok (.getfield 147, 3) := by decide +kernel
theorem dm_Ma_applyEquations_54 : decode mm_Ma_applyEquations.2.1 54 = .ok (.aload 4, 2) := by decide +kernel
theorem dm_Ma_applyEquations_56 : decode mm_Ma_applyEquations.2.1 56 = .ok (.getfield 147, 3) := by decide +kernel
theorem dm_Ma_applyEquations_59 : decode mm_Ma_applyEquations.2.1 59 = .ok (.invokevirtual 88, 3) := by decide +kernel
theorem dm_Ma_applyEquations_62 : decode mm_Ma_applyEquations.2.1 62 = .ok (.astore 5, 2) := by decide +kernel
theorem dm_Ma_applyEquations_64 : decode mm_Ma_applyEquations.2.1 64 = .ok (.aload_n 0, 1) := by decide +kernel
theorem dm_Ma_applyEquations_65 : decode mm_Ma_applyEquations.2.1 65 = .ok (.getfield 10, 3) := by decide +kernel
theorem dm_Ma_applyEquations_68 : decode mm_Ma_applyEquations.2.1 68 = .ok (.aload_n 3, 1) := by decide +kernel
theorem dm_Ma_applyEquations_69 : decode mm_Ma_applyEquations.2.1 69 = .ok (.getfield 152, 3) := by decide +kernel
theorem dm_Ma_applyEquations_72 : decode mm_Ma_applyEquations.2.1 72 = .ok (.aload 4, 2) := by decide +kernel
theorem dm_Ma_applyEquations_74 : decode mm_Ma_applyEquations.2.1 74 = .ok (.getfield 152, 3) := by decide +kernel
theorem dm_Ma_applyEquations_77 : decode mm_Ma_applyEquations.2.1 77 = .ok (.invokevirtual 88, 3) := by decide +kernel
theorem dm_Ma_applyEquations_80 : decode mm_Ma_applyEquations.2.1 80 = .ok (.astore 6, 2) := by decide +kernel
theorem dm_Ma_applyEquations_82 : decode mm_Ma_applyEquations.2.1 82 = .ok (.aload_n 0, 1) := by decide +kernel
theorem dm_Ma_applyEquations_83 : decode mm_Ma_applyEquations.2.1 83 = .ok (.getfield 10, 3) := by decide +kernel
theorem dm_Ma_applyEquations_86 : decode mm_Ma_applyEquations.2.1 86 = .ok (.aload_n 3, 1) := by decide +kernel
theorem dm_Ma_applyEquations_87 : decode mm_Ma_applyEquations.2.1 87 = .ok (.getfield 155, 3) := by decide +kernel
theorem dm_Ma_applyEquations_90 : decode mm_Ma_applyEquations.2.1 90 = .ok (.invokevirtual 239, 3) := by decide +kernel
theorem dm_Ma_applyEquations_93 : decode mm_Ma_applyEquations.2.1 93 = .ok (.aload 5, 2) := by decide +kernel
theorem dm_Ma_applyEquations_95 : decode mm_Ma_applyEquations.2.1 95 = .ok (.aload 6, 2) := by decide +kernel
theorem dm_Ma_applyEquations_97 : decode mm_Ma_applyEquations.2.1 97 = .ok (.invokevirtual 97, 3) := by decide +kernel
theorem dm_Ma_applyEquations_100 : decode mm_Ma_applyEquations.2.1 100 = .ok (.astore 7, 2) := by decide +kernel
theorem dm_Ma_applyEquations_102 : decode mm_Ma_applyEquations.2.1 102 = .ok (.aload_n 0, 1) := by decide +kernel
theorem dm_Ma_applyEquations_103 : decode mm_Ma_applyEquations.2.1 103 = .ok (.iconst 2, 1) := by decide +kernel
theorem dm_Ma_applyEquations_104 : decode mm_Ma_applyEquations.2.1 104 = .ok (.aload_n 0, 1) := by decide +kernel
theorem dm_Ma_applyEquations_105 : decode mm_Ma_applyEquations.2.1 105 = .ok (.aload_n 1, 1) := by decide +kernel
theorem dm_Ma_applyEquations_106 : decode mm_Ma_applyEquations.2.1 106 = .ok (.aload_n 2, 1) := by decide +kernel
theorem dm_Ma_applyEquations_107 : decode mm_Ma_applyEquations.2.1 107 = .ok (.invokevirtual 235, 3) := by decide +kernel
theorem dm_Ma_applyEquations_110 : decode mm_Ma_applyEquations.2.1 110 = .ok (.aload 7, 2) := by decide +kernel
theorem dm_Ma_applyEquations_112 : decode mm_Ma_applyEquations.2.1 112 = .ok (.invokevirtual 101, 3) := by decide +kernel
theorem dm_Ma_applyEquations_115 : decode mm_Ma_applyEquations.2.1 115 = .ok (.ireturn, 1) := by decide +kernel
theorem dm_Ma_deduct_0 : decode mm_Ma_deduct.2.1 0 = .ok (.new 43, 3) := by decide +kernel
theorem dm_Ma_deduct_3 : decode mm_Ma_deduct.2.1 3 = .ok (.dup, 1) := by decide +kernel
theorem dm_Ma_deduct_4 : decode mm_Ma_deduct.2.1 4 = .ok (.invokespecial 45, 3) := by decide +kernel
theorem dm_Ma_deduct_7 : decode mm_Ma_deduct.2.1 7 = .ok (.astore_n 3, 1) := by decide +kernel
theorem dm_Ma_deduct_8 : decode mm_Ma_deduct.2.1 8 = .ok (.aload_n 3, 1) := by decide +kernel
theorem dm_Ma_deduct_9 : decode mm_Ma_deduct.2.1 9 = .ok (.aload_n 1, 1) := by decide +kernel
theorem dm_Ma_deduct_10 : decode mm_Ma_deduct.2.1 10 = .ok (.getfield 140, 3) := by decide +kernel
theorem dm_Ma_deduct_13 : decode mm_Ma_deduct.2.1 13 = .ok (.aload_n 2, 1) := by decide +kernel
theorem dm_Ma_deduct_14 : decode mm_Ma_deduct.2.1 14 = .ok (.getfield 132, 3) := by decide +kernel
theorem dm_Ma_deduct_17 : decode mm_Ma_deduct.2.1 17 = .ok (.invokevirtual 243, 3) := by decide +kernel
theorem dm_Ma_deduct_20 : decode mm_Ma_deduct.2.1 20 = .ok (.aload_n 3, 1) := by decide +kernel
theorem dm_Ma_deduct_21 : decode mm_Ma_deduct.2.1 21 = .ok (.aload_n 2, 1) := by decide +kernel
theorem dm_Ma_deduct_22 : decode mm_Ma_deduct.2.1 22 = .ok (.getfield 140, 3) := by decide +kernel
theorem dm_Ma_deduct_25 : decode mm_Ma_deduct.2.1 25 = .ok (.aload_n 1, 1) := by decide +kernel
theorem dm_Ma_deduct_26 : decode mm_Ma_deduct.2.1 26 = .ok (.getfield 132, 3) := by decide +kernel
theorem dm_Ma_deduct_29 : decode mm_Ma_deduct.2.1 29 = .ok (.invokevirtual 243, 3) := by decide +kernel
theorem dm_Ma_deduct_32 : decode mm_Ma_deduct.2.1 32 = .ok (.aload_n 0, 1) := by decide +kernel
theorem dm_Ma_deduct_33 : decode mm_Ma_deduct.2.1 33 = .ok (.getfield 10, 3) := by decide +kernel
theorem dm_Ma_deduct_36 : decode mm_Ma_deduct.2.1 36 = .ok (.iconst 1, 1) := by decide +kernel
theorem dm_Ma_deduct_37 : decode mm_Ma_deduct.2.1 37 = .ok (.invokevirtual 57, 3) := by decide +kernel
theorem dm_Ma_deduct_40 : decode mm_Ma_deduct.2.1 40 = .ok (.astore 4, 2) := by decide +kernel
theorem dm_Ma_deduct_42 : decode mm_Ma_deduct.2.1 42 = .ok (.aload_n 0, 1) := by decide +kernel
theorem dm_Ma_deduct_43 : decode mm_Ma_deduct.2.1 43 = .ok (.iconst 2, 1) := by decide +kernel
theorem dm_Ma_deduct_44 : decode mm_Ma_deduct.2.1 44 = .ok (.aload_n 3, 1) := by decide +kernel
theorem dm_Ma_deduct_45 : decode mm_Ma_deduct.2.1 45 = .ok (.aload_n 0, 1) := by decide +kernel
theorem dm_Ma_deduct_46 : decode mm_Ma_deduct.2.1 46 = .ok (.getfield 10, 3) := by decide +kernel
theorem dm_Ma_deduct_49 : decode mm_Ma_deduct.2.1 49 = .ok (.aload 4, 2) := by decide +kernel
theorem dm_Ma_deduct_51 : decode mm_Ma_deduct.2.1 51 = .ok (.aload_n 1, 1) := by decide +kernel
theorem dm_Ma_deduct_52 : decode mm_Ma_deduct.2.1 52 = .ok (.getfield 132, 3) := by decide +kernel
theorem dm_Ma_deduct_55 : decode mm_Ma_deduct.2.1 55 = .ok (.aload_n 2, 1) := by decide +kernel
theorem dm_Ma_deduct_56 : decode mm_Ma_deduct.2.1 56 = .ok (.getfield 132, 3) := by decide +kernel
theorem dm_Ma_deduct_59 : decode mm_Ma_deduct.2.1 59 = .ok (.invokevirtual 97, 3) := by decide +kernel
theorem dm_Ma_deduct_62 : decode mm_Ma_deduct.2.1 62 = .ok (.invokevirtual 101, 3) := by decide +kernel
theorem dm_Ma_deduct_65 : decode mm_Ma_deduct.2.1 65 = .ok (.ireturn, 1) := by decide +kernel
theorem dm_Ma_hypothesesOfBoth_0 : decode mm_Ma_hypothesesOfBoth.2.1 0 = .ok (.new 43, 3) := by decide +kernel
theorem dm_Ma_hypothesesOfBoth_3 : decode mm_Ma_hypothesesOfBoth.2.1 3 = .ok (.dup, 1) := by decide +kernel
theorem dm_Ma_hypothesesOfBoth_4 : decode mm_Ma_hypothesesOfBoth.2.1 4 = .ok (.invokespecial 45, 3) := by decide +kernel
theorem dm_Ma_hypothesesOfBoth_7 : decode mm_Ma_hypothesesOfBoth.2.1 7 = .ok (.astore_n 3, 1) := by decide +kernel
theorem dm_Ma_hypothesesOfBoth_8 : decode mm_Ma_hypothesesOfBoth.2.1 8 = .ok (.aload_n 3, 1) := by decide +kernel
theorem dm_Ma_hypothesesOfBoth_9 : decode mm_Ma_hypothesesOfBoth.2.1 9 = .ok (.aload_n 1, 1) := by decide +kernel
theorem dm_Ma_hypothesesOfBoth_10 : decode mm_Ma_hypothesesOfBoth.2.1 10 = .ok (.getfield 140, 3) := by decide +kernel
theorem dm_Ma_hypothesesOfBoth_13 : decode mm_Ma_hypothesesOfBoth.2.1 13 = .ok (.invokevirtual 247, 3) := by decide +kernel
theorem dm_Ma_hypothesesOfBoth_16 : decode mm_Ma_hypothesesOfBoth.2.1 16 = .ok (.aload_n 3, 1) := by decide +kernel
theorem dm_Ma_hypothesesOfBoth_17 : decode mm_Ma_hypothesesOfBoth.2.1 17 = .ok (.aload_n 2, 1) := by decide +kernel
theorem dm_Ma_hypothesesOfBoth_18 : decode mm_Ma_hypothesesOfBoth.2.1 18 = .ok (.getfield 140, 3) := by decide +kernel
theorem dm_Ma_hypothesesOfBoth_21 : decode mm_Ma_hypothesesOfBoth.2.1 21 = .ok (.invokevirtual 247, 3) := by decide +kernel
theorem dm_Ma_hypothesesOfBoth_24 : decode mm_Ma_hypothesesOfBoth.2.1 24 = .ok (.aload_n 3, 1) := by decide +kernel
theorem dm_Ma_hypothesesOfBoth_25 : decode mm_Ma_hypothesesOfBoth.2.1 25 = .ok (.areturn, 1) := by decide +kernel
theorem dm_Ma_equationIn_0 : decode mm_Ma_equationIn.2.1 0 = .ok (.aload_n 1, 1) := by decide +kernel
theorem dm_Ma_equationIn_1 : decode mm_Ma_equationIn.2.1 1 = .ok (.iconst 0, 1) := by decide +kernel
theorem dm_Ma_equationIn_2 : decode mm_Ma_equationIn.2.1 2 = .ok (.invokevirtual 211, 3) := by decide +kernel
theorem dm_Ma_equationIn_5 : decode mm_Ma_equationIn.2.1 5 = .ok (.bipush 12, 2) := by decide +kernel
theorem dm_Ma_equationIn_7 : decode mm_Ma_equationIn.2.1 7 = .ok (.if_icmp .ne 35, 3) := by decide +kernel
theorem dm_Ma_equationIn_10 : decode mm_Ma_equationIn.2.1 10 = .ok (.aload_n 1, 1) := by decide +kernel
theorem dm_Ma_equationIn_11 : decode mm_Ma_equationIn.2.1 11 = .ok (.iconst 1, 1) := by decide +kernel
theorem dm_Ma_equationIn_12 : decode mm_Ma_equationIn.2.1 12 = .ok (.invokevirtual 211, 3) := by decide +kernel
theorem dm_Ma_equationIn_15 : decode mm_Ma_equationIn.2.1 15 = .ok (.bipush 12, 2) := by decide +kernel
theorem dm_Ma_equationIn_17 : decode mm_Ma_equationIn.2.1 17 = .ok (.if_icmp .ne 25, 3) := by decide +kernel
theorem dm_Ma_equationIn_20 : decode mm_Ma_equationIn.2.1 20 = .ok (.aload_n 1, 1) := by decide +kernel
theorem dm_Ma_equationIn_21 : decode mm_Ma_equationIn.2.1 21 = .ok (.iconst 2, 1) := by decide +kernel
theorem dm_Ma_equationIn_22 : decode mm_Ma_equationIn.2.1 22 = .ok (.invokevirtual 211, 3) := by decide +kernel
theorem dm_Ma_equationIn_25 : decode mm_Ma_equationIn.2.1 25 = .ok (.bipush 11, 2) := by decide +kernel
theorem dm_Ma_equationIn_27 : decode mm_Ma_equationIn.2.1 27 = .ok (.if_icmp .ne 15, 3) := by decide +kernel
theorem dm_Ma_equationIn_30 : decode mm_Ma_equationIn.2.1 30 = .ok (.aload_n 1, 1) := by decide +kernel
theorem dm_Ma_equationIn_31 : decode mm_Ma_equationIn.2.1 31 = .ok (.iconst 3, 1) := by decide +kernel
theorem dm_Ma_equationIn_32 : decode mm_Ma_equationIn.2.1 32 = .ok (.invokevirtual 211, 3) := by decide +kernel
theorem dm_Ma_equationIn_35 : decode mm_Ma_equationIn.2.1 35 = .ok (.ifCond .ne 7, 3) := by decide +kernel
theorem dm_Ma_equationIn_38 : decode mm_Ma_equationIn.2.1 38 = .ok (.iconst 1, 1) := by decide +kernel
theorem dm_Ma_equationIn_39 : decode mm_Ma_equationIn.2.1 39 = .ok (.goto 4, 3) := by decide +kernel
theorem dm_Ma_equationIn_42 : decode mm_Ma_equationIn.2.1 42 = .ok (.iconst 0, 1) := by decide +kernel
theorem dm_Ma_equationIn_43 : decode mm_Ma_equationIn.2.1 43 = .ok (.istore_n 2, 1) := by decide +kernel
theorem dm_Ma_equationIn_44 : decode mm_Ma_equationIn.2.1 44 = .ok (.iload_n 2, 1) := by decide +kernel
theorem dm_Ma_equationIn_45 : decode mm_Ma_equationIn.2.1 45 = .ok (.ifCond .eq 14, 3) := by decide +kernel
theorem dm_Ma_equationIn_48 : decode mm_Ma_equationIn.2.1 48 = .ok (.new 148, 3) := by decide +kernel
theorem dm_Ma_equationIn_51 : decode mm_Ma_equationIn.2.1 51 = .ok (.dup, 1) := by decide +kernel
theorem dm_Ma_equationIn_52 : decode mm_Ma_equationIn.2.1 52 = .ok (.aload_n 1, 1) := by decide +kernel
theorem dm_Ma_equationIn_53 : decode mm_Ma_equationIn.2.1 53 = .ok (.invokespecial 251, 3) := by decide +kernel
theorem dm_Ma_equationIn_56 : decode mm_Ma_equationIn.2.1 56 = .ok (.goto 4, 3) := by decide +kernel
theorem dm_Ma_equationIn_59 : decode mm_Ma_equationIn.2.1 59 = .ok (.aconst_null, 1) := by decide +kernel
theorem dm_Ma_equationIn_60 : decode mm_Ma_equationIn.2.1 60 = .ok (.areturn, 1) := by decide +kernel
theorem dm_Ma_takesArgument_0 : decode mm_Ma_takesArgument.2.1 0 = .ok (.aload_n 1, 1) := by decide +kernel
theorem dm_Ma_takesArgument_1 : decode mm_Ma_takesArgument.2.1 1 = .ok (.iconst 0, 1) := by decide +kernel
theorem dm_Ma_takesArgument_2 : decode mm_Ma_takesArgument.2.1 2 = .ok (.invokevirtual 211, 3) := by decide +kernel
theorem dm_Ma_takesArgument_5 : decode mm_Ma_takesArgument.2.1 5 = .ok (.ifCond .ne 18, 3) := by decide +kernel
theorem dm_Ma_takesArgument_8 : decode mm_Ma_takesArgument.2.1 8 = .ok (.aload_n 1, 1) := by decide +kernel
theorem dm_Ma_takesArgument_9 : decode mm_Ma_takesArgument.2.1 9 = .ok (.invokevirtual 253, 3) := by decide +kernel
theorem dm_Ma_takesArgument_12 : decode mm_Ma_takesArgument.2.1 12 = .ok (.aload_n 2, 1) := by decide +kernel
theorem dm_Ma_takesArgument_13 : decode mm_Ma_takesArgument.2.1 13 = .ok (.invokevirtual 158, 3) := by decide +kernel
theorem dm_Ma_takesArgument_16 : decode mm_Ma_takesArgument.2.1 16 = .ok (.ifCond .eq 7, 3) := by decide +kernel
theorem dm_Ma_takesArgument_19 : decode mm_Ma_takesArgument.2.1 19 = .ok (.iconst 1, 1) := by decide +kernel
theorem dm_Ma_takesArgument_20 : decode mm_Ma_takesArgument.2.1 20 = .ok (.goto 4, 3) := by decide +kernel
theorem dm_Ma_takesArgument_23 : decode mm_Ma_takesArgument.2.1 23 = .ok (.iconst 0, 1) := by decide +kernel
theorem dm_Ma_takesArgument_24 : decode mm_Ma_takesArgument.2.1 24 = .ok (.ireturn, 1) := by decide +kernel
theorem dm_Ma_finishType_0 : decode mm_Ma_finishType.2.1 0 = .ok (.aload_n 0, 1) := by decide +kernel
theorem dm_Ma_finishType_1 : decode mm_Ma_finishType.2.1 1 = .ok (.iload_n 1, 1) := by decide +kernel
theorem dm_Ma_finishType_2 : decode mm_Ma_finishType.2.1 2 = .ok (.new 31, 3) := by decide +kernel
theorem dm_Ma_finishType_5 : decode mm_Ma_finishType.2.1 5 = .ok (.dup, 1) := by decide +kernel
theorem dm_Ma_finishType_6 : decode mm_Ma_finishType.2.1 6 = .ok (.iconst 0, 1) := by decide +kernel
theorem dm_Ma_finishType_7 : decode mm_Ma_finishType.2.1 7 = .ok (.aload_n 2, 1) := by decide +kernel
theorem dm_Ma_finishType_8 : decode mm_Ma_finishType.2.1 8 = .ok (.aload_n 0, 1) := by decide +kernel
theorem dm_Ma_finishType_9 : decode mm_Ma_finishType.2.1 9 = .ok (.getfield 46, 3) := by decide +kernel
theorem dm_Ma_finishType_12 : decode mm_Ma_finishType.2.1 12 = .ok (.invokespecial 226, 3) := by decide +kernel
theorem dm_Ma_finishType_15 : decode mm_Ma_finishType.2.1 15 = .ok (.invokevirtual 182, 3) := by decide +kernel
theorem dm_Ma_finishType_18 : decode mm_Ma_finishType.2.1 18 = .ok (.ireturn, 1) := by decide +kernel
theorem dm_Ma_finishTerm_0 : decode mm_Ma_finishTerm.2.1 0 = .ok (.aload_n 0, 1) := by decide +kernel
theorem dm_Ma_finishTerm_1 : decode mm_Ma_finishTerm.2.1 1 = .ok (.iload_n 1, 1) := by decide +kernel
theorem dm_Ma_finishTerm_2 : decode mm_Ma_finishTerm.2.1 2 = .ok (.new 31, 3) := by decide +kernel
theorem dm_Ma_finishTerm_5 : decode mm_Ma_finishTerm.2.1 5 = .ok (.dup, 1) := by decide +kernel
theorem dm_Ma_finishTerm_6 : decode mm_Ma_finishTerm.2.1 6 = .ok (.iconst 1, 1) := by decide +kernel
theorem dm_Ma_finishTerm_7 : decode mm_Ma_finishTerm.2.1 7 = .ok (.aload_n 2, 1) := by decide +kernel
theorem dm_Ma_finishTerm_8 : decode mm_Ma_finishTerm.2.1 8 = .ok (.aload_n 0, 1) := by decide +kernel
theorem dm_Ma_finishTerm_9 : decode mm_Ma_finishTerm.2.1 9 = .ok (.getfield 46, 3) := by decide +kernel
theorem dm_Ma_finishTerm_12 : decode mm_Ma_finishTerm.2.1 12 = .ok (.invokespecial 226, 3) := by decide +kernel
theorem dm_Ma_finishTerm_15 : decode mm_Ma_finishTerm.2.1 15 = .ok (.invokevirtual 182, 3) := by decide +kernel
theorem dm_Ma_finishTerm_18 : decode mm_Ma_finishTerm.2.1 18 = .ok (.ireturn, 1) := by decide +kernel
theorem dm_Ma_finishTheorem_0 : decode mm_Ma_finishTheorem.2.1 0 = .ok (.aload_n 0, 1) := by decide +kernel
theorem dm_Ma_finishTheorem_1 : decode mm_Ma_finishTheorem.2.1 1 = .ok (.iload_n 1, 1) := by decide +kernel
theorem dm_Ma_finishTheorem_2 : decode mm_Ma_finishTheorem.2.1 2 = .ok (.new 31, 3) := by decide +kernel
theorem dm_Ma_finishTheorem_5 : decode mm_Ma_finishTheorem.2.1 5 = .ok (.dup, 1) := by decide +kernel
theorem dm_Ma_finishTheorem_6 : decode mm_Ma_finishTheorem.2.1 6 = .ok (.iconst 2, 1) := by decide +kernel
theorem dm_Ma_finishTheorem_7 : decode mm_Ma_finishTheorem.2.1 7 = .ok (.aload_n 3, 1) := by decide +kernel
theorem dm_Ma_finishTheorem_8 : decode mm_Ma_finishTheorem.2.1 8 = .ok (.aload_n 2, 1) := by decide +kernel
theorem dm_Ma_finishTheorem_9 : decode mm_Ma_finishTheorem.2.1 9 = .ok (.invokespecial 226, 3) := by decide +kernel
theorem dm_Ma_finishTheorem_12 : decode mm_Ma_finishTheorem.2.1 12 = .ok (.invokevirtual 182, 3) := by decide +kernel
theorem dm_Ma_finishTheorem_15 : decode mm_Ma_finishTheorem.2.1 15 = .ok (.ireturn, 1) := by decide +kernel
theorem dm_Ma_finish_0 : decode mm_Ma_finish.2.1 0 = .ok (.aload_n 2, 1) := by decide +kernel
theorem dm_Ma_finish_1 : decode mm_Ma_finish.2.1 1 = .ok (.invokevirtual 256, 3) := by decide +kernel
theorem dm_Ma_finish_4 : decode mm_Ma_finish.2.1 4 = .ok (.ifCond .eq 17, 3) := by decide +kernel
theorem dm_Ma_finish_7 : decode mm_Ma_finish.2.1 7 = .ok (.aload_n 0, 1) := by decide +kernel
theorem dm_Ma_finish_8 : decode mm_Ma_finish.2.1 8 = .ok (.getfield 21, 3) := by decide +kernel
theorem dm_Ma_finish_11 : decode mm_Ma_finish.2.1 11 = .ok (.getfield 200, 3) := by decide +kernel
theorem dm_Ma_finish_14 : decode mm_Ma_finish.2.1 14 = .ok (.iload_n 1, 1) := by decide +kernel
theorem dm_Ma_finish_15 : decode mm_Ma_finish.2.1 15 = .ok (.isub, 1) := by decide +kernel
theorem dm_Ma_finish_16 : decode mm_Ma_finish.2.1 16 = .ok (.bipush 12, 2) := by decide +kernel
theorem dm_Ma_finish_18 : decode mm_Ma_finish.2.1 18 = .ok (.if_icmp .lt 5, 3) := by decide +kernel
theorem dm_Ma_finish_21 : decode mm_Ma_finish.2.1 21 = .ok (.iconst 4, 1) := by decide +kernel
theorem dm_Ma_finish_22 : decode mm_Ma_finish.2.1 22 = .ok (.ireturn, 1) := by decide +kernel
theorem dm_Ma_finish_23 : decode mm_Ma_finish.2.1 23 = .ok (.aload_n 0, 1) := by decide +kernel
theorem dm_Ma_finish_24 : decode mm_Ma_finish.2.1 24 = .ok (.iload_n 1, 1) := by decide +kernel
theorem dm_Ma_finish_25 : decode mm_Ma_finish.2.1 25 = .ok (.invokevirtual 189, 3) := by decide +kernel
theorem dm_Ma_finish_28 : decode mm_Ma_finish.2.1 28 = .ok (.istore_n 3, 1) := by decide +kernel
theorem dm_Ma_finish_29 : decode mm_Ma_finish.2.1 29 = .ok (.iload_n 3, 1) := by decide +kernel
theorem dm_Ma_finish_30 : decode mm_Ma_finish.2.1 30 = .ok (.ifCond .ne 11, 3) := by decide +kernel
theorem dm_Ma_finish_33 : decode mm_Ma_finish.2.1 33 = .ok (.aload_n 0, 1) := by decide +kernel
theorem dm_Ma_finish_34 : decode mm_Ma_finish.2.1 34 = .ok (.getfield 21, 3) := by decide +kernel
theorem dm_Ma_finish_37 : decode mm_Ma_finish.2.1 37 = .ok (.aload_n 2, 1) := by decide +kernel
theorem dm_Ma_finish_38 : decode mm_Ma_finish.2.1 38 = .ok (.invokevirtual 197, 3) := by decide +kernel
theorem dm_Ma_finish_41 : decode mm_Ma_finish.2.1 41 = .ok (.iload_n 3, 1) := by decide +kernel
theorem dm_Ma_finish_42 : decode mm_Ma_finish.2.1 42 = .ok (.ireturn, 1) := by decide +kernel
theorem dm_Ma_finishEmptyHanded_0 : decode mm_Ma_finishEmptyHanded.2.1 0 = .ok (.aload_n 0, 1) := by decide +kernel
theorem dm_Ma_finishEmptyHanded_1 : decode mm_Ma_finishEmptyHanded.2.1 1 = .ok (.getfield 54, 3) := by decide +kernel
theorem dm_Ma_finishEmptyHanded_4 : decode mm_Ma_finishEmptyHanded.2.1 4 = .ok (.bipush 120, 2) := by decide +kernel
theorem dm_Ma_finishEmptyHanded_6 : decode mm_Ma_finishEmptyHanded.2.1 6 = .ok (.if_icmp .lt 5, 3) := by decide +kernel
theorem dm_Ma_finishEmptyHanded_9 : decode mm_Ma_finishEmptyHanded.2.1 9 = .ok (.iconst 4, 1) := by decide +kernel
theorem dm_Ma_finishEmptyHanded_10 : decode mm_Ma_finishEmptyHanded.2.1 10 = .ok (.ireturn, 1) := by decide +kernel
theorem dm_Ma_finishEmptyHanded_11 : decode mm_Ma_finishEmptyHanded.2.1 11 = .ok (.aload_n 0, 1) := by decide +kernel
theorem dm_Ma_finishEmptyHanded_12 : decode mm_Ma_finishEmptyHanded.2.1 12 = .ok (.dup, 1) := by decide +kernel
theorem dm_Ma_finishEmptyHanded_13 : decode mm_Ma_finishEmptyHanded.2.1 13 = .ok (.getfield 54, 3) := by decide +kernel
theorem dm_Ma_finishEmptyHanded_16 : decode mm_Ma_finishEmptyHanded.2.1 16 = .ok (.iconst 1, 1) := by decide +kernel
theorem dm_Ma_finishEmptyHanded_17 : decode mm_Ma_finishEmptyHanded.2.1 17 = .ok (.iadd, 1) := by decide +kernel
theorem dm_Ma_finishEmptyHanded_18 : decode mm_Ma_finishEmptyHanded.2.1 18 = .ok (.putfield 54, 3) := by decide +kernel
theorem dm_Ma_finishEmptyHanded_21 : decode mm_Ma_finishEmptyHanded.2.1 21 = .ok (.aload_n 0, 1) := by decide +kernel
theorem dm_Ma_finishEmptyHanded_22 : decode mm_Ma_finishEmptyHanded.2.1 22 = .ok (.getfield 21, 3) := by decide +kernel
theorem dm_Ma_finishEmptyHanded_25 : decode mm_Ma_finishEmptyHanded.2.1 25 = .ok (.iload_n 1, 1) := by decide +kernel
theorem dm_Ma_finishEmptyHanded_26 : decode mm_Ma_finishEmptyHanded.2.1 26 = .ok (.invokevirtual 259, 3) := by decide +kernel
theorem dm_Ma_finishEmptyHanded_29 : decode mm_Ma_finishEmptyHanded.2.1 29 = .ok (.iconst 0, 1) := by decide +kernel
theorem dm_Ma_finishEmptyHanded_30 : decode mm_Ma_finishEmptyHanded.2.1 30 = .ok (.ireturn, 1) := by decide +kernel
theorem dm_Ma_itemBelow_0 : decode mm_Ma_itemBelow.2.1 0 = .ok (.aload_n 0, 1) := by decide +kernel
theorem dm_Ma_itemBelow_1 : decode mm_Ma_itemBelow.2.1 1 = .ok (.getfield 21, 3) := by decide +kernel
theorem dm_Ma_itemBelow_4 : decode mm_Ma_itemBelow.2.1 4 = .ok (.iload_n 1, 1) := by decide +kernel
theorem dm_Ma_itemBelow_5 : decode mm_Ma_itemBelow.2.1 5 = .ok (.invokevirtual 178, 3) := by decide +kernel
theorem dm_Ma_itemBelow_8 : decode mm_Ma_itemBelow.2.1 8 = .ok (.astore_n 3, 1) := by decide +kernel
theorem dm_Ma_itemBelow_9 : decode mm_Ma_itemBelow.2.1 9 = .ok (.aload_n 3, 1) := by decide +kernel
theorem dm_Ma_itemBelow_10 : decode mm_Ma_itemBelow.2.1 10 = .ok (.ifnull 15, 3) := by decide +kernel
theorem dm_Ma_itemBelow_13 : decode mm_Ma_itemBelow.2.1 13 = .ok (.aload_n 3, 1) := by decide +kernel
theorem dm_Ma_itemBelow_14 : decode mm_Ma_itemBelow.2.1 14 = .ok (.getfield 204, 3) := by decide +kernel
theorem dm_Ma_itemBelow_17 : decode mm_Ma_itemBelow.2.1 17 = .ok (.iload_n 2, 1) := by decide +kernel
theorem dm_Ma_itemBelow_18 : decode mm_Ma_itemBelow.2.1 18 = .ok (.if_icmp .ne 7, 3) := by decide +kernel
theorem dm_Ma_itemBelow_21 : decode mm_Ma_itemBelow.2.1 21 = .ok (.aload_n 3, 1) := by decide +kernel
theorem dm_Ma_itemBelow_22 : decode mm_Ma_itemBelow.2.1 22 = .ok (.goto 4, 3) := by decide +kernel
theorem dm_Ma_itemBelow_25 : decode mm_Ma_itemBelow.2.1 25 = .ok (.aconst_null, 1) := by decide +kernel
theorem dm_Ma_itemBelow_26 : decode mm_Ma_itemBelow.2.1 26 = .ok (.areturn, 1) := by decide +kernel
theorem dm_Ma_rowBelow_0 : decode mm_Ma_rowBelow.2.1 0 = .ok (.aload_n 0, 1) := by decide +kernel
theorem dm_Ma_rowBelow_1 : decode mm_Ma_rowBelow.2.1 1 = .ok (.iload_n 1, 1) := by decide +kernel
theorem dm_Ma_rowBelow_2 : decode mm_Ma_rowBelow.2.1 2 = .ok (.iload_n 2, 1) := by decide +kernel
theorem dm_Ma_rowBelow_3 : decode mm_Ma_rowBelow.2.1 3 = .ok (.invokevirtual 118, 3) := by decide +kernel
theorem dm_Ma_rowBelow_6 : decode mm_Ma_rowBelow.2.1 6 = .ok (.astore_n 3, 1) := by decide +kernel
theorem dm_Ma_rowBelow_7 : decode mm_Ma_rowBelow.2.1 7 = .ok (.aload_n 3, 1) := by decide +kernel
theorem dm_Ma_rowBelow_8 : decode mm_Ma_rowBelow.2.1 8 = .ok (.ifnonnull 7, 3) := by decide +kernel
theorem dm_Ma_rowBelow_11 : decode mm_Ma_rowBelow.2.1 11 = .ok (.aconst_null, 1) := by decide +kernel
theorem dm_Ma_rowBelow_12 : decode mm_Ma_rowBelow.2.1 12 = .ok (.goto 7, 3) := by decide +kernel
theorem dm_Ma_rowBelow_15 : decode mm_Ma_rowBelow.2.1 15 = .ok (.aload_n 3, 1) := by decide +kernel
theorem dm_Ma_rowBelow_16 : decode mm_Ma_rowBelow.2.1 16 = .ok (.getfield 132, 3) := by decide +kernel
theorem dm_Ma_rowBelow_19 : decode mm_Ma_rowBelow.2.1 19 = .ok (.areturn, 1) := by decide +kernel
theorem dm_Ma_variableBelow_0 : decode mm_Ma_variableBelow.2.1 0 = .ok (.aload_n 0, 1) := by decide +kernel
theorem dm_Ma_variableBelow_1 : decode mm_Ma_variableBelow.2.1 1 = .ok (.iload_n 1, 1) := by decide +kernel
theorem dm_Ma_variableBelow_2 : decode mm_Ma_variableBelow.2.1 2 = .ok (.iconst 1, 1) := by decide +kernel
theorem dm_Ma_variableBelow_3 : decode mm_Ma_variableBelow.2.1 3 = .ok (.invokevirtual 65, 3) := by decide +kernel
theorem dm_Ma_variableBelow_6 : decode mm_Ma_variableBelow.2.1 6 = .ok (.astore_n 2, 1) := by decide +kernel
theorem dm_Ma_variableBelow_7 : decode mm_Ma_variableBelow.2.1 7 = .ok (.aload_n 2, 1) := by decide +kernel
theorem dm_Ma_variableBelow_8 : decode mm_Ma_variableBelow.2.1 8 = .ok (.ifnull 17, 3) := by decide +kernel
theorem dm_Ma_variableBelow_11 : decode mm_Ma_variableBelow.2.1 11 = .ok (.aload_n 2, 1) := by decide +kernel
theorem dm_Ma_variableBelow_12 : decode mm_Ma_variableBelow.2.1 12 = .ok (.iconst 0, 1) := by decide +kernel
theorem dm_Ma_variableBelow_13 : decode mm_Ma_variableBelow.2.1 13 = .ok (.invokevirtual 211, 3) := by decide +kernel
theorem dm_Ma_variableBelow_16 : decode mm_Ma_variableBelow.2.1 16 = .ok (.bipush 10, 2) := by decide +kernel
theorem dm_Ma_variableBelow_18 : decode mm_Ma_variableBelow.2.1 18 = .ok (.if_icmp .ne 7, 3) := by decide +kernel
theorem dm_Ma_variableBelow_21 : decode mm_Ma_variableBelow.2.1 21 = .ok (.aload_n 2, 1) := by decide +kernel
theorem dm_Ma_variableBelow_22 : decode mm_Ma_variableBelow.2.1 22 = .ok (.goto 4, 3) := by decide +kernel
theorem dm_Ma_variableBelow_25 : decode mm_Ma_variableBelow.2.1 25 = .ok (.aconst_null, 1) := by decide +kernel
theorem dm_Ma_variableBelow_26 : decode mm_Ma_variableBelow.2.1 26 = .ok (.areturn, 1) := by decide +kernel
theorem dm_Ma_keptFor_0 : decode mm_Ma_keptFor.2.1 0 = .ok (.iload_n 1, 1) := by decide +kernel
theorem dm_Ma_keptFor_1 : decode mm_Ma_keptFor.2.1 1 = .ok (.ifCond .lt 18, 3) := by decide +kernel
theorem dm_Ma_keptFor_4 : decode mm_Ma_keptFor.2.1 4 = .ok (.iload_n 1, 1) := by decide +kernel
theorem dm_Ma_keptFor_5 : decode mm_Ma_keptFor.2.1 5 = .ok (.bipush 6, 2) := by decide +kernel
theorem dm_Ma_keptFor_7 : decode mm_Ma_keptFor.2.1 7 = .ok (.if_icmp .ge 12, 3) := by decide +kernel
theorem dm_Ma_keptFor_10 : decode mm_Ma_keptFor.2.1 10 = .ok (.aload_n 0, 1) := by decide +kernel
theorem dm_Ma_keptFor_11 : decode mm_Ma_keptFor.2.1 11 = .ok (.getfield 33, 3) := by decide +kernel
theorem dm_Ma_keptFor_14 : decode mm_Ma_keptFor.2.1 14 = .ok (.iload_n 1, 1) := by decide +kernel
theorem dm_Ma_keptFor_15 : decode mm_Ma_keptFor.2.1 15 = .ok (.aaload, 1) := by decide +kernel
theorem dm_Ma_keptFor_16 : decode mm_Ma_keptFor.2.1 16 = .ok (.goto 4, 3) := by decide +kernel
theorem dm_Ma_keptFor_19 : decode mm_Ma_keptFor.2.1 19 = .ok (.aconst_null, 1) := by decide +kernel
theorem dm_Ma_keptFor_20 : decode mm_Ma_keptFor.2.1 20 = .ok (.areturn, 1) := by decide +kernel
theorem dm_Ma_itemAt_0 : decode mm_Ma_itemAt.2.1 0 = .ok (.iload_n 1, 1) := by decide +kernel
theorem dm_Ma_itemAt_1 : decode mm_Ma_itemAt.2.1 1 = .ok (.sipush 300, 3) := by decide +kernel
theorem dm_Ma_itemAt_4 : decode mm_Ma_itemAt.2.1 4 = .ok (.if_icmp .lt 16, 3) := by decide +kernel
theorem dm_Ma_itemAt_7 : decode mm_Ma_itemAt.2.1 7 = .ok (.aload_n 0, 1) := by decide +kernel
theorem dm_Ma_itemAt_8 : decode mm_Ma_itemAt.2.1 8 = .ok (.getfield 28, 3) := by decide +kernel
theorem dm_Ma_itemAt_11 : decode mm_Ma_itemAt.2.1 11 = .ok (.iload_n 1, 1) := by decide +kernel
theorem dm_Ma_itemAt_12 : decode mm_Ma_itemAt.2.1 12 = .ok (.sipush 300, 3) := by decide +kernel
theorem dm_Ma_itemAt_15 : decode mm_Ma_itemAt.2.1 15 = .ok (.isub, 1) := by decide +kernel
theorem dm_Ma_itemAt_16 : decode mm_Ma_itemAt.2.1 16 = .ok (.invokevirtual 262, 3) := by decide +kernel
theorem dm_Ma_itemAt_19 : decode mm_Ma_itemAt.2.1 19 = .ok (.areturn, 1) := by decide +kernel
theorem dm_Ma_itemAt_20 : decode mm_Ma_itemAt.2.1 20 = .ok (.iload_n 1, 1) := by decide +kernel
theorem dm_Ma_itemAt_21 : decode mm_Ma_itemAt.2.1 21 = .ok (.sipush 200, 3) := by decide +kernel
theorem dm_Ma_itemAt_24 : decode mm_Ma_itemAt.2.1 24 = .ok (.if_icmp .lt 16, 3) := by decide +kernel
theorem dm_Ma_itemAt_27 : decode mm_Ma_itemAt.2.1 27 = .ok (.aload_n 0, 1) := by decide +kernel
theorem dm_Ma_itemAt_28 : decode mm_Ma_itemAt.2.1 28 = .ok (.getfield 25, 3) := by decide +kernel
theorem dm_Ma_itemAt_31 : decode mm_Ma_itemAt.2.1 31 = .ok (.iload_n 1, 1) := by decide +kernel
theorem dm_Ma_itemAt_32 : decode mm_Ma_itemAt.2.1 32 = .ok (.sipush 200, 3) := by decide +kernel
theorem dm_Ma_itemAt_35 : decode mm_Ma_itemAt.2.1 35 = .ok (.isub, 1) := by decide +kernel
theorem dm_Ma_itemAt_36 : decode mm_Ma_itemAt.2.1 36 = .ok (.invokevirtual 262, 3) := by decide +kernel
theorem dm_Ma_itemAt_39 : decode mm_Ma_itemAt.2.1 39 = .ok (.areturn, 1) := by decide +kernel
theorem dm_Ma_itemAt_40 : decode mm_Ma_itemAt.2.1 40 = .ok (.iload_n 1, 1) := by decide +kernel
theorem dm_Ma_itemAt_41 : decode mm_Ma_itemAt.2.1 41 = .ok (.bipush 100, 2) := by decide +kernel
theorem dm_Ma_itemAt_43 : decode mm_Ma_itemAt.2.1 43 = .ok (.if_icmp .lt 12, 3) := by decide +kernel
theorem dm_Ma_itemAt_46 : decode mm_Ma_itemAt.2.1 46 = .ok (.aload_n 0, 1) := by decide +kernel
theorem dm_Ma_itemAt_47 : decode mm_Ma_itemAt.2.1 47 = .ok (.iload_n 1, 1) := by decide +kernel
theorem dm_Ma_itemAt_48 : decode mm_Ma_itemAt.2.1 48 = .ok (.bipush 100, 2) := by decide +kernel
theorem dm_Ma_itemAt_50 : decode mm_Ma_itemAt.2.1 50 = .ok (.isub, 1) := by decide +kernel
theorem dm_Ma_itemAt_51 : decode mm_Ma_itemAt.2.1 51 = .ok (.invokevirtual 186, 3) := by decide +kernel
theorem dm_Ma_itemAt_54 : decode mm_Ma_itemAt.2.1 54 = .ok (.areturn, 1) := by decide +kernel
theorem dm_Ma_itemAt_55 : decode mm_Ma_itemAt.2.1 55 = .ok (.aload_n 0, 1) := by decide +kernel
theorem dm_Ma_itemAt_56 : decode mm_Ma_itemAt.2.1 56 = .ok (.getfield 21, 3) := by decide +kernel
theorem dm_Ma_itemAt_59 : decode mm_Ma_itemAt.2.1 59 = .ok (.iload_n 1, 1) := by decide +kernel
theorem dm_Ma_itemAt_60 : decode mm_Ma_itemAt.2.1 60 = .ok (.invokevirtual 178, 3) := by decide +kernel
theorem dm_Ma_itemAt_63 : decode mm_Ma_itemAt.2.1 63 = .ok (.areturn, 1) := by decide +kernel
theorem dm_Ma_partAt_0 : decode mm_Ma_partAt.2.1 0 = .ok (.aload_n 0, 1) := by decide +kernel
theorem dm_Ma_partAt_1 : decode mm_Ma_partAt.2.1 1 = .ok (.iload_n 1, 1) := by decide +kernel
theorem dm_Ma_partAt_2 : decode mm_Ma_partAt.2.1 2 = .ok (.invokevirtual 201, 3) := by decide +kernel
theorem dm_Ma_partAt_5 : decode mm_Ma_partAt.2.1 5 = .ok (.astore_n 3, 1) := by decide +kernel
theorem dm_Ma_partAt_6 : decode mm_Ma_partAt.2.1 6 = .ok (.aload_n 3, 1) := by decide +kernel
theorem dm_Ma_partAt_7 : decode mm_Ma_partAt.2.1 7 = .ok (.ifnonnull 5, 3) := by decide +kernel
theorem dm_Ma_partAt_10 : decode mm_Ma_partAt.2.1 10 = .ok (.aconst_null, 1) := by decide +kernel
theorem dm_Ma_partAt_11 : decode mm_Ma_partAt.2.1 11 = .ok (.areturn, 1) := by decide +kernel
theorem dm_Ma_partAt_12 : decode mm_Ma_partAt.2.1 12 = .ok (.iload_n 2, 1) := by decide +kernel
theorem dm_Ma_partAt_13 : decode mm_Ma_partAt.2.1 13 = .ok (.ifCond .ne 10, 3) := by decide +kernel
theorem dm_Ma_partAt_16 : decode mm_Ma_partAt.2.1 16 = .ok (.aload_n 3, 1) := by decide +kernel
theorem dm_Ma_partAt_17 : decode mm_Ma_partAt.2.1 17 = .ok (.getfield 132, 3) := by decide +kernel
theorem dm_Ma_partAt_20 : decode mm_Ma_partAt.2.1 20 = .ok (.goto 13, 3) := by decide +kernel
theorem dm_Ma_partAt_23 : decode mm_Ma_partAt.2.1 23 = .ok (.aload_n 3, 1) := by decide +kernel
theorem dm_Ma_partAt_24 : decode mm_Ma_partAt.2.1 24 = .ok (.getfield 140, 3) := by decide +kernel
theorem dm_Ma_partAt_27 : decode mm_Ma_partAt.2.1 27 = .ok (.iload_n 2, 1) := by decide +kernel
theorem dm_Ma_partAt_28 : decode mm_Ma_partAt.2.1 28 = .ok (.iconst 1, 1) := by decide +kernel
theorem dm_Ma_partAt_29 : decode mm_Ma_partAt.2.1 29 = .ok (.isub, 1) := by decide +kernel
theorem dm_Ma_partAt_30 : decode mm_Ma_partAt.2.1 30 = .ok (.invokevirtual 265, 3) := by decide +kernel
theorem dm_Ma_partAt_33 : decode mm_Ma_partAt.2.1 33 = .ok (.areturn, 1) := by decide +kernel
