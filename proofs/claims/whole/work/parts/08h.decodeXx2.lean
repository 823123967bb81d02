theorem dm_Sc_equation_33 : decode mm_Sc_equation.2.1 33 = .ok (.aload_n 0, 1) := by decide +kernel
theorem dm_Sc_equation_34 : decode mm_Sc_equation.2.1 34 = .ok (.aload_n 3, 1) := by decide +kernel
theorem dm_Sc_equation_35 : decode mm_Sc_equation.2.1 35 = .ok (.invokevirtual 36, 3) := by decide +kernel
theorem dm_Sc_equation_38 : decode mm_Sc_equation.2.1 38 = .ok (.aload_n 0, 1) := by decide +kernel
theorem dm_Sc_equation_39 : decode mm_Sc_equation.2.1 39 = .ok (.invokevirtual 32, 3) := by decide +kernel
theorem dm_Sc_equation_42 : decode mm_Sc_equation.2.1 42 = .ok (.areturn, 1) := by decide +kernel
theorem dm_Sc_abstraction_0 : decode mm_Sc_abstraction.2.1 0 = .ok (.aload_n 0, 1) := by decide +kernel
theorem dm_Sc_abstraction_1 : decode mm_Sc_abstraction.2.1 1 = .ok (.bipush 13, 2) := by decide +kernel
theorem dm_Sc_abstraction_3 : decode mm_Sc_abstraction.2.1 3 = .ok (.invokevirtual 28, 3) := by decide +kernel
theorem dm_Sc_abstraction_6 : decode mm_Sc_abstraction.2.1 6 = .ok (.aload_n 0, 1) := by decide +kernel
theorem dm_Sc_abstraction_7 : decode mm_Sc_abstraction.2.1 7 = .ok (.aload_n 1, 1) := by decide +kernel
theorem dm_Sc_abstraction_8 : decode mm_Sc_abstraction.2.1 8 = .ok (.iconst 2, 1) := by decide +kernel
theorem dm_Sc_abstraction_9 : decode mm_Sc_abstraction.2.1 9 = .ok (.invokevirtual 40, 3) := by decide +kernel
theorem dm_Sc_abstraction_12 : decode mm_Sc_abstraction.2.1 12 = .ok (.invokevirtual 36, 3) := by decide +kernel
theorem dm_Sc_abstraction_15 : decode mm_Sc_abstraction.2.1 15 = .ok (.aload_n 0, 1) := by decide +kernel
theorem dm_Sc_abstraction_16 : decode mm_Sc_abstraction.2.1 16 = .ok (.getfield 18, 3) := by decide +kernel
theorem dm_Sc_abstraction_19 : decode mm_Sc_abstraction.2.1 19 = .ok (.invokevirtual 44, 3) := by decide +kernel
theorem dm_Sc_abstraction_22 : decode mm_Sc_abstraction.2.1 22 = .ok (.iconst 0, 1) := by decide +kernel
theorem dm_Sc_abstraction_23 : decode mm_Sc_abstraction.2.1 23 = .ok (.istore_n 3, 1) := by decide +kernel
theorem dm_Sc_abstraction_24 : decode mm_Sc_abstraction.2.1 24 = .ok (.iconst 0, 1) := by decide +kernel
theorem dm_Sc_abstraction_25 : decode mm_Sc_abstraction.2.1 25 = .ok (.istore 4, 2) := by decide +kernel
theorem dm_Sc_abstraction_27 : decode mm_Sc_abstraction.2.1 27 = .ok (.iload 4, 2) := by decide +kernel
theorem dm_Sc_abstraction_29 : decode mm_Sc_abstraction.2.1 29 = .ok (.aload_n 2, 1) := by decide +kernel
theorem dm_Sc_abstraction_30 : decode mm_Sc_abstraction.2.1 30 = .ok (.getfield 47, 3) := by decide +kernel
theorem dm_Sc_abstraction_33 : decode mm_Sc_abstraction.2.1 33 = .ok (.if_icmp .ge 73, 3) := by decide +kernel
theorem dm_Sc_abstraction_36 : decode mm_Sc_abstraction.2.1 36 = .ok (.aload_n 0, 1) := by decide +kernel
theorem dm_Sc_abstraction_37 : decode mm_Sc_abstraction.2.1 37 = .ok (.getfield 18, 3) := by decide +kernel
theorem dm_Sc_abstraction_40 : decode mm_Sc_abstraction.2.1 40 = .ok (.aload_n 2, 1) := by decide +kernel
theorem dm_Sc_abstraction_41 : decode mm_Sc_abstraction.2.1 41 = .ok (.iload 4, 2) := by decide +kernel
theorem dm_Sc_abstraction_43 : decode mm_Sc_abstraction.2.1 43 = .ok (.invokevirtual 51, 3) := by decide +kernel
theorem dm_Sc_abstraction_46 : decode mm_Sc_abstraction.2.1 46 = .ok (.invokevirtual 55, 3) := by decide +kernel
theorem dm_Sc_abstraction_49 : decode mm_Sc_abstraction.2.1 49 = .ok (.aload_n 2, 1) := by decide +kernel
theorem dm_Sc_abstraction_50 : decode mm_Sc_abstraction.2.1 50 = .ok (.iload 4, 2) := by decide +kernel
theorem dm_Sc_abstraction_52 : decode mm_Sc_abstraction.2.1 52 = .ok (.aload_n 1, 1) := by decide +kernel
theorem dm_Sc_abstraction_53 : decode mm_Sc_abstraction.2.1 53 = .ok (.invokevirtual 58, 3) := by decide +kernel
theorem dm_Sc_abstraction_56 : decode mm_Sc_abstraction.2.1 56 = .ok (.ifCond .eq 28, 3) := by decide +kernel
theorem dm_Sc_abstraction_59 : decode mm_Sc_abstraction.2.1 59 = .ok (.aload_n 0, 1) := by decide +kernel
theorem dm_Sc_abstraction_60 : decode mm_Sc_abstraction.2.1 60 = .ok (.bipush 20, 2) := by decide +kernel
theorem dm_Sc_abstraction_62 : decode mm_Sc_abstraction.2.1 62 = .ok (.aload_n 0, 1) := by decide +kernel
theorem dm_Sc_abstraction_63 : decode mm_Sc_abstraction.2.1 63 = .ok (.getfield 18, 3) := by decide +kernel
theorem dm_Sc_abstraction_66 : decode mm_Sc_abstraction.2.1 66 = .ok (.getfield 62, 3) := by decide +kernel
theorem dm_Sc_abstraction_69 : decode mm_Sc_abstraction.2.1 69 = .ok (.iadd, 1) := by decide +kernel
theorem dm_Sc_abstraction_70 : decode mm_Sc_abstraction.2.1 70 = .ok (.invokevirtual 28, 3) := by decide +kernel
theorem dm_Sc_abstraction_73 : decode mm_Sc_abstraction.2.1 73 = .ok (.iload 4, 2) := by decide +kernel
theorem dm_Sc_abstraction_75 : decode mm_Sc_abstraction.2.1 75 = .ok (.aload_n 1, 1) := by decide +kernel
theorem dm_Sc_abstraction_76 : decode mm_Sc_abstraction.2.1 76 = .ok (.getfield 47, 3) := by decide +kernel
theorem dm_Sc_abstraction_79 : decode mm_Sc_abstraction.2.1 79 = .ok (.iadd, 1) := by decide +kernel
theorem dm_Sc_abstraction_80 : decode mm_Sc_abstraction.2.1 80 = .ok (.istore_n 3, 1) := by decide +kernel
theorem dm_Sc_abstraction_81 : decode mm_Sc_abstraction.2.1 81 = .ok (.goto 19, 3) := by decide +kernel
theorem dm_Sc_abstraction_84 : decode mm_Sc_abstraction.2.1 84 = .ok (.iload 4, 2) := by decide +kernel
theorem dm_Sc_abstraction_86 : decode mm_Sc_abstraction.2.1 86 = .ok (.iload_n 3, 1) := by decide +kernel
theorem dm_Sc_abstraction_87 : decode mm_Sc_abstraction.2.1 87 = .ok (.if_icmp .lt 13, 3) := by decide +kernel
theorem dm_Sc_abstraction_90 : decode mm_Sc_abstraction.2.1 90 = .ok (.aload_n 0, 1) := by decide +kernel
theorem dm_Sc_abstraction_91 : decode mm_Sc_abstraction.2.1 91 = .ok (.aload_n 2, 1) := by decide +kernel
theorem dm_Sc_abstraction_92 : decode mm_Sc_abstraction.2.1 92 = .ok (.iload 4, 2) := by decide +kernel
theorem dm_Sc_abstraction_94 : decode mm_Sc_abstraction.2.1 94 = .ok (.invokevirtual 51, 3) := by decide +kernel
theorem dm_Sc_abstraction_97 : decode mm_Sc_abstraction.2.1 97 = .ok (.invokevirtual 28, 3) := by decide +kernel
theorem dm_Sc_abstraction_100 : decode mm_Sc_abstraction.2.1 100 = .ok (.iinc 4 1, 3) := by decide +kernel
theorem dm_Sc_abstraction_103 : decode mm_Sc_abstraction.2.1 103 = .ok (.goto (-76), 3) := by decide +kernel
theorem dm_Sc_abstraction_106 : decode mm_Sc_abstraction.2.1 106 = .ok (.aload_n 0, 1) := by decide +kernel
theorem dm_Sc_abstraction_107 : decode mm_Sc_abstraction.2.1 107 = .ok (.invokevirtual 32, 3) := by decide +kernel
theorem dm_Sc_abstraction_110 : decode mm_Sc_abstraction.2.1 110 = .ok (.areturn, 1) := by decide +kernel
theorem dm_Sc_replaceVariable_0 : decode mm_Sc_replaceVariable.2.1 0 = .ok (.iconst 0, 1) := by decide +kernel
theorem dm_Sc_replaceVariable_1 : decode mm_Sc_replaceVariable.2.1 1 = .ok (.istore 4, 2) := by decide +kernel
theorem dm_Sc_replaceVariable_3 : decode mm_Sc_replaceVariable.2.1 3 = .ok (.iconst 0, 1) := by decide +kernel
theorem dm_Sc_replaceVariable_4 : decode mm_Sc_replaceVariable.2.1 4 = .ok (.istore 5, 2) := by decide +kernel
theorem dm_Sc_replaceVariable_6 : decode mm_Sc_replaceVariable.2.1 6 = .ok (.iload 5, 2) := by decide +kernel
theorem dm_Sc_replaceVariable_8 : decode mm_Sc_replaceVariable.2.1 8 = .ok (.aload_n 1, 1) := by decide +kernel
theorem dm_Sc_replaceVariable_9 : decode mm_Sc_replaceVariable.2.1 9 = .ok (.getfield 47, 3) := by decide +kernel
theorem dm_Sc_replaceVariable_12 : decode mm_Sc_replaceVariable.2.1 12 = .ok (.if_icmp .ge 53, 3) := by decide +kernel
theorem dm_Sc_replaceVariable_15 : decode mm_Sc_replaceVariable.2.1 15 = .ok (.aload_n 1, 1) := by decide +kernel
theorem dm_Sc_replaceVariable_16 : decode mm_Sc_replaceVariable.2.1 16 = .ok (.iload 5, 2) := by decide +kernel
theorem dm_Sc_replaceVariable_18 : decode mm_Sc_replaceVariable.2.1 18 = .ok (.aload_n 2, 1) := by decide +kernel
theorem dm_Sc_replaceVariable_19 : decode mm_Sc_replaceVariable.2.1 19 = .ok (.invokevirtual 58, 3) := by decide +kernel
theorem dm_Sc_replaceVariable_22 : decode mm_Sc_replaceVariable.2.1 22 = .ok (.ifCond .eq 20, 3) := by decide +kernel
theorem dm_Sc_replaceVariable_25 : decode mm_Sc_replaceVariable.2.1 25 = .ok (.aload_n 0, 1) := by decide +kernel
theorem dm_Sc_replaceVariable_26 : decode mm_Sc_replaceVariable.2.1 26 = .ok (.aload_n 3, 1) := by decide +kernel
theorem dm_Sc_replaceVariable_27 : decode mm_Sc_replaceVariable.2.1 27 = .ok (.invokevirtual 36, 3) := by decide +kernel
theorem dm_Sc_replaceVariable_30 : decode mm_Sc_replaceVariable.2.1 30 = .ok (.iload 5, 2) := by decide +kernel
theorem dm_Sc_replaceVariable_32 : decode mm_Sc_replaceVariable.2.1 32 = .ok (.aload_n 2, 1) := by decide +kernel
theorem dm_Sc_replaceVariable_33 : decode mm_Sc_replaceVariable.2.1 33 = .ok (.getfield 47, 3) := by decide +kernel
theorem dm_Sc_replaceVariable_36 : decode mm_Sc_replaceVariable.2.1 36 = .ok (.iadd, 1) := by decide +kernel
theorem dm_Sc_replaceVariable_37 : decode mm_Sc_replaceVariable.2.1 37 = .ok (.istore 4, 2) := by decide +kernel
theorem dm_Sc_replaceVariable_39 : decode mm_Sc_replaceVariable.2.1 39 = .ok (.goto 20, 3) := by decide +kernel
theorem dm_Sc_replaceVariable_42 : decode mm_Sc_replaceVariable.2.1 42 = .ok (.iload 5, 2) := by decide +kernel
theorem dm_Sc_replaceVariable_44 : decode mm_Sc_replaceVariable.2.1 44 = .ok (.iload 4, 2) := by decide +kernel
theorem dm_Sc_replaceVariable_46 : decode mm_Sc_replaceVariable.2.1 46 = .ok (.if_icmp .lt 13, 3) := by decide +kernel
theorem dm_Sc_replaceVariable_49 : decode mm_Sc_replaceVariable.2.1 49 = .ok (.aload_n 0, 1) := by decide +kernel
theorem dm_Sc_replaceVariable_50 : decode mm_Sc_replaceVariable.2.1 50 = .ok (.aload_n 1, 1) := by decide +kernel
theorem dm_Sc_replaceVariable_51 : decode mm_Sc_replaceVariable.2.1 51 = .ok (.iload 5, 2) := by decide +kernel
theorem dm_Sc_replaceVariable_53 : decode mm_Sc_replaceVariable.2.1 53 = .ok (.invokevirtual 51, 3) := by decide +kernel
theorem dm_Sc_replaceVariable_56 : decode mm_Sc_replaceVariable.2.1 56 = .ok (.invokevirtual 28, 3) := by decide +kernel
theorem dm_Sc_replaceVariable_59 : decode mm_Sc_replaceVariable.2.1 59 = .ok (.iinc 5 1, 3) := by decide +kernel
theorem dm_Sc_replaceVariable_62 : decode mm_Sc_replaceVariable.2.1 62 = .ok (.goto (-56), 3) := by decide +kernel
theorem dm_Sc_replaceVariable_65 : decode mm_Sc_replaceVariable.2.1 65 = .ok (.aload_n 0, 1) := by decide +kernel
theorem dm_Sc_replaceVariable_66 : decode mm_Sc_replaceVariable.2.1 66 = .ok (.invokevirtual 32, 3) := by decide +kernel
theorem dm_Sc_replaceVariable_69 : decode mm_Sc_replaceVariable.2.1 69 = .ok (.areturn, 1) := by decide +kernel
theorem dm_Sc_replaceOutermost_0 : decode mm_Sc_replaceOutermost.2.1 0 = .ok (.aload_n 0, 1) := by decide +kernel
theorem dm_Sc_replaceOutermost_1 : decode mm_Sc_replaceOutermost.2.1 1 = .ok (.getfield 18, 3) := by decide +kernel
theorem dm_Sc_replaceOutermost_4 : decode mm_Sc_replaceOutermost.2.1 4 = .ok (.invokevirtual 44, 3) := by decide +kernel
theorem dm_Sc_replaceOutermost_7 : decode mm_Sc_replaceOutermost.2.1 7 = .ok (.iconst 0, 1) := by decide +kernel
theorem dm_Sc_replaceOutermost_8 : decode mm_Sc_replaceOutermost.2.1 8 = .ok (.istore_n 3, 1) := by decide +kernel
theorem dm_Sc_replaceOutermost_9 : decode mm_Sc_replaceOutermost.2.1 9 = .ok (.iload_n 3, 1) := by decide +kernel
theorem dm_Sc_replaceOutermost_10 : decode mm_Sc_replaceOutermost.2.1 10 = .ok (.aload_n 1, 1) := by decide +kernel
theorem dm_Sc_replaceOutermost_11 : decode mm_Sc_replaceOutermost.2.1 11 = .ok (.getfield 47, 3) := by decide +kernel
theorem dm_Sc_replaceOutermost_14 : decode mm_Sc_replaceOutermost.2.1 14 = .ok (.if_icmp .ge 56, 3) := by decide +kernel
theorem dm_Sc_replaceOutermost_17 : decode mm_Sc_replaceOutermost.2.1 17 = .ok (.aload_n 0, 1) := by decide +kernel
theorem dm_Sc_replaceOutermost_18 : decode mm_Sc_replaceOutermost.2.1 18 = .ok (.getfield 18, 3) := by decide +kernel
theorem dm_Sc_replaceOutermost_21 : decode mm_Sc_replaceOutermost.2.1 21 = .ok (.aload_n 1, 1) := by decide +kernel
theorem dm_Sc_replaceOutermost_22 : decode mm_Sc_replaceOutermost.2.1 22 = .ok (.iload_n 3, 1) := by decide +kernel
theorem dm_Sc_replaceOutermost_23 : decode mm_Sc_replaceOutermost.2.1 23 = .ok (.invokevirtual 51, 3) := by decide +kernel
theorem dm_Sc_replaceOutermost_26 : decode mm_Sc_replaceOutermost.2.1 26 = .ok (.invokevirtual 55, 3) := by decide +kernel
theorem dm_Sc_replaceOutermost_29 : decode mm_Sc_replaceOutermost.2.1 29 = .ok (.aload_n 1, 1) := by decide +kernel
theorem dm_Sc_replaceOutermost_30 : decode mm_Sc_replaceOutermost.2.1 30 = .ok (.iload_n 3, 1) := by decide +kernel
theorem dm_Sc_replaceOutermost_31 : decode mm_Sc_replaceOutermost.2.1 31 = .ok (.invokevirtual 51, 3) := by decide +kernel
theorem dm_Sc_replaceOutermost_34 : decode mm_Sc_replaceOutermost.2.1 34 = .ok (.bipush 20, 2) := by decide +kernel
theorem dm_Sc_replaceOutermost_36 : decode mm_Sc_replaceOutermost.2.1 36 = .ok (.aload_n 0, 1) := by decide +kernel
theorem dm_Sc_replaceOutermost_37 : decode mm_Sc_replaceOutermost.2.1 37 = .ok (.getfield 18, 3) := by decide +kernel
theorem dm_Sc_replaceOutermost_40 : decode mm_Sc_replaceOutermost.2.1 40 = .ok (.getfield 62, 3) := by decide +kernel
theorem dm_Sc_replaceOutermost_43 : decode mm_Sc_replaceOutermost.2.1 43 = .ok (.iadd, 1) := by decide +kernel
theorem dm_Sc_replaceOutermost_44 : decode mm_Sc_replaceOutermost.2.1 44 = .ok (.if_icmp .ne 11, 3) := by decide +kernel
theorem dm_Sc_replaceOutermost_47 : decode mm_Sc_replaceOutermost.2.1 47 = .ok (.aload_n 0, 1) := by decide +kernel
theorem dm_Sc_replaceOutermost_48 : decode mm_Sc_replaceOutermost.2.1 48 = .ok (.aload_n 2, 1) := by decide +kernel
theorem dm_Sc_replaceOutermost_49 : decode mm_Sc_replaceOutermost.2.1 49 = .ok (.invokevirtual 36, 3) := by decide +kernel
theorem dm_Sc_replaceOutermost_52 : decode mm_Sc_replaceOutermost.2.1 52 = .ok (.goto 12, 3) := by decide +kernel
theorem dm_Sc_replaceOutermost_55 : decode mm_Sc_replaceOutermost.2.1 55 = .ok (.aload_n 0, 1) := by decide +kernel
theorem dm_Sc_replaceOutermost_56 : decode mm_Sc_replaceOutermost.2.1 56 = .ok (.aload_n 1, 1) := by decide +kernel
theorem dm_Sc_replaceOutermost_57 : decode mm_Sc_replaceOutermost.2.1 57 = .ok (.iload_n 3, 1) := by decide +kernel
theorem dm_Sc_replaceOutermost_58 : decode mm_Sc_replaceOutermost.2.1 58 = .ok (.invokevirtual 51, 3) := by decide +kernel
theorem dm_Sc_replaceOutermost_61 : decode mm_Sc_replaceOutermost.2.1 61 = .ok (.invokevirtual 28, 3) := by decide +kernel
theorem dm_Sc_replaceOutermost_64 : decode mm_Sc_replaceOutermost.2.1 64 = .ok (.iinc 3 1, 3) := by decide +kernel
theorem dm_Sc_replaceOutermost_67 : decode mm_Sc_replaceOutermost.2.1 67 = .ok (.goto (-58), 3) := by decide +kernel
theorem dm_Sc_replaceOutermost_70 : decode mm_Sc_replaceOutermost.2.1 70 = .ok (.aload_n 0, 1) := by decide +kernel
theorem dm_Sc_replaceOutermost_71 : decode mm_Sc_replaceOutermost.2.1 71 = .ok (.invokevirtual 32, 3) := by decide +kernel
theorem dm_Sc_replaceOutermost_74 : decode mm_Sc_replaceOutermost.2.1 74 = .ok (.areturn, 1) := by decide +kernel
theorem dm_Sc_replaceTypeVariable_0 : decode mm_Sc_replaceTypeVariable.2.1 0 = .ok (.iconst 0, 1) := by decide +kernel
theorem dm_Sc_replaceTypeVariable_1 : decode mm_Sc_replaceTypeVariable.2.1 1 = .ok (.istore 4, 2) := by decide +kernel
theorem dm_Sc_replaceTypeVariable_3 : decode mm_Sc_replaceTypeVariable.2.1 3 = .ok (.iload 4, 2) := by decide +kernel
theorem dm_Sc_replaceTypeVariable_5 : decode mm_Sc_replaceTypeVariable.2.1 5 = .ok (.aload_n 1, 1) := by decide +kernel
theorem dm_Sc_replaceTypeVariable_6 : decode mm_Sc_replaceTypeVariable.2.1 6 = .ok (.getfield 47, 3) := by decide +kernel
theorem dm_Sc_replaceTypeVariable_9 : decode mm_Sc_replaceTypeVariable.2.1 9 = .ok (.if_icmp .ge 48, 3) := by decide +kernel
theorem dm_Sc_replaceTypeVariable_12 : decode mm_Sc_replaceTypeVariable.2.1 12 = .ok (.aload_n 1, 1) := by decide +kernel
theorem dm_Sc_replaceTypeVariable_13 : decode mm_Sc_replaceTypeVariable.2.1 13 = .ok (.iload 4, 2) := by decide +kernel
theorem dm_Sc_replaceTypeVariable_15 : decode mm_Sc_replaceTypeVariable.2.1 15 = .ok (.invokevirtual 65, 3) := by decide +kernel
theorem dm_Sc_replaceTypeVariable_18 : decode mm_Sc_replaceTypeVariable.2.1 18 = .ok (.ifCond .eq 23, 3) := by decide +kernel
theorem dm_Sc_replaceTypeVariable_21 : decode mm_Sc_replaceTypeVariable.2.1 21 = .ok (.aload_n 1, 1) := by decide +kernel
theorem dm_Sc_replaceTypeVariable_22 : decode mm_Sc_replaceTypeVariable.2.1 22 = .ok (.iload 4, 2) := by decide +kernel
theorem dm_Sc_replaceTypeVariable_24 : decode mm_Sc_replaceTypeVariable.2.1 24 = .ok (.invokevirtual 51, 3) := by decide +kernel
theorem dm_Sc_replaceTypeVariable_27 : decode mm_Sc_replaceTypeVariable.2.1 27 = .ok (.iconst 2, 1) := by decide +kernel
theorem dm_Sc_replaceTypeVariable_28 : decode mm_Sc_replaceTypeVariable.2.1 28 = .ok (.iload_n 2, 1) := by decide +kernel
theorem dm_Sc_replaceTypeVariable_29 : decode mm_Sc_replaceTypeVariable.2.1 29 = .ok (.iadd, 1) := by decide +kernel
theorem dm_Sc_replaceTypeVariable_30 : decode mm_Sc_replaceTypeVariable.2.1 30 = .ok (.if_icmp .ne 11, 3) := by decide +kernel
theorem dm_Sc_replaceTypeVariable_33 : decode mm_Sc_replaceTypeVariable.2.1 33 = .ok (.aload_n 0, 1) := by decide +kernel
theorem dm_Sc_replaceTypeVariable_34 : decode mm_Sc_replaceTypeVariable.2.1 34 = .ok (.aload_n 3, 1) := by decide +kernel
theorem dm_Sc_replaceTypeVariable_35 : decode mm_Sc_replaceTypeVariable.2.1 35 = .ok (.invokevirtual 36, 3) := by decide +kernel
theorem dm_Sc_replaceTypeVariable_38 : decode mm_Sc_replaceTypeVariable.2.1 38 = .ok (.goto 13, 3) := by decide +kernel
theorem dm_Sc_replaceTypeVariable_41 : decode mm_Sc_replaceTypeVariable.2.1 41 = .ok (.aload_n 0, 1) := by decide +kernel
theorem dm_Sc_replaceTypeVariable_42 : decode mm_Sc_replaceTypeVariable.2.1 42 = .ok (.aload_n 1, 1) := by decide +kernel
theorem dm_Sc_replaceTypeVariable_43 : decode mm_Sc_replaceTypeVariable.2.1 43 = .ok (.iload 4, 2) := by decide +kernel
theorem dm_Sc_replaceTypeVariable_45 : decode mm_Sc_replaceTypeVariable.2.1 45 = .ok (.invokevirtual 51, 3) := by decide +kernel
theorem dm_Sc_replaceTypeVariable_48 : decode mm_Sc_replaceTypeVariable.2.1 48 = .ok (.invokevirtual 28, 3) := by decide +kernel
theorem dm_Sc_replaceTypeVariable_51 : decode mm_Sc_replaceTypeVariable.2.1 51 = .ok (.iinc 4 1, 3) := by decide +kernel
theorem dm_Sc_replaceTypeVariable_54 : decode mm_Sc_replaceTypeVariable.2.1 54 = .ok (.goto (-51), 3) := by decide +kernel
theorem dm_Sc_replaceTypeVariable_57 : decode mm_Sc_replaceTypeVariable.2.1 57 = .ok (.aload_n 0, 1) := by decide +kernel
theorem dm_Sc_replaceTypeVariable_58 : decode mm_Sc_replaceTypeVariable.2.1 58 = .ok (.invokevirtual 32, 3) := by decide +kernel
theorem dm_Sc_replaceTypeVariable_61 : decode mm_Sc_replaceTypeVariable.2.1 61 = .ok (.areturn, 1) := by decide +kernel
theorem dm_Sc_typeOf_0 : decode mm_Sc_typeOf.2.1 0 = .ok (.iconst 0, 1) := by decide +kernel
theorem dm_Sc_typeOf_1 : decode mm_Sc_typeOf.2.1 1 = .ok (.istore_n 2, 1) := by decide +kernel
theorem dm_Sc_typeOf_2 : decode mm_Sc_typeOf.2.1 2 = .ok (.iconst 0, 1) := by decide +kernel
theorem dm_Sc_typeOf_3 : decode mm_Sc_typeOf.2.1 3 = .ok (.istore_n 3, 1) := by decide +kernel
theorem dm_Sc_typeOf_4 : decode mm_Sc_typeOf.2.1 4 = .ok (.iconst 0, 1) := by decide +kernel
theorem dm_Sc_typeOf_5 : decode mm_Sc_typeOf.2.1 5 = .ok (.istore 4, 2) := by decide +kernel
theorem dm_Sc_typeOf_7 : decode mm_Sc_typeOf.2.1 7 = .ok (.iload 4, 2) := by decide +kernel
theorem dm_Sc_typeOf_9 : decode mm_Sc_typeOf.2.1 9 = .ok (.aload_n 1, 1) := by decide +kernel
theorem dm_Sc_typeOf_10 : decode mm_Sc_typeOf.2.1 10 = .ok (.getfield 47, 3) := by decide +kernel
theorem dm_Sc_typeOf_13 : decode mm_Sc_typeOf.2.1 13 = .ok (.if_icmp .ge 110, 3) := by decide +kernel
theorem dm_Sc_typeOf_16 : decode mm_Sc_typeOf.2.1 16 = .ok (.aload_n 1, 1) := by decide +kernel
theorem dm_Sc_typeOf_17 : decode mm_Sc_typeOf.2.1 17 = .ok (.iload 4, 2) := by decide +kernel
theorem dm_Sc_typeOf_19 : decode mm_Sc_typeOf.2.1 19 = .ok (.invokevirtual 51, 3) := by decide +kernel
theorem dm_Sc_typeOf_22 : decode mm_Sc_typeOf.2.1 22 = .ok (.istore 5, 2) := by decide +kernel
theorem dm_Sc_typeOf_24 : decode mm_Sc_typeOf.2.1 24 = .ok (.iload 5, 2) := by decide +kernel
theorem dm_Sc_typeOf_26 : decode mm_Sc_typeOf.2.1 26 = .ok (.bipush 12, 2) := by decide +kernel
theorem dm_Sc_typeOf_28 : decode mm_Sc_typeOf.2.1 28 = .ok (.if_icmp .ne 9, 3) := by decide +kernel
theorem dm_Sc_typeOf_31 : decode mm_Sc_typeOf.2.1 31 = .ok (.iinc 2 1, 3) := by decide +kernel
theorem dm_Sc_typeOf_34 : decode mm_Sc_typeOf.2.1 34 = .ok (.goto 83, 3) := by decide +kernel
theorem dm_Sc_typeOf_37 : decode mm_Sc_typeOf.2.1 37 = .ok (.iload 5, 2) := by decide +kernel
theorem dm_Sc_typeOf_39 : decode mm_Sc_typeOf.2.1 39 = .ok (.bipush 13, 2) := by decide +kernel
theorem dm_Sc_typeOf_41 : decode mm_Sc_typeOf.2.1 41 = .ok (.if_icmp .ne 57, 3) := by decide +kernel
theorem dm_Sc_typeOf_44 : decode mm_Sc_typeOf.2.1 44 = .ok (.iload_n 3, 1) := by decide +kernel
theorem dm_Sc_typeOf_45 : decode mm_Sc_typeOf.2.1 45 = .ok (.aload_n 0, 1) := by decide +kernel
theorem dm_Sc_typeOf_46 : decode mm_Sc_typeOf.2.1 46 = .ok (.getfield 24, 3) := by decide +kernel
theorem dm_Sc_typeOf_49 : decode mm_Sc_typeOf.2.1 49 = .ok (.arraylength, 1) := by decide +kernel
theorem dm_Sc_typeOf_50 : decode mm_Sc_typeOf.2.1 50 = .ok (.if_icmp .ge 48, 3) := by decide +kernel
theorem dm_Sc_typeOf_53 : decode mm_Sc_typeOf.2.1 53 = .ok (.aload_n 0, 1) := by decide +kernel
theorem dm_Sc_typeOf_54 : decode mm_Sc_typeOf.2.1 54 = .ok (.getfield 24, 3) := by decide +kernel
theorem dm_Sc_typeOf_57 : decode mm_Sc_typeOf.2.1 57 = .ok (.iload_n 3, 1) := by decide +kernel
theorem dm_Sc_typeOf_58 : decode mm_Sc_typeOf.2.1 58 = .ok (.aload_n 1, 1) := by decide +kernel
theorem dm_Sc_typeOf_59 : decode mm_Sc_typeOf.2.1 59 = .ok (.iload 4, 2) := by decide +kernel
theorem dm_Sc_typeOf_61 : decode mm_Sc_typeOf.2.1 61 = .ok (.iconst 1, 1) := by decide +kernel
theorem dm_Sc_typeOf_62 : decode mm_Sc_typeOf.2.1 62 = .ok (.iadd, 1) := by decide +kernel
theorem dm_Sc_typeOf_63 : decode mm_Sc_typeOf.2.1 63 = .ok (.invokevirtual 40, 3) := by decide +kernel
theorem dm_Sc_typeOf_66 : decode mm_Sc_typeOf.2.1 66 = .ok (.aastore, 1) := by decide +kernel
theorem dm_Sc_typeOf_67 : decode mm_Sc_typeOf.2.1 67 = .ok (.iload_n 2, 1) := by decide +kernel
theorem dm_Sc_typeOf_68 : decode mm_Sc_typeOf.2.1 68 = .ok (.ifCond .le 9, 3) := by decide +kernel
theorem dm_Sc_typeOf_71 : decode mm_Sc_typeOf.2.1 71 = .ok (.iinc 2 (-1), 3) := by decide +kernel
theorem dm_Sc_typeOf_74 : decode mm_Sc_typeOf.2.1 74 = .ok (.goto 18, 3) := by decide +kernel
theorem dm_Sc_typeOf_77 : decode mm_Sc_typeOf.2.1 77 = .ok (.aload_n 0, 1) := by decide +kernel
theorem dm_Sc_typeOf_78 : decode mm_Sc_typeOf.2.1 78 = .ok (.iconst 0, 1) := by decide +kernel
theorem dm_Sc_typeOf_79 : decode mm_Sc_typeOf.2.1 79 = .ok (.invokevirtual 28, 3) := by decide +kernel
theorem dm_Sc_typeOf_82 : decode mm_Sc_typeOf.2.1 82 = .ok (.aload_n 0, 1) := by decide +kernel
theorem dm_Sc_typeOf_83 : decode mm_Sc_typeOf.2.1 83 = .ok (.aload_n 0, 1) := by decide +kernel
theorem dm_Sc_typeOf_84 : decode mm_Sc_typeOf.2.1 84 = .ok (.getfield 24, 3) := by decide +kernel
theorem dm_Sc_typeOf_87 : decode mm_Sc_typeOf.2.1 87 = .ok (.iload_n 3, 1) := by decide +kernel
theorem dm_Sc_typeOf_88 : decode mm_Sc_typeOf.2.1 88 = .ok (.aaload, 1) := by decide +kernel
theorem dm_Sc_typeOf_89 : decode mm_Sc_typeOf.2.1 89 = .ok (.invokevirtual 36, 3) := by decide +kernel
theorem dm_Sc_typeOf_92 : decode mm_Sc_typeOf.2.1 92 = .ok (.iinc 3 1, 3) := by decide +kernel
theorem dm_Sc_typeOf_95 : decode mm_Sc_typeOf.2.1 95 = .ok (.goto 22, 3) := by decide +kernel
theorem dm_Sc_typeOf_98 : decode mm_Sc_typeOf.2.1 98 = .ok (.iload 5, 2) := by decide +kernel
theorem dm_Sc_typeOf_100 : decode mm_Sc_typeOf.2.1 100 = .ok (.bipush 10, 2) := by decide +kernel
theorem dm_Sc_typeOf_102 : decode mm_Sc_typeOf.2.1 102 = .ok (.if_icmp .lt 15, 3) := by decide +kernel
theorem dm_Sc_typeOf_105 : decode mm_Sc_typeOf.2.1 105 = .ok (.aload_n 0, 1) := by decide +kernel
theorem dm_Sc_typeOf_106 : decode mm_Sc_typeOf.2.1 106 = .ok (.aload_n 1, 1) := by decide +kernel
theorem dm_Sc_typeOf_107 : decode mm_Sc_typeOf.2.1 107 = .ok (.iload 4, 2) := by decide +kernel
theorem dm_Sc_typeOf_109 : decode mm_Sc_typeOf.2.1 109 = .ok (.iload_n 3, 1) := by decide +kernel
theorem dm_Sc_typeOf_110 : decode mm_Sc_typeOf.2.1 110 = .ok (.iload_n 2, 1) := by decide +kernel
theorem dm_Sc_typeOf_111 : decode mm_Sc_typeOf.2.1 111 = .ok (.invokevirtual 69, 3) := by decide +kernel
theorem dm_Sc_typeOf_114 : decode mm_Sc_typeOf.2.1 114 = .ok (.goto 9, 3) := by decide +kernel
theorem dm_Sc_typeOf_117 : decode mm_Sc_typeOf.2.1 117 = .ok (.iinc 4 1, 3) := by decide +kernel
theorem dm_Sc_typeOf_120 : decode mm_Sc_typeOf.2.1 120 = .ok (.goto (-113), 3) := by decide +kernel
theorem dm_Sc_typeOf_123 : decode mm_Sc_typeOf.2.1 123 = .ok (.aload_n 0, 1) := by decide +kernel
theorem dm_Sc_typeOf_124 : decode mm_Sc_typeOf.2.1 124 = .ok (.invokevirtual 32, 3) := by decide +kernel
theorem dm_Sc_typeOf_127 : decode mm_Sc_typeOf.2.1 127 = .ok (.areturn, 1) := by decide +kernel
theorem dm_Sc_putLeafType_0 : decode mm_Sc_putLeafType.2.1 0 = .ok (.aload_n 1, 1) := by decide +kernel
theorem dm_Sc_putLeafType_1 : decode mm_Sc_putLeafType.2.1 1 = .ok (.iload_n 2, 1) := by decide +kernel
theorem dm_Sc_putLeafType_2 : decode mm_Sc_putLeafType.2.1 2 = .ok (.invokevirtual 51, 3) := by decide +kernel
theorem dm_Sc_putLeafType_5 : decode mm_Sc_putLeafType.2.1 5 = .ok (.istore 5, 2) := by decide +kernel
theorem dm_Sc_putLeafType_7 : decode mm_Sc_putLeafType.2.1 7 = .ok (.iload 5, 2) := by decide +kernel
theorem dm_Sc_putLeafType_9 : decode mm_Sc_putLeafType.2.1 9 = .ok (.bipush 11, 2) := by decide +kernel
theorem dm_Sc_putLeafType_11 : decode mm_Sc_putLeafType.2.1 11 = .ok (.if_icmp .ne 27, 3) := by decide +kernel
theorem dm_Sc_putLeafType_14 : decode mm_Sc_putLeafType.2.1 14 = .ok (.aload_n 1, 1) := by decide +kernel
theorem dm_Sc_putLeafType_15 : decode mm_Sc_putLeafType.2.1 15 = .ok (.iload_n 2, 1) := by decide +kernel
theorem dm_Sc_putLeafType_16 : decode mm_Sc_putLeafType.2.1 16 = .ok (.iconst 1, 1) := by decide +kernel
theorem dm_Sc_putLeafType_17 : decode mm_Sc_putLeafType.2.1 17 = .ok (.iadd, 1) := by decide +kernel
theorem dm_Sc_putLeafType_18 : decode mm_Sc_putLeafType.2.1 18 = .ok (.invokevirtual 51, 3) := by decide +kernel
theorem dm_Sc_putLeafType_21 : decode mm_Sc_putLeafType.2.1 21 = .ok (.ifCond .ne 17, 3) := by decide +kernel
theorem dm_Sc_putLeafType_24 : decode mm_Sc_putLeafType.2.1 24 = .ok (.aload_n 0, 1) := by decide +kernel
theorem dm_Sc_putLeafType_25 : decode mm_Sc_putLeafType.2.1 25 = .ok (.aload_n 1, 1) := by decide +kernel
theorem dm_Sc_putLeafType_26 : decode mm_Sc_putLeafType.2.1 26 = .ok (.iload_n 2, 1) := by decide +kernel
theorem dm_Sc_putLeafType_27 : decode mm_Sc_putLeafType.2.1 27 = .ok (.iconst 2, 1) := by decide +kernel
theorem dm_Sc_putLeafType_28 : decode mm_Sc_putLeafType.2.1 28 = .ok (.iadd, 1) := by decide +kernel
theorem dm_Sc_putLeafType_29 : decode mm_Sc_putLeafType.2.1 29 = .ok (.invokevirtual 40, 3) := by decide +kernel
theorem dm_Sc_putLeafType_32 : decode mm_Sc_putLeafType.2.1 32 = .ok (.iload 4, 2) := by decide +kernel
theorem dm_Sc_putLeafType_34 : decode mm_Sc_putLeafType.2.1 34 = .ok (.invokevirtual 73, 3) := by decide +kernel
theorem dm_Sc_putLeafType_37 : decode mm_Sc_putLeafType.2.1 37 = .ok (.return_, 1) := by decide +kernel
theorem dm_Sc_putLeafType_38 : decode mm_Sc_putLeafType.2.1 38 = .ok (.iload_n 3, 1) := by decide +kernel
theorem dm_Sc_putLeafType_39 : decode mm_Sc_putLeafType.2.1 39 = .ok (.iconst 1, 1) := by decide +kernel
theorem dm_Sc_putLeafType_40 : decode mm_Sc_putLeafType.2.1 40 = .ok (.isub, 1) := by decide +kernel
theorem dm_Sc_putLeafType_41 : decode mm_Sc_putLeafType.2.1 41 = .ok (.iload 5, 2) := by decide +kernel
theorem dm_Sc_putLeafType_43 : decode mm_Sc_putLeafType.2.1 43 = .ok (.bipush 20, 2) := by decide +kernel
theorem dm_Sc_putLeafType_45 : decode mm_Sc_putLeafType.2.1 45 = .ok (.isub, 1) := by decide +kernel
theorem dm_Sc_putLeafType_46 : decode mm_Sc_putLeafType.2.1 46 = .ok (.isub, 1) := by decide +kernel
theorem dm_Sc_putLeafType_47 : decode mm_Sc_putLeafType.2.1 47 = .ok (.istore 6, 2) := by decide +kernel
theorem dm_Sc_putLeafType_49 : decode mm_Sc_putLeafType.2.1 49 = .ok (.iload 5, 2) := by decide +kernel
theorem dm_Sc_putLeafType_51 : decode mm_Sc_putLeafType.2.1 51 = .ok (.bipush 20, 2) := by decide +kernel
theorem dm_Sc_putLeafType_53 : decode mm_Sc_putLeafType.2.1 53 = .ok (.if_icmp .lt 12, 3) := by decide +kernel
theorem dm_Sc_putLeafType_56 : decode mm_Sc_putLeafType.2.1 56 = .ok (.iload 6, 2) := by decide +kernel
theorem dm_Sc_putLeafType_58 : decode mm_Sc_putLeafType.2.1 58 = .ok (.ifCond .lt 7, 3) := by decide +kernel
theorem dm_Sc_putLeafType_61 : decode mm_Sc_putLeafType.2.1 61 = .ok (.iconst 1, 1) := by decide +kernel
theorem dm_Sc_putLeafType_62 : decode mm_Sc_putLeafType.2.1 62 = .ok (.goto 4, 3) := by decide +kernel
theorem dm_Sc_putLeafType_65 : decode mm_Sc_putLeafType.2.1 65 = .ok (.iconst 0, 1) := by decide +kernel
theorem dm_Sc_putLeafType_66 : decode mm_Sc_putLeafType.2.1 66 = .ok (.istore 7, 2) := by decide +kernel
theorem dm_Sc_putLeafType_68 : decode mm_Sc_putLeafType.2.1 68 = .ok (.iload 7, 2) := by decide +kernel
theorem dm_Sc_putLeafType_70 : decode mm_Sc_putLeafType.2.1 70 = .ok (.ifCond .eq 13, 3) := by decide +kernel
theorem dm_Sc_putLeafType_73 : decode mm_Sc_putLeafType.2.1 73 = .ok (.aload_n 0, 1) := by decide +kernel
theorem dm_Sc_putLeafType_74 : decode mm_Sc_putLeafType.2.1 74 = .ok (.getfield 24, 3) := by decide +kernel
theorem dm_Sc_putLeafType_77 : decode mm_Sc_putLeafType.2.1 77 = .ok (.iload 6, 2) := by decide +kernel
theorem dm_Sc_putLeafType_79 : decode mm_Sc_putLeafType.2.1 79 = .ok (.aaload, 1) := by decide +kernel
theorem dm_Sc_putLeafType_80 : decode mm_Sc_putLeafType.2.1 80 = .ok (.goto 10, 3) := by decide +kernel
theorem dm_Sc_putLeafType_83 : decode mm_Sc_putLeafType.2.1 83 = .ok (.aload_n 1, 1) := by decide +kernel
theorem dm_Sc_putLeafType_84 : decode mm_Sc_putLeafType.2.1 84 = .ok (.iload_n 2, 1) := by decide +kernel
theorem dm_Sc_putLeafType_85 : decode mm_Sc_putLeafType.2.1 85 = .ok (.iconst 2, 1) := by decide +kernel
theorem dm_Sc_putLeafType_86 : decode mm_Sc_putLeafType.2.1 86 = .ok (.iadd, 1) := by decide +kernel
theorem dm_Sc_putLeafType_87 : decode mm_Sc_putLeafType.2.1 87 = .ok (.invokevirtual 40, 3) := by decide +kernel
theorem dm_Sc_putLeafType_90 : decode mm_Sc_putLeafType.2.1 90 = .ok (.astore 8, 2) := by decide +kernel
theorem dm_Sc_putLeafType_92 : decode mm_Sc_putLeafType.2.1 92 = .ok (.iconst 0, 1) := by decide +kernel
theorem dm_Sc_putLeafType_93 : decode mm_Sc_putLeafType.2.1 93 = .ok (.istore 9, 2) := by decide +kernel
theorem dm_Sc_putLeafType_95 : decode mm_Sc_putLeafType.2.1 95 = .ok (.iload 9, 2) := by decide +kernel
theorem dm_Sc_putLeafType_97 : decode mm_Sc_putLeafType.2.1 97 = .ok (.iload 4, 2) := by decide +kernel
theorem dm_Sc_putLeafType_99 : decode mm_Sc_putLeafType.2.1 99 = .ok (.if_icmp .ge 16, 3) := by decide +kernel
theorem dm_Sc_putLeafType_102 : decode mm_Sc_putLeafType.2.1 102 = .ok (.aload 8, 2) := by decide +kernel
theorem dm_Sc_putLeafType_104 : decode mm_Sc_putLeafType.2.1 104 = .ok (.invokevirtual 77, 3) := by decide +kernel
theorem dm_Sc_putLeafType_107 : decode mm_Sc_putLeafType.2.1 107 = .ok (.astore 8, 2) := by decide +kernel
theorem dm_Sc_putLeafType_109 : decode mm_Sc_putLeafType.2.1 109 = .ok (.iinc 9 1, 3) := by decide +kernel
theorem dm_Sc_putLeafType_112 : decode mm_Sc_putLeafType.2.1 112 = .ok (.goto (-17), 3) := by decide +kernel
theorem dm_Sc_putLeafType_115 : decode mm_Sc_putLeafType.2.1 115 = .ok (.aload_n 0, 1) := by decide +kernel
theorem dm_Sc_putLeafType_116 : decode mm_Sc_putLeafType.2.1 116 = .ok (.aload 8, 2) := by decide +kernel
theorem dm_Sc_putLeafType_118 : decode mm_Sc_putLeafType.2.1 118 = .ok (.invokevirtual 36, 3) := by decide +kernel
theorem dm_Sc_putLeafType_121 : decode mm_Sc_putLeafType.2.1 121 = .ok (.return_, 1) := by decide +kernel
theorem dm_Sc_putEqualType_0 : decode mm_Sc_putEqualType.2.1 0 = .ok (.iload_n 2, 1) := by decide +kernel
theorem dm_Sc_putEqualType_1 : decode mm_Sc_putEqualType.2.1 1 = .ok (.istore_n 3, 1) := by decide +kernel
theorem dm_Sc_putEqualType_2 : decode mm_Sc_putEqualType.2.1 2 = .ok (.iload_n 3, 1) := by decide +kernel
theorem dm_Sc_putEqualType_3 : decode mm_Sc_putEqualType.2.1 3 = .ok (.iconst 2, 1) := by decide +kernel
theorem dm_Sc_putEqualType_4 : decode mm_Sc_putEqualType.2.1 4 = .ok (.if_icmp .ge 19, 3) := by decide +kernel
theorem dm_Sc_putEqualType_7 : decode mm_Sc_putEqualType.2.1 7 = .ok (.aload_n 0, 1) := by decide +kernel
theorem dm_Sc_putEqualType_8 : decode mm_Sc_putEqualType.2.1 8 = .ok (.iconst 0, 1) := by decide +kernel
theorem dm_Sc_putEqualType_9 : decode mm_Sc_putEqualType.2.1 9 = .ok (.invokevirtual 28, 3) := by decide +kernel
theorem dm_Sc_putEqualType_12 : decode mm_Sc_putEqualType.2.1 12 = .ok (.aload_n 0, 1) := by decide +kernel
theorem dm_Sc_putEqualType_13 : decode mm_Sc_putEqualType.2.1 13 = .ok (.aload_n 1, 1) := by decide +kernel
theorem dm_Sc_putEqualType_14 : decode mm_Sc_putEqualType.2.1 14 = .ok (.invokevirtual 36, 3) := by decide +kernel
theorem dm_Sc_putEqualType_17 : decode mm_Sc_putEqualType.2.1 17 = .ok (.iinc 3 1, 3) := by decide +kernel
theorem dm_Sc_putEqualType_20 : decode mm_Sc_putEqualType.2.1 20 = .ok (.goto (-18), 3) := by decide +kernel
theorem dm_Sc_putEqualType_23 : decode mm_Sc_putEqualType.2.1 23 = .ok (.aload_n 0, 1) := by decide +kernel
theorem dm_Sc_putEqualType_24 : decode mm_Sc_putEqualType.2.1 24 = .ok (.iconst 1, 1) := by decide +kernel
theorem dm_Sc_putEqualType_25 : decode mm_Sc_putEqualType.2.1 25 = .ok (.invokevirtual 28, 3) := by decide +kernel
theorem dm_Sc_putEqualType_28 : decode mm_Sc_putEqualType.2.1 28 = .ok (.return_, 1) := by decide +kernel
theorem dm_Sc_put_0 : decode mm_Sc_put.2.1 0 = .ok (.aload_n 0, 1) := by decide +kernel
theorem dm_Sc_put_1 : decode mm_Sc_put.2.1 1 = .ok (.getfield 80, 3) := by decide +kernel
theorem dm_Sc_put_4 : decode mm_Sc_put.2.1 4 = .ok (.aload_n 0, 1) := by decide +kernel
theorem dm_Sc_put_5 : decode mm_Sc_put.2.1 5 = .ok (.getfield 9, 3) := by decide +kernel
theorem dm_Sc_put_8 : decode mm_Sc_put.2.1 8 = .ok (.arraylength, 1) := by decide +kernel
theorem dm_Sc_put_9 : decode mm_Sc_put.2.1 9 = .ok (.if_icmp .ge 23, 3) := by decide +kernel
theorem dm_Sc_put_12 : decode mm_Sc_put.2.1 12 = .ok (.aload_n 0, 1) := by decide +kernel
theorem dm_Sc_put_13 : decode mm_Sc_put.2.1 13 = .ok (.getfield 9, 3) := by decide +kernel
theorem dm_Sc_put_16 : decode mm_Sc_put.2.1 16 = .ok (.aload_n 0, 1) := by decide +kernel
theorem dm_Sc_put_17 : decode mm_Sc_put.2.1 17 = .ok (.getfield 80, 3) := by decide +kernel
theorem dm_Sc_put_20 : decode mm_Sc_put.2.1 20 = .ok (.iload_n 1, 1) := by decide +kernel
theorem dm_Sc_put_21 : decode mm_Sc_put.2.1 21 = .ok (.iastore, 1) := by decide +kernel
theorem dm_Sc_put_22 : decode mm_Sc_put.2.1 22 = .ok (.aload_n 0, 1) := by decide +kernel
theorem dm_Sc_put_23 : decode mm_Sc_put.2.1 23 = .ok (.dup, 1) := by decide +kernel
theorem dm_Sc_put_24 : decode mm_Sc_put.2.1 24 = .ok (.getfield 80, 3) := by decide +kernel
theorem dm_Sc_put_27 : decode mm_Sc_put.2.1 27 = .ok (.iconst 1, 1) := by decide +kernel
theorem dm_Sc_put_28 : decode mm_Sc_put.2.1 28 = .ok (.iadd, 1) := by decide +kernel
theorem dm_Sc_put_29 : decode mm_Sc_put.2.1 29 = .ok (.putfield 80, 3) := by decide +kernel
theorem dm_Sc_put_32 : decode mm_Sc_put.2.1 32 = .ok (.return_, 1) := by decide +kernel
theorem dm_Sc_putRow_0 : decode mm_Sc_putRow.2.1 0 = .ok (.iconst 0, 1) := by decide +kernel
theorem dm_Sc_putRow_1 : decode mm_Sc_putRow.2.1 1 = .ok (.istore_n 2, 1) := by decide +kernel
theorem dm_Sc_putRow_2 : decode mm_Sc_putRow.2.1 2 = .ok (.iload_n 2, 1) := by decide +kernel
theorem dm_Sc_putRow_3 : decode mm_Sc_putRow.2.1 3 = .ok (.aload_n 1, 1) := by decide +kernel
theorem dm_Sc_putRow_4 : decode mm_Sc_putRow.2.1 4 = .ok (.getfield 47, 3) := by decide +kernel
theorem dm_Sc_putRow_7 : decode mm_Sc_putRow.2.1 7 = .ok (.if_icmp .ge 18, 3) := by decide +kernel
theorem dm_Sc_putRow_10 : decode mm_Sc_putRow.2.1 10 = .ok (.aload_n 0, 1) := by decide +kernel
theorem dm_Sc_putRow_11 : decode mm_Sc_putRow.2.1 11 = .ok (.aload_n 1, 1) := by decide +kernel
theorem dm_Sc_putRow_12 : decode mm_Sc_putRow.2.1 12 = .ok (.iload_n 2, 1) := by decide +kernel
theorem dm_Sc_putRow_13 : decode mm_Sc_putRow.2.1 13 = .ok (.invokevirtual 51, 3) := by decide +kernel
theorem dm_Sc_putRow_16 : decode mm_Sc_putRow.2.1 16 = .ok (.invokevirtual 28, 3) := by decide +kernel
theorem dm_Sc_putRow_19 : decode mm_Sc_putRow.2.1 19 = .ok (.iinc 2 1, 3) := by decide +kernel
theorem dm_Sc_putRow_22 : decode mm_Sc_putRow.2.1 22 = .ok (.goto (-20), 3) := by decide +kernel
theorem dm_Sc_putRow_25 : decode mm_Sc_putRow.2.1 25 = .ok (.return_, 1) := by decide +kernel
theorem dm_Sc_finishedRow_0 : decode mm_Sc_finishedRow.2.1 0 = .ok (.new 22, 3) := by decide +kernel
theorem dm_Sc_finishedRow_3 : decode mm_Sc_finishedRow.2.1 3 = .ok (.dup, 1) := by decide +kernel
theorem dm_Sc_finishedRow_4 : decode mm_Sc_finishedRow.2.1 4 = .ok (.aload_n 0, 1) := by decide +kernel
theorem dm_Sc_finishedRow_5 : decode mm_Sc_finishedRow.2.1 5 = .ok (.getfield 9, 3) := by decide +kernel
theorem dm_Sc_finishedRow_8 : decode mm_Sc_finishedRow.2.1 8 = .ok (.aload_n 0, 1) := by decide +kernel
theorem dm_Sc_finishedRow_9 : decode mm_Sc_finishedRow.2.1 9 = .ok (.getfield 80, 3) := by decide +kernel
theorem dm_Sc_finishedRow_12 : decode mm_Sc_finishedRow.2.1 12 = .ok (.invokestatic 83, 3) := by decide +kernel
theorem dm_Sc_finishedRow_15 : decode mm_Sc_finishedRow.2.1 15 = .ok (.iconst 0, 1) := by decide +kernel
theorem dm_Sc_finishedRow_16 : decode mm_Sc_finishedRow.2.1 16 = .ok (.aload_n 0, 1) := by decide +kernel
theorem dm_Sc_finishedRow_17 : decode mm_Sc_finishedRow.2.1 17 = .ok (.getfield 80, 3) := by decide +kernel
theorem dm_Sc_finishedRow_20 : decode mm_Sc_finishedRow.2.1 20 = .ok (.invokespecial 89, 3) := by decide +kernel
theorem dm_Sc_finishedRow_23 : decode mm_Sc_finishedRow.2.1 23 = .ok (.astore_n 1, 1) := by decide +kernel
theorem dm_Sc_finishedRow_24 : decode mm_Sc_finishedRow.2.1 24 = .ok (.aload_n 0, 1) := by decide +kernel
theorem dm_Sc_finishedRow_25 : decode mm_Sc_finishedRow.2.1 25 = .ok (.iconst 0, 1) := by decide +kernel
theorem dm_Sc_finishedRow_26 : decode mm_Sc_finishedRow.2.1 26 = .ok (.putfield 80, 3) := by decide +kernel
theorem dm_Sc_finishedRow_29 : decode mm_Sc_finishedRow.2.1 29 = .ok (.aload_n 1, 1) := by decide +kernel
theorem dm_Sc_finishedRow_30 : decode mm_Sc_finishedRow.2.1 30 = .ok (.areturn, 1) := by decide +kernel
theorem dm_Sh_init_0 : decode mm_Sh_init.2.1 0 = .ok (.aload_n 0, 1) := by decide +kernel
theorem dm_Sh_init_1 : decode mm_Sh_init.2.1 1 = .ok (.invokespecial 1, 3) := by decide +kernel
theorem dm_Sh_init_4 : decode mm_Sh_init.2.1 4 = .ok (.aload_n 0, 1) := by decide +kernel
theorem dm_Sh_init_5 : decode mm_Sh_init.2.1 5 = .ok (.iload_n 1, 1) := by decide +kernel
theorem dm_Sh_init_6 : decode mm_Sh_init.2.1 6 = .ok (.anewarray 7, 3) := by decide +kernel
theorem dm_Sh_init_9 : decode mm_Sh_init.2.1 9 = .ok (.putfield 9, 3) := by decide +kernel
theorem dm_Sh_init_12 : decode mm_Sh_init.2.1 12 = .ok (.return_, 1) := by decide +kernel
theorem dm_Sh_isFull_0 : decode mm_Sh_isFull.2.1 0 = .ok (.aload_n 0, 1) := by decide +kernel
theorem dm_Sh_isFull_1 : decode mm_Sh_isFull.2.1 1 = .ok (.getfield 15, 3) := by decide +kernel
theorem dm_Sh_isFull_4 : decode mm_Sh_isFull.2.1 4 = .ok (.aload_n 0, 1) := by decide +kernel
theorem dm_Sh_isFull_5 : decode mm_Sh_isFull.2.1 5 = .ok (.getfield 9, 3) := by decide +kernel
theorem dm_Sh_isFull_8 : decode mm_Sh_isFull.2.1 8 = .ok (.arraylength, 1) := by decide +kernel
theorem dm_Sh_isFull_9 : decode mm_Sh_isFull.2.1 9 = .ok (.if_icmp .lt 7, 3) := by decide +kernel
theorem dm_Sh_isFull_12 : decode mm_Sh_isFull.2.1 12 = .ok (.iconst 1, 1) := by decide +kernel
theorem dm_Sh_isFull_13 : decode mm_Sh_isFull.2.1 13 = .ok (.goto 4, 3) := by decide +kernel
theorem dm_Sh_isFull_16 : decode mm_Sh_isFull.2.1 16 = .ok (.iconst 0, 1) := by decide +kernel
theorem dm_Sh_isFull_17 : decode mm_Sh_isFull.2.1 17 = .ok (.ireturn, 1) := by decide +kernel
theorem dm_Sh_get_0 : decode mm_Sh_get.2.1 0 = .ok (.iload_n 1, 1) := by decide +kernel
theorem dm_Sh_get_1 : decode mm_Sh_get.2.1 1 = .ok (.ifCond .lt 20, 3) := by decide +kernel
theorem dm_Sh_get_4 : decode mm_Sh_get.2.1 4 = .ok (.iload_n 1, 1) := by decide +kernel
theorem dm_Sh_get_5 : decode mm_Sh_get.2.1 5 = .ok (.aload_n 0, 1) := by decide +kernel
theorem dm_Sh_get_6 : decode mm_Sh_get.2.1 6 = .ok (.getfield 15, 3) := by decide +kernel
theorem dm_Sh_get_9 : decode mm_Sh_get.2.1 9 = .ok (.if_icmp .ge 12, 3) := by decide +kernel
theorem dm_Sh_get_12 : decode mm_Sh_get.2.1 12 = .ok (.aload_n 0, 1) := by decide +kernel
theorem dm_Sh_get_13 : decode mm_Sh_get.2.1 13 = .ok (.getfield 9, 3) := by decide +kernel
theorem dm_Sh_get_16 : decode mm_Sh_get.2.1 16 = .ok (.iload_n 1, 1) := by decide +kernel
theorem dm_Sh_get_17 : decode mm_Sh_get.2.1 17 = .ok (.aaload, 1) := by decide +kernel
theorem dm_Sh_get_18 : decode mm_Sh_get.2.1 18 = .ok (.goto 4, 3) := by decide +kernel
theorem dm_Sh_get_21 : decode mm_Sh_get.2.1 21 = .ok (.aconst_null, 1) := by decide +kernel
theorem dm_Sh_get_22 : decode mm_Sh_get.2.1 22 = .ok (.areturn, 1) := by decide +kernel
theorem dm_Sh_below_0 : decode mm_Sh_below.2.1 0 = .ok (.iload_n 1, 1) := by decide +kernel
theorem dm_Sh_below_1 : decode mm_Sh_below.2.1 1 = .ok (.ifCond .lt 27, 3) := by decide +kernel
theorem dm_Sh_below_4 : decode mm_Sh_below.2.1 4 = .ok (.iload_n 1, 1) := by decide +kernel
theorem dm_Sh_below_5 : decode mm_Sh_below.2.1 5 = .ok (.aload_n 0, 1) := by decide +kernel
theorem dm_Sh_below_6 : decode mm_Sh_below.2.1 6 = .ok (.getfield 15, 3) := by decide +kernel
theorem dm_Sh_below_9 : decode mm_Sh_below.2.1 9 = .ok (.if_icmp .ge 19, 3) := by decide +kernel
theorem dm_Sh_below_12 : decode mm_Sh_below.2.1 12 = .ok (.aload_n 0, 1) := by decide +kernel
theorem dm_Sh_below_13 : decode mm_Sh_below.2.1 13 = .ok (.getfield 9, 3) := by decide +kernel
theorem dm_Sh_below_16 : decode mm_Sh_below.2.1 16 = .ok (.aload_n 0, 1) := by decide +kernel
theorem dm_Sh_below_17 : decode mm_Sh_below.2.1 17 = .ok (.getfield 15, 3) := by decide +kernel
theorem dm_Sh_below_20 : decode mm_Sh_below.2.1 20 = .ok (.iconst 1, 1) := by decide +kernel
theorem dm_Sh_below_21 : decode mm_Sh_below.2.1 21 = .ok (.isub, 1) := by decide +kernel
theorem dm_Sh_below_22 : decode mm_Sh_below.2.1 22 = .ok (.iload_n 1, 1) := by decide +kernel
theorem dm_Sh_below_23 : decode mm_Sh_below.2.1 23 = .ok (.isub, 1) := by decide +kernel
theorem dm_Sh_below_24 : decode mm_Sh_below.2.1 24 = .ok (.aaload, 1) := by decide +kernel
theorem dm_Sh_below_25 : decode mm_Sh_below.2.1 25 = .ok (.goto 4, 3) := by decide +kernel
theorem dm_Sh_below_28 : decode mm_Sh_below.2.1 28 = .ok (.aconst_null, 1) := by decide +kernel
theorem dm_Sh_below_29 : decode mm_Sh_below.2.1 29 = .ok (.areturn, 1) := by decide +kernel
theorem dm_Sh_add_0 : decode mm_Sh_add.2.1 0 = .ok (.aload_n 0, 1) := by decide +kernel
theorem dm_Sh_add_1 : decode mm_Sh_add.2.1 1 = .ok (.getfield 15, 3) := by decide +kernel
theorem dm_Sh_add_4 : decode mm_Sh_add.2.1 4 = .ok (.aload_n 0, 1) := by decide +kernel
theorem dm_Sh_add_5 : decode mm_Sh_add.2.1 5 = .ok (.getfield 9, 3) := by decide +kernel
theorem dm_Sh_add_8 : decode mm_Sh_add.2.1 8 = .ok (.arraylength, 1) := by decide +kernel
theorem dm_Sh_add_9 : decode mm_Sh_add.2.1 9 = .ok (.if_icmp .ge 23, 3) := by decide +kernel
theorem dm_Sh_add_12 : decode mm_Sh_add.2.1 12 = .ok (.aload_n 0, 1) := by decide +kernel
theorem dm_Sh_add_13 : decode mm_Sh_add.2.1 13 = .ok (.getfield 9, 3) := by decide +kernel
theorem dm_Sh_add_16 : decode mm_Sh_add.2.1 16 = .ok (.aload_n 0, 1) := by decide +kernel
theorem dm_Sh_add_17 : decode mm_Sh_add.2.1 17 = .ok (.getfield 15, 3) := by decide +kernel
theorem dm_Sh_add_20 : decode mm_Sh_add.2.1 20 = .ok (.aload_n 1, 1) := by decide +kernel
theorem dm_Sh_add_21 : decode mm_Sh_add.2.1 21 = .ok (.aastore, 1) := by decide +kernel
theorem dm_Sh_add_22 : decode mm_Sh_add.2.1 22 = .ok (.aload_n 0, 1) := by decide +kernel
theorem dm_Sh_add_23 : decode mm_Sh_add.2.1 23 = .ok (.dup, 1) := by decide +kernel
theorem dm_Sh_add_24 : decode mm_Sh_add.2.1 24 = .ok (.getfield 15, 3) := by decide +kernel
theorem dm_Sh_add_27 : decode mm_Sh_add.2.1 27 = .ok (.iconst 1, 1) := by decide +kernel
theorem dm_Sh_add_28 : decode mm_Sh_add.2.1 28 = .ok (.iadd, 1) := by decide +kernel
theorem dm_Sh_add_29 : decode mm_Sh_add.2.1 29 = .ok (.putfield 15, 3) := by decide +kernel
theorem dm_Sh_add_32 : decode mm_Sh_add.2.1 32 = .ok (.return_, 1) := by decide +kernel
theorem dm_Sh_drop_0 : decode mm_Sh_drop.2.1 0 = .ok (.aload_n 0, 1) := by decide +kernel
theorem dm_Sh_drop_1 : decode mm_Sh_drop.2.1 1 = .ok (.iconst 0, 1) := by decide +kernel
theorem dm_Sh_drop_2 : decode mm_Sh_drop.2.1 2 = .ok (.aload_n 0, 1) := by decide +kernel
theorem dm_Sh_drop_3 : decode mm_Sh_drop.2.1 3 = .ok (.getfield 15, 3) := by decide +kernel
theorem dm_Sh_drop_6 : decode mm_Sh_drop.2.1 6 = .ok (.iload_n 1, 1) := by decide +kernel
theorem dm_Sh_drop_7 : decode mm_Sh_drop.2.1 7 = .ok (.isub, 1) := by decide +kernel
theorem dm_Sh_drop_8 : decode mm_Sh_drop.2.1 8 = .ok (.invokestatic 19, 3) := by decide +kernel
theorem dm_Sh_drop_11 : decode mm_Sh_drop.2.1 11 = .ok (.putfield 15, 3) := by decide +kernel
theorem dm_Sh_drop_14 : decode mm_Sh_drop.2.1 14 = .ok (.return_, 1) := by decide +kernel
theorem dm_Ar_copyOf_0 : decode mm_Ar_copyOf.2.1 0 = .ok (.iload_n 1, 1) := by decide +kernel
theorem dm_Ar_copyOf_1 : decode mm_Ar_copyOf.2.1 1 = .ok (.aload_n 0, 1) := by decide +kernel
theorem dm_Ar_copyOf_2 : decode mm_Ar_copyOf.2.1 2 = .ok (.arraylength, 1) := by decide +kernel
theorem dm_Ar_copyOf_3 : decode mm_Ar_copyOf.2.1 3 = .ok (.if_icmp .ne 11, 3) := by decide +kernel
theorem dm_Ar_copyOf_6 : decode mm_Ar_copyOf.2.1 6 = .ok (.aload_n 0, 1) := by decide +kernel
theorem dm_Ar_copyOf_7 : decode mm_Ar_copyOf.2.1 7 = .ok (.invokevirtual 316, 3) := by decide +kernel
theorem dm_Ar_copyOf_10 : decode mm_Ar_copyOf.2.1 10 = .ok (.checkcast 317, 3) := by decide +kernel
theorem dm_Ar_copyOf_13 : decode mm_Ar_copyOf.2.1 13 = .ok (.areturn, 1) := by decide +kernel
theorem dm_Ar_copyOf_14 : decode mm_Ar_copyOf.2.1 14 = .ok (.iload_n 1, 1) := by decide +kernel
theorem dm_Ar_copyOf_15 : decode mm_Ar_copyOf.2.1 15 = .ok (.newarray .int, 2) := by decide +kernel
theorem dm_Ar_copyOf_17 : decode mm_Ar_copyOf.2.1 17 = .ok (.astore_n 2, 1) := by decide +kernel
theorem dm_Ar_copyOf_18 : decode mm_Ar_copyOf.2.1 18 = .ok (.aload_n 0, 1) := by decide +kernel
theorem dm_Ar_copyOf_19 : decode mm_Ar_copyOf.2.1 19 = .ok (.iconst 0, 1) := by decide +kernel
theorem dm_Ar_copyOf_20 : decode mm_Ar_copyOf.2.1 20 = .ok (.aload_n 2, 1) := by decide +kernel
theorem dm_Ar_copyOf_21 : decode mm_Ar_copyOf.2.1 21 = .ok (.iconst 0, 1) := by decide +kernel
theorem dm_Ar_copyOf_22 : decode mm_Ar_copyOf.2.1 22 = .ok (.aload_n 0, 1) := by decide +kernel
theorem dm_Ar_copyOf_23 : decode mm_Ar_copyOf.2.1 23 = .ok (.arraylength, 1) := by decide +kernel
theorem dm_Ar_copyOf_24 : decode mm_Ar_copyOf.2.1 24 = .ok (.iload_n 1, 1) := by decide +kernel
theorem dm_Ar_copyOf_25 : decode mm_Ar_copyOf.2.1 25 = .ok (.invokestatic 304, 3) := by decide +kernel
theorem dm_Ar_copyOf_28 : decode mm_Ar_copyOf.2.1 28 = .ok (.invokestatic 150, 3) := by decide +kernel
theorem dm_Ar_copyOf_31 : decode mm_Ar_copyOf.2.1 31 = .ok (.aload_n 2, 1) := by decide +kernel
theorem dm_Ar_copyOf_32 : decode mm_Ar_copyOf.2.1 32 = .ok (.areturn, 1) := by decide +kernel
theorem dm_Mt_min_0 : decode mm_Mt_min.2.1 0 = .ok (.iload_n 0, 1) := by decide +kernel
theorem dm_Mt_min_1 : decode mm_Mt_min.2.1 1 = .ok (.iload_n 1, 1) := by decide +kernel
theorem dm_Mt_min_2 : decode mm_Mt_min.2.1 2 = .ok (.if_icmp .gt 7, 3) := by decide +kernel
theorem dm_Mt_min_5 : decode mm_Mt_min.2.1 5 = .ok (.iload_n 0, 1) := by decide +kernel
theorem dm_Mt_min_6 : decode mm_Mt_min.2.1 6 = .ok (.goto 4, 3) := by decide +kernel
theorem dm_Mt_min_9 : decode mm_Mt_min.2.1 9 = .ok (.iload_n 1, 1) := by decide +kernel
theorem dm_Mt_min_10 : decode mm_Mt_min.2.1 10 = .ok (.ireturn, 1) := by decide +kernel
theorem dm_Mt_max_0 : decode mm_Mt_max.2.1 0 = .ok (.iload_n 0, 1) := by decide +kernel
theorem dm_Mt_max_1 : decode mm_Mt_max.2.1 1 = .ok (.iload_n 1, 1) := by decide +kernel
theorem dm_Mt_max_2 : decode mm_Mt_max.2.1 2 = .ok (.if_icmp .lt 7, 3) := by decide +kernel
theorem dm_Mt_max_5 : decode mm_Mt_max.2.1 5 = .ok (.iload_n 0, 1) := by decide +kernel
theorem dm_Mt_max_6 : decode mm_Mt_max.2.1 6 = .ok (.goto 4, 3) := by decide +kernel
theorem dm_Mt_max_9 : decode mm_Mt_max.2.1 9 = .ok (.iload_n 1, 1) := by decide +kernel
theorem dm_Mt_max_10 : decode mm_Mt_max.2.1 10 = .ok (.ireturn, 1) := by decide +kernel
