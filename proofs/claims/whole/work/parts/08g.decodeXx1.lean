theorem dm_De_init_0 : decode mm_De_init.2.1 0 = .ok (.aload_n 0, 1) := by decide +kernel
theorem dm_De_init_1 : decode mm_De_init.2.1 1 = .ok (.invokespecial 3, 3) := by decide +kernel
theorem dm_De_init_4 : decode mm_De_init.2.1 4 = .ok (.aload_n 0, 1) := by decide +kernel
theorem dm_De_init_5 : decode mm_De_init.2.1 5 = .ok (.bipush 40, 2) := by decide +kernel
theorem dm_De_init_7 : decode mm_De_init.2.1 7 = .ok (.newarray .int, 2) := by decide +kernel
theorem dm_De_init_9 : decode mm_De_init.2.1 9 = .ok (.putfield 9, 3) := by decide +kernel
theorem dm_De_init_12 : decode mm_De_init.2.1 12 = .ok (.return_, 1) := by decide +kernel
theorem dm_De_begin_0 : decode mm_De_begin.2.1 0 = .ok (.aload_n 0, 1) := by decide +kernel
theorem dm_De_begin_1 : decode mm_De_begin.2.1 1 = .ok (.iconst 0, 1) := by decide +kernel
theorem dm_De_begin_2 : decode mm_De_begin.2.1 2 = .ok (.putfield 15, 3) := by decide +kernel
theorem dm_De_begin_5 : decode mm_De_begin.2.1 5 = .ok (.aload_n 0, 1) := by decide +kernel
theorem dm_De_begin_6 : decode mm_De_begin.2.1 6 = .ok (.iconst 1, 1) := by decide +kernel
theorem dm_De_begin_7 : decode mm_De_begin.2.1 7 = .ok (.putfield 19, 3) := by decide +kernel
theorem dm_De_begin_10 : decode mm_De_begin.2.1 10 = .ok (.return_, 1) := by decide +kernel
theorem dm_De_pass_0 : decode mm_De_pass.2.1 0 = .ok (.iload_n 1, 1) := by decide +kernel
theorem dm_De_pass_1 : decode mm_De_pass.2.1 1 = .ok (.bipush 10, 2) := by decide +kernel
theorem dm_De_pass_3 : decode mm_De_pass.2.1 3 = .ok (.if_icmp .ge 4, 3) := by decide +kernel
theorem dm_De_pass_6 : decode mm_De_pass.2.1 6 = .ok (.return_, 1) := by decide +kernel
theorem dm_De_pass_7 : decode mm_De_pass.2.1 7 = .ok (.aload_n 0, 1) := by decide +kernel
theorem dm_De_pass_8 : decode mm_De_pass.2.1 8 = .ok (.getfield 15, 3) := by decide +kernel
theorem dm_De_pass_11 : decode mm_De_pass.2.1 11 = .ok (.ifCond .le 34, 3) := by decide +kernel
theorem dm_De_pass_14 : decode mm_De_pass.2.1 14 = .ok (.aload_n 0, 1) := by decide +kernel
theorem dm_De_pass_15 : decode mm_De_pass.2.1 15 = .ok (.getfield 9, 3) := by decide +kernel
theorem dm_De_pass_18 : decode mm_De_pass.2.1 18 = .ok (.aload_n 0, 1) := by decide +kernel
theorem dm_De_pass_19 : decode mm_De_pass.2.1 19 = .ok (.getfield 15, 3) := by decide +kernel
theorem dm_De_pass_22 : decode mm_De_pass.2.1 22 = .ok (.iconst 1, 1) := by decide +kernel
theorem dm_De_pass_23 : decode mm_De_pass.2.1 23 = .ok (.isub, 1) := by decide +kernel
theorem dm_De_pass_24 : decode mm_De_pass.2.1 24 = .ok (.iaload, 1) := by decide +kernel
theorem dm_De_pass_25 : decode mm_De_pass.2.1 25 = .ok (.aload_n 0, 1) := by decide +kernel
theorem dm_De_pass_26 : decode mm_De_pass.2.1 26 = .ok (.getfield 19, 3) := by decide +kernel
theorem dm_De_pass_29 : decode mm_De_pass.2.1 29 = .ok (.if_icmp .lt 16, 3) := by decide +kernel
theorem dm_De_pass_32 : decode mm_De_pass.2.1 32 = .ok (.aload_n 0, 1) := by decide +kernel
theorem dm_De_pass_33 : decode mm_De_pass.2.1 33 = .ok (.dup, 1) := by decide +kernel
theorem dm_De_pass_34 : decode mm_De_pass.2.1 34 = .ok (.getfield 15, 3) := by decide +kernel
theorem dm_De_pass_37 : decode mm_De_pass.2.1 37 = .ok (.iconst 1, 1) := by decide +kernel
theorem dm_De_pass_38 : decode mm_De_pass.2.1 38 = .ok (.isub, 1) := by decide +kernel
theorem dm_De_pass_39 : decode mm_De_pass.2.1 39 = .ok (.putfield 15, 3) := by decide +kernel
theorem dm_De_pass_42 : decode mm_De_pass.2.1 42 = .ok (.goto (-35), 3) := by decide +kernel
theorem dm_De_pass_45 : decode mm_De_pass.2.1 45 = .ok (.aload_n 0, 1) := by decide +kernel
theorem dm_De_pass_46 : decode mm_De_pass.2.1 46 = .ok (.dup, 1) := by decide +kernel
theorem dm_De_pass_47 : decode mm_De_pass.2.1 47 = .ok (.getfield 19, 3) := by decide +kernel
theorem dm_De_pass_50 : decode mm_De_pass.2.1 50 = .ok (.iload_n 1, 1) := by decide +kernel
theorem dm_De_pass_51 : decode mm_De_pass.2.1 51 = .ok (.invokestatic 22, 3) := by decide +kernel
theorem dm_De_pass_54 : decode mm_De_pass.2.1 54 = .ok (.iconst 1, 1) := by decide +kernel
theorem dm_De_pass_55 : decode mm_De_pass.2.1 55 = .ok (.isub, 1) := by decide +kernel
theorem dm_De_pass_56 : decode mm_De_pass.2.1 56 = .ok (.iadd, 1) := by decide +kernel
theorem dm_De_pass_57 : decode mm_De_pass.2.1 57 = .ok (.putfield 19, 3) := by decide +kernel
theorem dm_De_pass_60 : decode mm_De_pass.2.1 60 = .ok (.iload_n 1, 1) := by decide +kernel
theorem dm_De_pass_61 : decode mm_De_pass.2.1 61 = .ok (.bipush 13, 2) := by decide +kernel
theorem dm_De_pass_63 : decode mm_De_pass.2.1 63 = .ok (.if_icmp .ne 40, 3) := by decide +kernel
theorem dm_De_pass_66 : decode mm_De_pass.2.1 66 = .ok (.aload_n 0, 1) := by decide +kernel
theorem dm_De_pass_67 : decode mm_De_pass.2.1 67 = .ok (.getfield 15, 3) := by decide +kernel
theorem dm_De_pass_70 : decode mm_De_pass.2.1 70 = .ok (.aload_n 0, 1) := by decide +kernel
theorem dm_De_pass_71 : decode mm_De_pass.2.1 71 = .ok (.getfield 9, 3) := by decide +kernel
theorem dm_De_pass_74 : decode mm_De_pass.2.1 74 = .ok (.arraylength, 1) := by decide +kernel
theorem dm_De_pass_75 : decode mm_De_pass.2.1 75 = .ok (.if_icmp .ge 28, 3) := by decide +kernel
theorem dm_De_pass_78 : decode mm_De_pass.2.1 78 = .ok (.aload_n 0, 1) := by decide +kernel
theorem dm_De_pass_79 : decode mm_De_pass.2.1 79 = .ok (.getfield 9, 3) := by decide +kernel
theorem dm_De_pass_82 : decode mm_De_pass.2.1 82 = .ok (.aload_n 0, 1) := by decide +kernel
theorem dm_De_pass_83 : decode mm_De_pass.2.1 83 = .ok (.getfield 15, 3) := by decide +kernel
theorem dm_De_pass_86 : decode mm_De_pass.2.1 86 = .ok (.aload_n 0, 1) := by decide +kernel
theorem dm_De_pass_87 : decode mm_De_pass.2.1 87 = .ok (.getfield 19, 3) := by decide +kernel
theorem dm_De_pass_90 : decode mm_De_pass.2.1 90 = .ok (.iconst 1, 1) := by decide +kernel
theorem dm_De_pass_91 : decode mm_De_pass.2.1 91 = .ok (.isub, 1) := by decide +kernel
theorem dm_De_pass_92 : decode mm_De_pass.2.1 92 = .ok (.iastore, 1) := by decide +kernel
theorem dm_De_pass_93 : decode mm_De_pass.2.1 93 = .ok (.aload_n 0, 1) := by decide +kernel
theorem dm_De_pass_94 : decode mm_De_pass.2.1 94 = .ok (.dup, 1) := by decide +kernel
theorem dm_De_pass_95 : decode mm_De_pass.2.1 95 = .ok (.getfield 15, 3) := by decide +kernel
theorem dm_De_pass_98 : decode mm_De_pass.2.1 98 = .ok (.iconst 1, 1) := by decide +kernel
theorem dm_De_pass_99 : decode mm_De_pass.2.1 99 = .ok (.iadd, 1) := by decide +kernel
theorem dm_De_pass_100 : decode mm_De_pass.2.1 100 = .ok (.putfield 15, 3) := by decide +kernel
theorem dm_De_pass_103 : decode mm_De_pass.2.1 103 = .ok (.return_, 1) := by decide +kernel
theorem dm_Eq_init_0 : decode mm_Eq_init.2.1 0 = .ok (.aload_n 0, 1) := by decide +kernel
theorem dm_Eq_init_1 : decode mm_Eq_init.2.1 1 = .ok (.invokespecial 1, 3) := by decide +kernel
theorem dm_Eq_init_4 : decode mm_Eq_init.2.1 4 = .ok (.aload_n 1, 1) := by decide +kernel
theorem dm_Eq_init_5 : decode mm_Eq_init.2.1 5 = .ok (.iconst 4, 1) := by decide +kernel
theorem dm_Eq_init_6 : decode mm_Eq_init.2.1 6 = .ok (.invokevirtual 7, 3) := by decide +kernel
theorem dm_Eq_init_9 : decode mm_Eq_init.2.1 9 = .ok (.istore_n 2, 1) := by decide +kernel
theorem dm_Eq_init_10 : decode mm_Eq_init.2.1 10 = .ok (.aload_n 1, 1) := by decide +kernel
theorem dm_Eq_init_11 : decode mm_Eq_init.2.1 11 = .ok (.iload_n 2, 1) := by decide +kernel
theorem dm_Eq_init_12 : decode mm_Eq_init.2.1 12 = .ok (.invokevirtual 13, 3) := by decide +kernel
theorem dm_Eq_init_15 : decode mm_Eq_init.2.1 15 = .ok (.istore_n 3, 1) := by decide +kernel
theorem dm_Eq_init_16 : decode mm_Eq_init.2.1 16 = .ok (.aload_n 0, 1) := by decide +kernel
theorem dm_Eq_init_17 : decode mm_Eq_init.2.1 17 = .ok (.aload_n 1, 1) := by decide +kernel
theorem dm_Eq_init_18 : decode mm_Eq_init.2.1 18 = .ok (.iconst 4, 1) := by decide +kernel
theorem dm_Eq_init_19 : decode mm_Eq_init.2.1 19 = .ok (.iload_n 2, 1) := by decide +kernel
theorem dm_Eq_init_20 : decode mm_Eq_init.2.1 20 = .ok (.invokevirtual 16, 3) := by decide +kernel
theorem dm_Eq_init_23 : decode mm_Eq_init.2.1 23 = .ok (.putfield 20, 3) := by decide +kernel
theorem dm_Eq_init_26 : decode mm_Eq_init.2.1 26 = .ok (.aload_n 0, 1) := by decide +kernel
theorem dm_Eq_init_27 : decode mm_Eq_init.2.1 27 = .ok (.aload_n 1, 1) := by decide +kernel
theorem dm_Eq_init_28 : decode mm_Eq_init.2.1 28 = .ok (.iload_n 2, 1) := by decide +kernel
theorem dm_Eq_init_29 : decode mm_Eq_init.2.1 29 = .ok (.iload_n 3, 1) := by decide +kernel
theorem dm_Eq_init_30 : decode mm_Eq_init.2.1 30 = .ok (.invokevirtual 16, 3) := by decide +kernel
theorem dm_Eq_init_33 : decode mm_Eq_init.2.1 33 = .ok (.putfield 26, 3) := by decide +kernel
theorem dm_Eq_init_36 : decode mm_Eq_init.2.1 36 = .ok (.aload_n 0, 1) := by decide +kernel
theorem dm_Eq_init_37 : decode mm_Eq_init.2.1 37 = .ok (.aload_n 1, 1) := by decide +kernel
theorem dm_Eq_init_38 : decode mm_Eq_init.2.1 38 = .ok (.iload_n 3, 1) := by decide +kernel
theorem dm_Eq_init_39 : decode mm_Eq_init.2.1 39 = .ok (.aload_n 1, 1) := by decide +kernel
theorem dm_Eq_init_40 : decode mm_Eq_init.2.1 40 = .ok (.getfield 29, 3) := by decide +kernel
theorem dm_Eq_init_43 : decode mm_Eq_init.2.1 43 = .ok (.invokevirtual 16, 3) := by decide +kernel
theorem dm_Eq_init_46 : decode mm_Eq_init.2.1 46 = .ok (.putfield 33, 3) := by decide +kernel
theorem dm_Eq_init_49 : decode mm_Eq_init.2.1 49 = .ok (.return_, 1) := by decide +kernel
theorem dm_Hy_init_0 : decode mm_Hy_init.2.1 0 = .ok (.aload_n 0, 1) := by decide +kernel
theorem dm_Hy_init_1 : decode mm_Hy_init.2.1 1 = .ok (.invokespecial 3, 3) := by decide +kernel
theorem dm_Hy_init_4 : decode mm_Hy_init.2.1 4 = .ok (.aload_n 0, 1) := by decide +kernel
theorem dm_Hy_init_5 : decode mm_Hy_init.2.1 5 = .ok (.bipush 6, 2) := by decide +kernel
theorem dm_Hy_init_7 : decode mm_Hy_init.2.1 7 = .ok (.anewarray 9, 3) := by decide +kernel
theorem dm_Hy_init_10 : decode mm_Hy_init.2.1 10 = .ok (.putfield 11, 3) := by decide +kernel
theorem dm_Hy_init_13 : decode mm_Hy_init.2.1 13 = .ok (.return_, 1) := by decide +kernel
theorem dm_Hy_get_0 : decode mm_Hy_get.2.1 0 = .ok (.iload_n 1, 1) := by decide +kernel
theorem dm_Hy_get_1 : decode mm_Hy_get.2.1 1 = .ok (.ifCond .lt 20, 3) := by decide +kernel
theorem dm_Hy_get_4 : decode mm_Hy_get.2.1 4 = .ok (.iload_n 1, 1) := by decide +kernel
theorem dm_Hy_get_5 : decode mm_Hy_get.2.1 5 = .ok (.aload_n 0, 1) := by decide +kernel
theorem dm_Hy_get_6 : decode mm_Hy_get.2.1 6 = .ok (.getfield 17, 3) := by decide +kernel
theorem dm_Hy_get_9 : decode mm_Hy_get.2.1 9 = .ok (.if_icmp .ge 12, 3) := by decide +kernel
theorem dm_Hy_get_12 : decode mm_Hy_get.2.1 12 = .ok (.aload_n 0, 1) := by decide +kernel
theorem dm_Hy_get_13 : decode mm_Hy_get.2.1 13 = .ok (.getfield 11, 3) := by decide +kernel
theorem dm_Hy_get_16 : decode mm_Hy_get.2.1 16 = .ok (.iload_n 1, 1) := by decide +kernel
theorem dm_Hy_get_17 : decode mm_Hy_get.2.1 17 = .ok (.aaload, 1) := by decide +kernel
theorem dm_Hy_get_18 : decode mm_Hy_get.2.1 18 = .ok (.goto 4, 3) := by decide +kernel
theorem dm_Hy_get_21 : decode mm_Hy_get.2.1 21 = .ok (.aconst_null, 1) := by decide +kernel
theorem dm_Hy_get_22 : decode mm_Hy_get.2.1 22 = .ok (.areturn, 1) := by decide +kernel
theorem dm_Hy_add_0 : decode mm_Hy_add.2.1 0 = .ok (.iconst 0, 1) := by decide +kernel
theorem dm_Hy_add_1 : decode mm_Hy_add.2.1 1 = .ok (.istore_n 2, 1) := by decide +kernel
theorem dm_Hy_add_2 : decode mm_Hy_add.2.1 2 = .ok (.iload_n 2, 1) := by decide +kernel
theorem dm_Hy_add_3 : decode mm_Hy_add.2.1 3 = .ok (.aload_n 0, 1) := by decide +kernel
theorem dm_Hy_add_4 : decode mm_Hy_add.2.1 4 = .ok (.getfield 17, 3) := by decide +kernel
theorem dm_Hy_add_7 : decode mm_Hy_add.2.1 7 = .ok (.if_icmp .ge 22, 3) := by decide +kernel
theorem dm_Hy_add_10 : decode mm_Hy_add.2.1 10 = .ok (.aload_n 0, 1) := by decide +kernel
theorem dm_Hy_add_11 : decode mm_Hy_add.2.1 11 = .ok (.getfield 11, 3) := by decide +kernel
theorem dm_Hy_add_14 : decode mm_Hy_add.2.1 14 = .ok (.iload_n 2, 1) := by decide +kernel
theorem dm_Hy_add_15 : decode mm_Hy_add.2.1 15 = .ok (.aaload, 1) := by decide +kernel
theorem dm_Hy_add_16 : decode mm_Hy_add.2.1 16 = .ok (.aload_n 1, 1) := by decide +kernel
theorem dm_Hy_add_17 : decode mm_Hy_add.2.1 17 = .ok (.invokevirtual 21, 3) := by decide +kernel
theorem dm_Hy_add_20 : decode mm_Hy_add.2.1 20 = .ok (.ifCond .eq 9, 3) := by decide +kernel
theorem dm_Hy_add_23 : decode mm_Hy_add.2.1 23 = .ok (.iinc 2 1, 3) := by decide +kernel
theorem dm_Hy_add_26 : decode mm_Hy_add.2.1 26 = .ok (.goto (-24), 3) := by decide +kernel
theorem dm_Hy_add_29 : decode mm_Hy_add.2.1 29 = .ok (.aload_n 0, 1) := by decide +kernel
theorem dm_Hy_add_30 : decode mm_Hy_add.2.1 30 = .ok (.getfield 17, 3) := by decide +kernel
theorem dm_Hy_add_33 : decode mm_Hy_add.2.1 33 = .ok (.aload_n 0, 1) := by decide +kernel
theorem dm_Hy_add_34 : decode mm_Hy_add.2.1 34 = .ok (.getfield 11, 3) := by decide +kernel
theorem dm_Hy_add_37 : decode mm_Hy_add.2.1 37 = .ok (.arraylength, 1) := by decide +kernel
theorem dm_Hy_add_38 : decode mm_Hy_add.2.1 38 = .ok (.if_icmp .ge 24, 3) := by decide +kernel
theorem dm_Hy_add_41 : decode mm_Hy_add.2.1 41 = .ok (.iload_n 2, 1) := by decide +kernel
theorem dm_Hy_add_42 : decode mm_Hy_add.2.1 42 = .ok (.aload_n 0, 1) := by decide +kernel
theorem dm_Hy_add_43 : decode mm_Hy_add.2.1 43 = .ok (.getfield 17, 3) := by decide +kernel
theorem dm_Hy_add_46 : decode mm_Hy_add.2.1 46 = .ok (.if_icmp .ge 17, 3) := by decide +kernel
theorem dm_Hy_add_49 : decode mm_Hy_add.2.1 49 = .ok (.aload_n 0, 1) := by decide +kernel
theorem dm_Hy_add_50 : decode mm_Hy_add.2.1 50 = .ok (.getfield 11, 3) := by decide +kernel
theorem dm_Hy_add_53 : decode mm_Hy_add.2.1 53 = .ok (.iload_n 2, 1) := by decide +kernel
theorem dm_Hy_add_54 : decode mm_Hy_add.2.1 54 = .ok (.aaload, 1) := by decide +kernel
theorem dm_Hy_add_55 : decode mm_Hy_add.2.1 55 = .ok (.aload_n 1, 1) := by decide +kernel
theorem dm_Hy_add_56 : decode mm_Hy_add.2.1 56 = .ok (.invokevirtual 25, 3) := by decide +kernel
theorem dm_Hy_add_59 : decode mm_Hy_add.2.1 59 = .ok (.ifCond .eq 4, 3) := by decide +kernel
theorem dm_Hy_add_62 : decode mm_Hy_add.2.1 62 = .ok (.return_, 1) := by decide +kernel
theorem dm_Hy_add_63 : decode mm_Hy_add.2.1 63 = .ok (.aload_n 0, 1) := by decide +kernel
theorem dm_Hy_add_64 : decode mm_Hy_add.2.1 64 = .ok (.getfield 17, 3) := by decide +kernel
theorem dm_Hy_add_67 : decode mm_Hy_add.2.1 67 = .ok (.istore_n 3, 1) := by decide +kernel
theorem dm_Hy_add_68 : decode mm_Hy_add.2.1 68 = .ok (.iload_n 3, 1) := by decide +kernel
theorem dm_Hy_add_69 : decode mm_Hy_add.2.1 69 = .ok (.iload_n 2, 1) := by decide +kernel
theorem dm_Hy_add_70 : decode mm_Hy_add.2.1 70 = .ok (.if_icmp .le 23, 3) := by decide +kernel
theorem dm_Hy_add_73 : decode mm_Hy_add.2.1 73 = .ok (.aload_n 0, 1) := by decide +kernel
theorem dm_Hy_add_74 : decode mm_Hy_add.2.1 74 = .ok (.getfield 11, 3) := by decide +kernel
theorem dm_Hy_add_77 : decode mm_Hy_add.2.1 77 = .ok (.iload_n 3, 1) := by decide +kernel
theorem dm_Hy_add_78 : decode mm_Hy_add.2.1 78 = .ok (.aload_n 0, 1) := by decide +kernel
theorem dm_Hy_add_79 : decode mm_Hy_add.2.1 79 = .ok (.getfield 11, 3) := by decide +kernel
theorem dm_Hy_add_82 : decode mm_Hy_add.2.1 82 = .ok (.iload_n 3, 1) := by decide +kernel
theorem dm_Hy_add_83 : decode mm_Hy_add.2.1 83 = .ok (.iconst 1, 1) := by decide +kernel
theorem dm_Hy_add_84 : decode mm_Hy_add.2.1 84 = .ok (.isub, 1) := by decide +kernel
theorem dm_Hy_add_85 : decode mm_Hy_add.2.1 85 = .ok (.aaload, 1) := by decide +kernel
theorem dm_Hy_add_86 : decode mm_Hy_add.2.1 86 = .ok (.aastore, 1) := by decide +kernel
theorem dm_Hy_add_87 : decode mm_Hy_add.2.1 87 = .ok (.iinc 3 (-1), 3) := by decide +kernel
theorem dm_Hy_add_90 : decode mm_Hy_add.2.1 90 = .ok (.goto (-22), 3) := by decide +kernel
theorem dm_Hy_add_93 : decode mm_Hy_add.2.1 93 = .ok (.aload_n 0, 1) := by decide +kernel
theorem dm_Hy_add_94 : decode mm_Hy_add.2.1 94 = .ok (.getfield 11, 3) := by decide +kernel
theorem dm_Hy_add_97 : decode mm_Hy_add.2.1 97 = .ok (.iload_n 2, 1) := by decide +kernel
theorem dm_Hy_add_98 : decode mm_Hy_add.2.1 98 = .ok (.aload_n 1, 1) := by decide +kernel
theorem dm_Hy_add_99 : decode mm_Hy_add.2.1 99 = .ok (.aastore, 1) := by decide +kernel
theorem dm_Hy_add_100 : decode mm_Hy_add.2.1 100 = .ok (.aload_n 0, 1) := by decide +kernel
theorem dm_Hy_add_101 : decode mm_Hy_add.2.1 101 = .ok (.dup, 1) := by decide +kernel
theorem dm_Hy_add_102 : decode mm_Hy_add.2.1 102 = .ok (.getfield 17, 3) := by decide +kernel
theorem dm_Hy_add_105 : decode mm_Hy_add.2.1 105 = .ok (.iconst 1, 1) := by decide +kernel
theorem dm_Hy_add_106 : decode mm_Hy_add.2.1 106 = .ok (.iadd, 1) := by decide +kernel
theorem dm_Hy_add_107 : decode mm_Hy_add.2.1 107 = .ok (.putfield 17, 3) := by decide +kernel
theorem dm_Hy_add_110 : decode mm_Hy_add.2.1 110 = .ok (.return_, 1) := by decide +kernel
theorem dm_Hy_addAll_0 : decode mm_Hy_addAll.2.1 0 = .ok (.iconst 0, 1) := by decide +kernel
theorem dm_Hy_addAll_1 : decode mm_Hy_addAll.2.1 1 = .ok (.istore_n 2, 1) := by decide +kernel
theorem dm_Hy_addAll_2 : decode mm_Hy_addAll.2.1 2 = .ok (.iload_n 2, 1) := by decide +kernel
theorem dm_Hy_addAll_3 : decode mm_Hy_addAll.2.1 3 = .ok (.aload_n 1, 1) := by decide +kernel
theorem dm_Hy_addAll_4 : decode mm_Hy_addAll.2.1 4 = .ok (.getfield 17, 3) := by decide +kernel
theorem dm_Hy_addAll_7 : decode mm_Hy_addAll.2.1 7 = .ok (.if_icmp .ge 19, 3) := by decide +kernel
theorem dm_Hy_addAll_10 : decode mm_Hy_addAll.2.1 10 = .ok (.aload_n 0, 1) := by decide +kernel
theorem dm_Hy_addAll_11 : decode mm_Hy_addAll.2.1 11 = .ok (.aload_n 1, 1) := by decide +kernel
theorem dm_Hy_addAll_12 : decode mm_Hy_addAll.2.1 12 = .ok (.getfield 11, 3) := by decide +kernel
theorem dm_Hy_addAll_15 : decode mm_Hy_addAll.2.1 15 = .ok (.iload_n 2, 1) := by decide +kernel
theorem dm_Hy_addAll_16 : decode mm_Hy_addAll.2.1 16 = .ok (.aaload, 1) := by decide +kernel
theorem dm_Hy_addAll_17 : decode mm_Hy_addAll.2.1 17 = .ok (.invokevirtual 28, 3) := by decide +kernel
theorem dm_Hy_addAll_20 : decode mm_Hy_addAll.2.1 20 = .ok (.iinc 2 1, 3) := by decide +kernel
theorem dm_Hy_addAll_23 : decode mm_Hy_addAll.2.1 23 = .ok (.goto (-21), 3) := by decide +kernel
theorem dm_Hy_addAll_26 : decode mm_Hy_addAll.2.1 26 = .ok (.return_, 1) := by decide +kernel
theorem dm_Hy_addAllBut_0 : decode mm_Hy_addAllBut.2.1 0 = .ok (.iconst 0, 1) := by decide +kernel
theorem dm_Hy_addAllBut_1 : decode mm_Hy_addAllBut.2.1 1 = .ok (.istore_n 3, 1) := by decide +kernel
theorem dm_Hy_addAllBut_2 : decode mm_Hy_addAllBut.2.1 2 = .ok (.iload_n 3, 1) := by decide +kernel
theorem dm_Hy_addAllBut_3 : decode mm_Hy_addAllBut.2.1 3 = .ok (.aload_n 1, 1) := by decide +kernel
theorem dm_Hy_addAllBut_4 : decode mm_Hy_addAllBut.2.1 4 = .ok (.getfield 17, 3) := by decide +kernel
theorem dm_Hy_addAllBut_7 : decode mm_Hy_addAllBut.2.1 7 = .ok (.if_icmp .ge 32, 3) := by decide +kernel
theorem dm_Hy_addAllBut_10 : decode mm_Hy_addAllBut.2.1 10 = .ok (.aload_n 1, 1) := by decide +kernel
theorem dm_Hy_addAllBut_11 : decode mm_Hy_addAllBut.2.1 11 = .ok (.getfield 11, 3) := by decide +kernel
theorem dm_Hy_addAllBut_14 : decode mm_Hy_addAllBut.2.1 14 = .ok (.iload_n 3, 1) := by decide +kernel
theorem dm_Hy_addAllBut_15 : decode mm_Hy_addAllBut.2.1 15 = .ok (.aaload, 1) := by decide +kernel
theorem dm_Hy_addAllBut_16 : decode mm_Hy_addAllBut.2.1 16 = .ok (.aload_n 2, 1) := by decide +kernel
theorem dm_Hy_addAllBut_17 : decode mm_Hy_addAllBut.2.1 17 = .ok (.invokevirtual 25, 3) := by decide +kernel
theorem dm_Hy_addAllBut_20 : decode mm_Hy_addAllBut.2.1 20 = .ok (.ifCond .ne 13, 3) := by decide +kernel
theorem dm_Hy_addAllBut_23 : decode mm_Hy_addAllBut.2.1 23 = .ok (.aload_n 0, 1) := by decide +kernel
theorem dm_Hy_addAllBut_24 : decode mm_Hy_addAllBut.2.1 24 = .ok (.aload_n 1, 1) := by decide +kernel
theorem dm_Hy_addAllBut_25 : decode mm_Hy_addAllBut.2.1 25 = .ok (.getfield 11, 3) := by decide +kernel
theorem dm_Hy_addAllBut_28 : decode mm_Hy_addAllBut.2.1 28 = .ok (.iload_n 3, 1) := by decide +kernel
theorem dm_Hy_addAllBut_29 : decode mm_Hy_addAllBut.2.1 29 = .ok (.aaload, 1) := by decide +kernel
theorem dm_Hy_addAllBut_30 : decode mm_Hy_addAllBut.2.1 30 = .ok (.invokevirtual 28, 3) := by decide +kernel
theorem dm_Hy_addAllBut_33 : decode mm_Hy_addAllBut.2.1 33 = .ok (.iinc 3 1, 3) := by decide +kernel
theorem dm_Hy_addAllBut_36 : decode mm_Hy_addAllBut.2.1 36 = .ok (.goto (-34), 3) := by decide +kernel
theorem dm_Hy_addAllBut_39 : decode mm_Hy_addAllBut.2.1 39 = .ok (.return_, 1) := by decide +kernel
theorem dm_Hy_haveFree_0 : decode mm_Hy_haveFree.2.1 0 = .ok (.iconst 0, 1) := by decide +kernel
theorem dm_Hy_haveFree_1 : decode mm_Hy_haveFree.2.1 1 = .ok (.istore_n 2, 1) := by decide +kernel
theorem dm_Hy_haveFree_2 : decode mm_Hy_haveFree.2.1 2 = .ok (.iload_n 2, 1) := by decide +kernel
theorem dm_Hy_haveFree_3 : decode mm_Hy_haveFree.2.1 3 = .ok (.aload_n 0, 1) := by decide +kernel
theorem dm_Hy_haveFree_4 : decode mm_Hy_haveFree.2.1 4 = .ok (.getfield 17, 3) := by decide +kernel
theorem dm_Hy_haveFree_7 : decode mm_Hy_haveFree.2.1 7 = .ok (.if_icmp .ge 24, 3) := by decide +kernel
theorem dm_Hy_haveFree_10 : decode mm_Hy_haveFree.2.1 10 = .ok (.aload_n 0, 1) := by decide +kernel
theorem dm_Hy_haveFree_11 : decode mm_Hy_haveFree.2.1 11 = .ok (.getfield 11, 3) := by decide +kernel
theorem dm_Hy_haveFree_14 : decode mm_Hy_haveFree.2.1 14 = .ok (.iload_n 2, 1) := by decide +kernel
theorem dm_Hy_haveFree_15 : decode mm_Hy_haveFree.2.1 15 = .ok (.aaload, 1) := by decide +kernel
theorem dm_Hy_haveFree_16 : decode mm_Hy_haveFree.2.1 16 = .ok (.aload_n 1, 1) := by decide +kernel
theorem dm_Hy_haveFree_17 : decode mm_Hy_haveFree.2.1 17 = .ok (.invokevirtual 32, 3) := by decide +kernel
theorem dm_Hy_haveFree_20 : decode mm_Hy_haveFree.2.1 20 = .ok (.ifCond .eq 5, 3) := by decide +kernel
theorem dm_Hy_haveFree_23 : decode mm_Hy_haveFree.2.1 23 = .ok (.iconst 1, 1) := by decide +kernel
theorem dm_Hy_haveFree_24 : decode mm_Hy_haveFree.2.1 24 = .ok (.ireturn, 1) := by decide +kernel
theorem dm_Hy_haveFree_25 : decode mm_Hy_haveFree.2.1 25 = .ok (.iinc 2 1, 3) := by decide +kernel
theorem dm_Hy_haveFree_28 : decode mm_Hy_haveFree.2.1 28 = .ok (.goto (-26), 3) := by decide +kernel
theorem dm_Hy_haveFree_31 : decode mm_Hy_haveFree.2.1 31 = .ok (.iconst 0, 1) := by decide +kernel
theorem dm_Hy_haveFree_32 : decode mm_Hy_haveFree.2.1 32 = .ok (.ireturn, 1) := by decide +kernel
theorem dm_Hy_areSmallEnough_0 : decode mm_Hy_areSmallEnough.2.1 0 = .ok (.iconst 0, 1) := by decide +kernel
theorem dm_Hy_areSmallEnough_1 : decode mm_Hy_areSmallEnough.2.1 1 = .ok (.istore_n 1, 1) := by decide +kernel
theorem dm_Hy_areSmallEnough_2 : decode mm_Hy_areSmallEnough.2.1 2 = .ok (.iload_n 1, 1) := by decide +kernel
theorem dm_Hy_areSmallEnough_3 : decode mm_Hy_areSmallEnough.2.1 3 = .ok (.aload_n 0, 1) := by decide +kernel
theorem dm_Hy_areSmallEnough_4 : decode mm_Hy_areSmallEnough.2.1 4 = .ok (.getfield 17, 3) := by decide +kernel
theorem dm_Hy_areSmallEnough_7 : decode mm_Hy_areSmallEnough.2.1 7 = .ok (.if_icmp .ge 25, 3) := by decide +kernel
theorem dm_Hy_areSmallEnough_10 : decode mm_Hy_areSmallEnough.2.1 10 = .ok (.aload_n 0, 1) := by decide +kernel
theorem dm_Hy_areSmallEnough_11 : decode mm_Hy_areSmallEnough.2.1 11 = .ok (.getfield 11, 3) := by decide +kernel
theorem dm_Hy_areSmallEnough_14 : decode mm_Hy_areSmallEnough.2.1 14 = .ok (.iload_n 1, 1) := by decide +kernel
theorem dm_Hy_areSmallEnough_15 : decode mm_Hy_areSmallEnough.2.1 15 = .ok (.aaload, 1) := by decide +kernel
theorem dm_Hy_areSmallEnough_16 : decode mm_Hy_areSmallEnough.2.1 16 = .ok (.getfield 35, 3) := by decide +kernel
theorem dm_Hy_areSmallEnough_19 : decode mm_Hy_areSmallEnough.2.1 19 = .ok (.bipush 40, 2) := by decide +kernel
theorem dm_Hy_areSmallEnough_21 : decode mm_Hy_areSmallEnough.2.1 21 = .ok (.if_icmp .le 5, 3) := by decide +kernel
theorem dm_Hy_areSmallEnough_24 : decode mm_Hy_areSmallEnough.2.1 24 = .ok (.iconst 0, 1) := by decide +kernel
theorem dm_Hy_areSmallEnough_25 : decode mm_Hy_areSmallEnough.2.1 25 = .ok (.ireturn, 1) := by decide +kernel
theorem dm_Hy_areSmallEnough_26 : decode mm_Hy_areSmallEnough.2.1 26 = .ok (.iinc 1 1, 3) := by decide +kernel
theorem dm_Hy_areSmallEnough_29 : decode mm_Hy_areSmallEnough.2.1 29 = .ok (.goto (-27), 3) := by decide +kernel
theorem dm_Hy_areSmallEnough_32 : decode mm_Hy_areSmallEnough.2.1 32 = .ok (.aload_n 0, 1) := by decide +kernel
theorem dm_Hy_areSmallEnough_33 : decode mm_Hy_areSmallEnough.2.1 33 = .ok (.getfield 17, 3) := by decide +kernel
theorem dm_Hy_areSmallEnough_36 : decode mm_Hy_areSmallEnough.2.1 36 = .ok (.iconst 3, 1) := by decide +kernel
theorem dm_Hy_areSmallEnough_37 : decode mm_Hy_areSmallEnough.2.1 37 = .ok (.if_icmp .gt 7, 3) := by decide +kernel
theorem dm_Hy_areSmallEnough_40 : decode mm_Hy_areSmallEnough.2.1 40 = .ok (.iconst 1, 1) := by decide +kernel
theorem dm_Hy_areSmallEnough_41 : decode mm_Hy_areSmallEnough.2.1 41 = .ok (.goto 4, 3) := by decide +kernel
theorem dm_Hy_areSmallEnough_44 : decode mm_Hy_areSmallEnough.2.1 44 = .ok (.iconst 0, 1) := by decide +kernel
theorem dm_Hy_areSmallEnough_45 : decode mm_Hy_areSmallEnough.2.1 45 = .ok (.ireturn, 1) := by decide +kernel
theorem dm_It_init_0 : decode mm_It_init.2.1 0 = .ok (.aload_n 0, 1) := by decide +kernel
theorem dm_It_init_1 : decode mm_It_init.2.1 1 = .ok (.invokespecial 3, 3) := by decide +kernel
theorem dm_It_init_4 : decode mm_It_init.2.1 4 = .ok (.aload_n 0, 1) := by decide +kernel
theorem dm_It_init_5 : decode mm_It_init.2.1 5 = .ok (.iload_n 1, 1) := by decide +kernel
theorem dm_It_init_6 : decode mm_It_init.2.1 6 = .ok (.putfield 9, 3) := by decide +kernel
theorem dm_It_init_9 : decode mm_It_init.2.1 9 = .ok (.aload_n 0, 1) := by decide +kernel
theorem dm_It_init_10 : decode mm_It_init.2.1 10 = .ok (.aload_n 2, 1) := by decide +kernel
theorem dm_It_init_11 : decode mm_It_init.2.1 11 = .ok (.putfield 15, 3) := by decide +kernel
theorem dm_It_init_14 : decode mm_It_init.2.1 14 = .ok (.aload_n 0, 1) := by decide +kernel
theorem dm_It_init_15 : decode mm_It_init.2.1 15 = .ok (.aload_n 3, 1) := by decide +kernel
theorem dm_It_init_16 : decode mm_It_init.2.1 16 = .ok (.putfield 19, 3) := by decide +kernel
theorem dm_It_init_19 : decode mm_It_init.2.1 19 = .ok (.return_, 1) := by decide +kernel
theorem dm_It_isSmallEnough_0 : decode mm_It_isSmallEnough.2.1 0 = .ok (.aload_n 0, 1) := by decide +kernel
theorem dm_It_isSmallEnough_1 : decode mm_It_isSmallEnough.2.1 1 = .ok (.getfield 9, 3) := by decide +kernel
theorem dm_It_isSmallEnough_4 : decode mm_It_isSmallEnough.2.1 4 = .ok (.ifCond .ne 8, 3) := by decide +kernel
theorem dm_It_isSmallEnough_7 : decode mm_It_isSmallEnough.2.1 7 = .ok (.bipush 15, 2) := by decide +kernel
theorem dm_It_isSmallEnough_9 : decode mm_It_isSmallEnough.2.1 9 = .ok (.goto 5, 3) := by decide +kernel
theorem dm_It_isSmallEnough_12 : decode mm_It_isSmallEnough.2.1 12 = .ok (.bipush 40, 2) := by decide +kernel
theorem dm_It_isSmallEnough_14 : decode mm_It_isSmallEnough.2.1 14 = .ok (.istore_n 1, 1) := by decide +kernel
theorem dm_It_isSmallEnough_15 : decode mm_It_isSmallEnough.2.1 15 = .ok (.aload_n 0, 1) := by decide +kernel
theorem dm_It_isSmallEnough_16 : decode mm_It_isSmallEnough.2.1 16 = .ok (.getfield 15, 3) := by decide +kernel
theorem dm_It_isSmallEnough_19 : decode mm_It_isSmallEnough.2.1 19 = .ok (.getfield 23, 3) := by decide +kernel
theorem dm_It_isSmallEnough_22 : decode mm_It_isSmallEnough.2.1 22 = .ok (.iload_n 1, 1) := by decide +kernel
theorem dm_It_isSmallEnough_23 : decode mm_It_isSmallEnough.2.1 23 = .ok (.if_icmp .gt 17, 3) := by decide +kernel
theorem dm_It_isSmallEnough_26 : decode mm_It_isSmallEnough.2.1 26 = .ok (.aload_n 0, 1) := by decide +kernel
theorem dm_It_isSmallEnough_27 : decode mm_It_isSmallEnough.2.1 27 = .ok (.getfield 19, 3) := by decide +kernel
theorem dm_It_isSmallEnough_30 : decode mm_It_isSmallEnough.2.1 30 = .ok (.invokevirtual 28, 3) := by decide +kernel
theorem dm_It_isSmallEnough_33 : decode mm_It_isSmallEnough.2.1 33 = .ok (.ifCond .eq 7, 3) := by decide +kernel
theorem dm_It_isSmallEnough_36 : decode mm_It_isSmallEnough.2.1 36 = .ok (.iconst 1, 1) := by decide +kernel
theorem dm_It_isSmallEnough_37 : decode mm_It_isSmallEnough.2.1 37 = .ok (.goto 4, 3) := by decide +kernel
theorem dm_It_isSmallEnough_40 : decode mm_It_isSmallEnough.2.1 40 = .ok (.iconst 0, 1) := by decide +kernel
theorem dm_It_isSmallEnough_41 : decode mm_It_isSmallEnough.2.1 41 = .ok (.ireturn, 1) := by decide +kernel
theorem dm_Ro_init_0 : decode mm_Ro_init.2.1 0 = .ok (.aload_n 0, 1) := by decide +kernel
theorem dm_Ro_init_1 : decode mm_Ro_init.2.1 1 = .ok (.invokespecial 3, 3) := by decide +kernel
theorem dm_Ro_init_4 : decode mm_Ro_init.2.1 4 = .ok (.iload_n 2, 1) := by decide +kernel
theorem dm_Ro_init_5 : decode mm_Ro_init.2.1 5 = .ok (.ifCond .lt 18, 3) := by decide +kernel
theorem dm_Ro_init_8 : decode mm_Ro_init.2.1 8 = .ok (.iload_n 2, 1) := by decide +kernel
theorem dm_Ro_init_9 : decode mm_Ro_init.2.1 9 = .ok (.iload_n 3, 1) := by decide +kernel
theorem dm_Ro_init_10 : decode mm_Ro_init.2.1 10 = .ok (.if_icmp .gt 13, 3) := by decide +kernel
theorem dm_Ro_init_13 : decode mm_Ro_init.2.1 13 = .ok (.iload_n 3, 1) := by decide +kernel
theorem dm_Ro_init_14 : decode mm_Ro_init.2.1 14 = .ok (.aload_n 1, 1) := by decide +kernel
theorem dm_Ro_init_15 : decode mm_Ro_init.2.1 15 = .ok (.arraylength, 1) := by decide +kernel
theorem dm_Ro_init_16 : decode mm_Ro_init.2.1 16 = .ok (.if_icmp .gt 7, 3) := by decide +kernel
theorem dm_Ro_init_19 : decode mm_Ro_init.2.1 19 = .ok (.iconst 1, 1) := by decide +kernel
theorem dm_Ro_init_20 : decode mm_Ro_init.2.1 20 = .ok (.goto 4, 3) := by decide +kernel
theorem dm_Ro_init_23 : decode mm_Ro_init.2.1 23 = .ok (.iconst 0, 1) := by decide +kernel
theorem dm_Ro_init_24 : decode mm_Ro_init.2.1 24 = .ok (.istore 4, 2) := by decide +kernel
theorem dm_Ro_init_26 : decode mm_Ro_init.2.1 26 = .ok (.aload_n 0, 1) := by decide +kernel
theorem dm_Ro_init_27 : decode mm_Ro_init.2.1 27 = .ok (.aload_n 1, 1) := by decide +kernel
theorem dm_Ro_init_28 : decode mm_Ro_init.2.1 28 = .ok (.putfield 9, 3) := by decide +kernel
theorem dm_Ro_init_31 : decode mm_Ro_init.2.1 31 = .ok (.aload_n 0, 1) := by decide +kernel
theorem dm_Ro_init_32 : decode mm_Ro_init.2.1 32 = .ok (.iload 4, 2) := by decide +kernel
theorem dm_Ro_init_34 : decode mm_Ro_init.2.1 34 = .ok (.ifCond .eq 7, 3) := by decide +kernel
theorem dm_Ro_init_37 : decode mm_Ro_init.2.1 37 = .ok (.iload_n 2, 1) := by decide +kernel
theorem dm_Ro_init_38 : decode mm_Ro_init.2.1 38 = .ok (.goto 4, 3) := by decide +kernel
theorem dm_Ro_init_41 : decode mm_Ro_init.2.1 41 = .ok (.iconst 0, 1) := by decide +kernel
theorem dm_Ro_init_42 : decode mm_Ro_init.2.1 42 = .ok (.putfield 15, 3) := by decide +kernel
theorem dm_Ro_init_45 : decode mm_Ro_init.2.1 45 = .ok (.aload_n 0, 1) := by decide +kernel
theorem dm_Ro_init_46 : decode mm_Ro_init.2.1 46 = .ok (.iload 4, 2) := by decide +kernel
theorem dm_Ro_init_48 : decode mm_Ro_init.2.1 48 = .ok (.ifCond .eq 9, 3) := by decide +kernel
theorem dm_Ro_init_51 : decode mm_Ro_init.2.1 51 = .ok (.iload_n 3, 1) := by decide +kernel
theorem dm_Ro_init_52 : decode mm_Ro_init.2.1 52 = .ok (.iload_n 2, 1) := by decide +kernel
theorem dm_Ro_init_53 : decode mm_Ro_init.2.1 53 = .ok (.isub, 1) := by decide +kernel
theorem dm_Ro_init_54 : decode mm_Ro_init.2.1 54 = .ok (.goto 4, 3) := by decide +kernel
theorem dm_Ro_init_57 : decode mm_Ro_init.2.1 57 = .ok (.iconst 0, 1) := by decide +kernel
theorem dm_Ro_init_58 : decode mm_Ro_init.2.1 58 = .ok (.putfield 19, 3) := by decide +kernel
theorem dm_Ro_init_61 : decode mm_Ro_init.2.1 61 = .ok (.return_, 1) := by decide +kernel
theorem dm_Ro_at_0 : decode mm_Ro_at.2.1 0 = .ok (.iload_n 1, 1) := by decide +kernel
theorem dm_Ro_at_1 : decode mm_Ro_at.2.1 1 = .ok (.ifCond .lt 25, 3) := by decide +kernel
theorem dm_Ro_at_4 : decode mm_Ro_at.2.1 4 = .ok (.iload_n 1, 1) := by decide +kernel
theorem dm_Ro_at_5 : decode mm_Ro_at.2.1 5 = .ok (.aload_n 0, 1) := by decide +kernel
theorem dm_Ro_at_6 : decode mm_Ro_at.2.1 6 = .ok (.getfield 19, 3) := by decide +kernel
theorem dm_Ro_at_9 : decode mm_Ro_at.2.1 9 = .ok (.if_icmp .ge 17, 3) := by decide +kernel
theorem dm_Ro_at_12 : decode mm_Ro_at.2.1 12 = .ok (.aload_n 0, 1) := by decide +kernel
theorem dm_Ro_at_13 : decode mm_Ro_at.2.1 13 = .ok (.getfield 9, 3) := by decide +kernel
theorem dm_Ro_at_16 : decode mm_Ro_at.2.1 16 = .ok (.aload_n 0, 1) := by decide +kernel
theorem dm_Ro_at_17 : decode mm_Ro_at.2.1 17 = .ok (.getfield 15, 3) := by decide +kernel
theorem dm_Ro_at_20 : decode mm_Ro_at.2.1 20 = .ok (.iload_n 1, 1) := by decide +kernel
theorem dm_Ro_at_21 : decode mm_Ro_at.2.1 21 = .ok (.iadd, 1) := by decide +kernel
theorem dm_Ro_at_22 : decode mm_Ro_at.2.1 22 = .ok (.iaload, 1) := by decide +kernel
theorem dm_Ro_at_23 : decode mm_Ro_at.2.1 23 = .ok (.goto 4, 3) := by decide +kernel
theorem dm_Ro_at_26 : decode mm_Ro_at.2.1 26 = .ok (.iconst (-1), 1) := by decide +kernel
theorem dm_Ro_at_27 : decode mm_Ro_at.2.1 27 = .ok (.ireturn, 1) := by decide +kernel
theorem dm_Ro_part_0 : decode mm_Ro_part.2.1 0 = .ok (.new 10, 3) := by decide +kernel
theorem dm_Ro_part_3 : decode mm_Ro_part.2.1 3 = .ok (.dup, 1) := by decide +kernel
theorem dm_Ro_part_4 : decode mm_Ro_part.2.1 4 = .ok (.aload_n 0, 1) := by decide +kernel
theorem dm_Ro_part_5 : decode mm_Ro_part.2.1 5 = .ok (.getfield 9, 3) := by decide +kernel
theorem dm_Ro_part_8 : decode mm_Ro_part.2.1 8 = .ok (.aload_n 0, 1) := by decide +kernel
theorem dm_Ro_part_9 : decode mm_Ro_part.2.1 9 = .ok (.getfield 15, 3) := by decide +kernel
theorem dm_Ro_part_12 : decode mm_Ro_part.2.1 12 = .ok (.iload_n 1, 1) := by decide +kernel
theorem dm_Ro_part_13 : decode mm_Ro_part.2.1 13 = .ok (.iadd, 1) := by decide +kernel
theorem dm_Ro_part_14 : decode mm_Ro_part.2.1 14 = .ok (.aload_n 0, 1) := by decide +kernel
theorem dm_Ro_part_15 : decode mm_Ro_part.2.1 15 = .ok (.getfield 15, 3) := by decide +kernel
theorem dm_Ro_part_18 : decode mm_Ro_part.2.1 18 = .ok (.iload_n 2, 1) := by decide +kernel
theorem dm_Ro_part_19 : decode mm_Ro_part.2.1 19 = .ok (.iadd, 1) := by decide +kernel
theorem dm_Ro_part_20 : decode mm_Ro_part.2.1 20 = .ok (.invokespecial 22, 3) := by decide +kernel
theorem dm_Ro_part_23 : decode mm_Ro_part.2.1 23 = .ok (.areturn, 1) := by decide +kernel
theorem dm_Ro_typeEnd_0 : decode mm_Ro_typeEnd.2.1 0 = .ok (.iconst 1, 1) := by decide +kernel
theorem dm_Ro_typeEnd_1 : decode mm_Ro_typeEnd.2.1 1 = .ok (.istore_n 2, 1) := by decide +kernel
theorem dm_Ro_typeEnd_2 : decode mm_Ro_typeEnd.2.1 2 = .ok (.iload_n 1, 1) := by decide +kernel
theorem dm_Ro_typeEnd_3 : decode mm_Ro_typeEnd.2.1 3 = .ok (.istore_n 3, 1) := by decide +kernel
theorem dm_Ro_typeEnd_4 : decode mm_Ro_typeEnd.2.1 4 = .ok (.iload_n 3, 1) := by decide +kernel
theorem dm_Ro_typeEnd_5 : decode mm_Ro_typeEnd.2.1 5 = .ok (.aload_n 0, 1) := by decide +kernel
theorem dm_Ro_typeEnd_6 : decode mm_Ro_typeEnd.2.1 6 = .ok (.getfield 19, 3) := by decide +kernel
theorem dm_Ro_typeEnd_9 : decode mm_Ro_typeEnd.2.1 9 = .ok (.if_icmp .ge 29, 3) := by decide +kernel
theorem dm_Ro_typeEnd_12 : decode mm_Ro_typeEnd.2.1 12 = .ok (.iload_n 2, 1) := by decide +kernel
theorem dm_Ro_typeEnd_13 : decode mm_Ro_typeEnd.2.1 13 = .ok (.ifCond .le 25, 3) := by decide +kernel
theorem dm_Ro_typeEnd_16 : decode mm_Ro_typeEnd.2.1 16 = .ok (.iload_n 2, 1) := by decide +kernel
theorem dm_Ro_typeEnd_17 : decode mm_Ro_typeEnd.2.1 17 = .ok (.aload_n 0, 1) := by decide +kernel
theorem dm_Ro_typeEnd_18 : decode mm_Ro_typeEnd.2.1 18 = .ok (.iload_n 3, 1) := by decide +kernel
theorem dm_Ro_typeEnd_19 : decode mm_Ro_typeEnd.2.1 19 = .ok (.invokevirtual 25, 3) := by decide +kernel
theorem dm_Ro_typeEnd_22 : decode mm_Ro_typeEnd.2.1 22 = .ok (.ifCond .ne 7, 3) := by decide +kernel
theorem dm_Ro_typeEnd_25 : decode mm_Ro_typeEnd.2.1 25 = .ok (.iconst 1, 1) := by decide +kernel
theorem dm_Ro_typeEnd_26 : decode mm_Ro_typeEnd.2.1 26 = .ok (.goto 4, 3) := by decide +kernel
theorem dm_Ro_typeEnd_29 : decode mm_Ro_typeEnd.2.1 29 = .ok (.iconst (-1), 1) := by decide +kernel
theorem dm_Ro_typeEnd_30 : decode mm_Ro_typeEnd.2.1 30 = .ok (.iadd, 1) := by decide +kernel
theorem dm_Ro_typeEnd_31 : decode mm_Ro_typeEnd.2.1 31 = .ok (.istore_n 2, 1) := by decide +kernel
theorem dm_Ro_typeEnd_32 : decode mm_Ro_typeEnd.2.1 32 = .ok (.iinc 3 1, 3) := by decide +kernel
theorem dm_Ro_typeEnd_35 : decode mm_Ro_typeEnd.2.1 35 = .ok (.goto (-31), 3) := by decide +kernel
theorem dm_Ro_typeEnd_38 : decode mm_Ro_typeEnd.2.1 38 = .ok (.iload_n 3, 1) := by decide +kernel
theorem dm_Ro_typeEnd_39 : decode mm_Ro_typeEnd.2.1 39 = .ok (.ireturn, 1) := by decide +kernel
theorem dm_Ro_termEnd_0 : decode mm_Ro_termEnd.2.1 0 = .ok (.iconst 1, 1) := by decide +kernel
theorem dm_Ro_termEnd_1 : decode mm_Ro_termEnd.2.1 1 = .ok (.istore_n 2, 1) := by decide +kernel
theorem dm_Ro_termEnd_2 : decode mm_Ro_termEnd.2.1 2 = .ok (.iload_n 1, 1) := by decide +kernel
theorem dm_Ro_termEnd_3 : decode mm_Ro_termEnd.2.1 3 = .ok (.istore_n 3, 1) := by decide +kernel
theorem dm_Ro_termEnd_4 : decode mm_Ro_termEnd.2.1 4 = .ok (.iload_n 3, 1) := by decide +kernel
theorem dm_Ro_termEnd_5 : decode mm_Ro_termEnd.2.1 5 = .ok (.aload_n 0, 1) := by decide +kernel
theorem dm_Ro_termEnd_6 : decode mm_Ro_termEnd.2.1 6 = .ok (.getfield 19, 3) := by decide +kernel
theorem dm_Ro_termEnd_9 : decode mm_Ro_termEnd.2.1 9 = .ok (.if_icmp .ge 55, 3) := by decide +kernel
theorem dm_Ro_termEnd_12 : decode mm_Ro_termEnd.2.1 12 = .ok (.aload_n 0, 1) := by decide +kernel
theorem dm_Ro_termEnd_13 : decode mm_Ro_termEnd.2.1 13 = .ok (.iload_n 3, 1) := by decide +kernel
theorem dm_Ro_termEnd_14 : decode mm_Ro_termEnd.2.1 14 = .ok (.invokevirtual 25, 3) := by decide +kernel
theorem dm_Ro_termEnd_17 : decode mm_Ro_termEnd.2.1 17 = .ok (.bipush 10, 2) := by decide +kernel
theorem dm_Ro_termEnd_19 : decode mm_Ro_termEnd.2.1 19 = .ok (.if_icmp .lt 7, 3) := by decide +kernel
theorem dm_Ro_termEnd_22 : decode mm_Ro_termEnd.2.1 22 = .ok (.iconst 1, 1) := by decide +kernel
theorem dm_Ro_termEnd_23 : decode mm_Ro_termEnd.2.1 23 = .ok (.goto 4, 3) := by decide +kernel
theorem dm_Ro_termEnd_26 : decode mm_Ro_termEnd.2.1 26 = .ok (.iconst 0, 1) := by decide +kernel
theorem dm_Ro_termEnd_27 : decode mm_Ro_termEnd.2.1 27 = .ok (.istore 4, 2) := by decide +kernel
theorem dm_Ro_termEnd_29 : decode mm_Ro_termEnd.2.1 29 = .ok (.iload 4, 2) := by decide +kernel
theorem dm_Ro_termEnd_31 : decode mm_Ro_termEnd.2.1 31 = .ok (.ifCond .eq 9, 3) := by decide +kernel
theorem dm_Ro_termEnd_34 : decode mm_Ro_termEnd.2.1 34 = .ok (.iload_n 2, 1) := by decide +kernel
theorem dm_Ro_termEnd_35 : decode mm_Ro_termEnd.2.1 35 = .ok (.ifCond .ne 5, 3) := by decide +kernel
theorem dm_Ro_termEnd_38 : decode mm_Ro_termEnd.2.1 38 = .ok (.iload_n 3, 1) := by decide +kernel
theorem dm_Ro_termEnd_39 : decode mm_Ro_termEnd.2.1 39 = .ok (.ireturn, 1) := by decide +kernel
theorem dm_Ro_termEnd_40 : decode mm_Ro_termEnd.2.1 40 = .ok (.iload 4, 2) := by decide +kernel
theorem dm_Ro_termEnd_42 : decode mm_Ro_termEnd.2.1 42 = .ok (.ifCond .eq 16, 3) := by decide +kernel
theorem dm_Ro_termEnd_45 : decode mm_Ro_termEnd.2.1 45 = .ok (.iload_n 2, 1) := by decide +kernel
theorem dm_Ro_termEnd_46 : decode mm_Ro_termEnd.2.1 46 = .ok (.aload_n 0, 1) := by decide +kernel
theorem dm_Ro_termEnd_47 : decode mm_Ro_termEnd.2.1 47 = .ok (.iload_n 3, 1) := by decide +kernel
theorem dm_Ro_termEnd_48 : decode mm_Ro_termEnd.2.1 48 = .ok (.invokevirtual 25, 3) := by decide +kernel
theorem dm_Ro_termEnd_51 : decode mm_Ro_termEnd.2.1 51 = .ok (.invokestatic 29, 3) := by decide +kernel
theorem dm_Ro_termEnd_54 : decode mm_Ro_termEnd.2.1 54 = .ok (.iconst 1, 1) := by decide +kernel
theorem dm_Ro_termEnd_55 : decode mm_Ro_termEnd.2.1 55 = .ok (.isub, 1) := by decide +kernel
theorem dm_Ro_termEnd_56 : decode mm_Ro_termEnd.2.1 56 = .ok (.iadd, 1) := by decide +kernel
theorem dm_Ro_termEnd_57 : decode mm_Ro_termEnd.2.1 57 = .ok (.istore_n 2, 1) := by decide +kernel
theorem dm_Ro_termEnd_58 : decode mm_Ro_termEnd.2.1 58 = .ok (.iinc 3 1, 3) := by decide +kernel
theorem dm_Ro_termEnd_61 : decode mm_Ro_termEnd.2.1 61 = .ok (.goto (-57), 3) := by decide +kernel
theorem dm_Ro_termEnd_64 : decode mm_Ro_termEnd.2.1 64 = .ok (.aload_n 0, 1) := by decide +kernel
theorem dm_Ro_termEnd_65 : decode mm_Ro_termEnd.2.1 65 = .ok (.getfield 19, 3) := by decide +kernel
theorem dm_Ro_termEnd_68 : decode mm_Ro_termEnd.2.1 68 = .ok (.ireturn, 1) := by decide +kernel
theorem dm_Ro_typeAt_0 : decode mm_Ro_typeAt.2.1 0 = .ok (.new 10, 3) := by decide +kernel
theorem dm_Ro_typeAt_3 : decode mm_Ro_typeAt.2.1 3 = .ok (.dup, 1) := by decide +kernel
theorem dm_Ro_typeAt_4 : decode mm_Ro_typeAt.2.1 4 = .ok (.aload_n 0, 1) := by decide +kernel
theorem dm_Ro_typeAt_5 : decode mm_Ro_typeAt.2.1 5 = .ok (.getfield 9, 3) := by decide +kernel
theorem dm_Ro_typeAt_8 : decode mm_Ro_typeAt.2.1 8 = .ok (.aload_n 0, 1) := by decide +kernel
theorem dm_Ro_typeAt_9 : decode mm_Ro_typeAt.2.1 9 = .ok (.getfield 15, 3) := by decide +kernel
theorem dm_Ro_typeAt_12 : decode mm_Ro_typeAt.2.1 12 = .ok (.iload_n 1, 1) := by decide +kernel
theorem dm_Ro_typeAt_13 : decode mm_Ro_typeAt.2.1 13 = .ok (.iadd, 1) := by decide +kernel
theorem dm_Ro_typeAt_14 : decode mm_Ro_typeAt.2.1 14 = .ok (.aload_n 0, 1) := by decide +kernel
theorem dm_Ro_typeAt_15 : decode mm_Ro_typeAt.2.1 15 = .ok (.getfield 15, 3) := by decide +kernel
theorem dm_Ro_typeAt_18 : decode mm_Ro_typeAt.2.1 18 = .ok (.aload_n 0, 1) := by decide +kernel
theorem dm_Ro_typeAt_19 : decode mm_Ro_typeAt.2.1 19 = .ok (.iload_n 1, 1) := by decide +kernel
theorem dm_Ro_typeAt_20 : decode mm_Ro_typeAt.2.1 20 = .ok (.invokevirtual 32, 3) := by decide +kernel
theorem dm_Ro_typeAt_23 : decode mm_Ro_typeAt.2.1 23 = .ok (.iadd, 1) := by decide +kernel
theorem dm_Ro_typeAt_24 : decode mm_Ro_typeAt.2.1 24 = .ok (.invokespecial 22, 3) := by decide +kernel
theorem dm_Ro_typeAt_27 : decode mm_Ro_typeAt.2.1 27 = .ok (.areturn, 1) := by decide +kernel
theorem dm_Ro_functionArgument_0 : decode mm_Ro_functionArgument.2.1 0 = .ok (.aload_n 0, 1) := by decide +kernel
theorem dm_Ro_functionArgument_1 : decode mm_Ro_functionArgument.2.1 1 = .ok (.iconst 1, 1) := by decide +kernel
theorem dm_Ro_functionArgument_2 : decode mm_Ro_functionArgument.2.1 2 = .ok (.invokevirtual 35, 3) := by decide +kernel
theorem dm_Ro_functionArgument_5 : decode mm_Ro_functionArgument.2.1 5 = .ok (.areturn, 1) := by decide +kernel
theorem dm_Ro_functionResult_0 : decode mm_Ro_functionResult.2.1 0 = .ok (.new 10, 3) := by decide +kernel
theorem dm_Ro_functionResult_3 : decode mm_Ro_functionResult.2.1 3 = .ok (.dup, 1) := by decide +kernel
theorem dm_Ro_functionResult_4 : decode mm_Ro_functionResult.2.1 4 = .ok (.aload_n 0, 1) := by decide +kernel
theorem dm_Ro_functionResult_5 : decode mm_Ro_functionResult.2.1 5 = .ok (.getfield 9, 3) := by decide +kernel
theorem dm_Ro_functionResult_8 : decode mm_Ro_functionResult.2.1 8 = .ok (.aload_n 0, 1) := by decide +kernel
theorem dm_Ro_functionResult_9 : decode mm_Ro_functionResult.2.1 9 = .ok (.getfield 15, 3) := by decide +kernel
theorem dm_Ro_functionResult_12 : decode mm_Ro_functionResult.2.1 12 = .ok (.aload_n 0, 1) := by decide +kernel
theorem dm_Ro_functionResult_13 : decode mm_Ro_functionResult.2.1 13 = .ok (.iconst 1, 1) := by decide +kernel
theorem dm_Ro_functionResult_14 : decode mm_Ro_functionResult.2.1 14 = .ok (.invokevirtual 32, 3) := by decide +kernel
theorem dm_Ro_functionResult_17 : decode mm_Ro_functionResult.2.1 17 = .ok (.iadd, 1) := by decide +kernel
theorem dm_Ro_functionResult_18 : decode mm_Ro_functionResult.2.1 18 = .ok (.aload_n 0, 1) := by decide +kernel
theorem dm_Ro_functionResult_19 : decode mm_Ro_functionResult.2.1 19 = .ok (.getfield 15, 3) := by decide +kernel
theorem dm_Ro_functionResult_22 : decode mm_Ro_functionResult.2.1 22 = .ok (.aload_n 0, 1) := by decide +kernel
theorem dm_Ro_functionResult_23 : decode mm_Ro_functionResult.2.1 23 = .ok (.getfield 19, 3) := by decide +kernel
theorem dm_Ro_functionResult_26 : decode mm_Ro_functionResult.2.1 26 = .ok (.iadd, 1) := by decide +kernel
theorem dm_Ro_functionResult_27 : decode mm_Ro_functionResult.2.1 27 = .ok (.invokespecial 22, 3) := by decide +kernel
theorem dm_Ro_functionResult_30 : decode mm_Ro_functionResult.2.1 30 = .ok (.areturn, 1) := by decide +kernel
theorem dm_Ro_same_0 : decode mm_Ro_same.2.1 0 = .ok (.aload_n 0, 1) := by decide +kernel
theorem dm_Ro_same_1 : decode mm_Ro_same.2.1 1 = .ok (.getfield 19, 3) := by decide +kernel
theorem dm_Ro_same_4 : decode mm_Ro_same.2.1 4 = .ok (.aload_n 1, 1) := by decide +kernel
theorem dm_Ro_same_5 : decode mm_Ro_same.2.1 5 = .ok (.getfield 19, 3) := by decide +kernel
theorem dm_Ro_same_8 : decode mm_Ro_same.2.1 8 = .ok (.if_icmp .ne 16, 3) := by decide +kernel
theorem dm_Ro_same_11 : decode mm_Ro_same.2.1 11 = .ok (.aload_n 0, 1) := by decide +kernel
theorem dm_Ro_same_12 : decode mm_Ro_same.2.1 12 = .ok (.iconst 0, 1) := by decide +kernel
theorem dm_Ro_same_13 : decode mm_Ro_same.2.1 13 = .ok (.aload_n 1, 1) := by decide +kernel
theorem dm_Ro_same_14 : decode mm_Ro_same.2.1 14 = .ok (.invokevirtual 39, 3) := by decide +kernel
theorem dm_Ro_same_17 : decode mm_Ro_same.2.1 17 = .ok (.ifCond .eq 7, 3) := by decide +kernel
theorem dm_Ro_same_20 : decode mm_Ro_same.2.1 20 = .ok (.iconst 1, 1) := by decide +kernel
theorem dm_Ro_same_21 : decode mm_Ro_same.2.1 21 = .ok (.goto 4, 3) := by decide +kernel
theorem dm_Ro_same_24 : decode mm_Ro_same.2.1 24 = .ok (.iconst 0, 1) := by decide +kernel
theorem dm_Ro_same_25 : decode mm_Ro_same.2.1 25 = .ok (.ireturn, 1) := by decide +kernel
theorem dm_Ro_holdsAt_0 : decode mm_Ro_holdsAt.2.1 0 = .ok (.iconst 0, 1) := by decide +kernel
theorem dm_Ro_holdsAt_1 : decode mm_Ro_holdsAt.2.1 1 = .ok (.istore_n 3, 1) := by decide +kernel
theorem dm_Ro_holdsAt_2 : decode mm_Ro_holdsAt.2.1 2 = .ok (.iload_n 3, 1) := by decide +kernel
theorem dm_Ro_holdsAt_3 : decode mm_Ro_holdsAt.2.1 3 = .ok (.aload_n 2, 1) := by decide +kernel
theorem dm_Ro_holdsAt_4 : decode mm_Ro_holdsAt.2.1 4 = .ok (.getfield 19, 3) := by decide +kernel
theorem dm_Ro_holdsAt_7 : decode mm_Ro_holdsAt.2.1 7 = .ok (.if_icmp .ge 26, 3) := by decide +kernel
theorem dm_Ro_holdsAt_10 : decode mm_Ro_holdsAt.2.1 10 = .ok (.aload_n 0, 1) := by decide +kernel
theorem dm_Ro_holdsAt_11 : decode mm_Ro_holdsAt.2.1 11 = .ok (.iload_n 1, 1) := by decide +kernel
theorem dm_Ro_holdsAt_12 : decode mm_Ro_holdsAt.2.1 12 = .ok (.iload_n 3, 1) := by decide +kernel
theorem dm_Ro_holdsAt_13 : decode mm_Ro_holdsAt.2.1 13 = .ok (.iadd, 1) := by decide +kernel
theorem dm_Ro_holdsAt_14 : decode mm_Ro_holdsAt.2.1 14 = .ok (.invokevirtual 25, 3) := by decide +kernel
theorem dm_Ro_holdsAt_17 : decode mm_Ro_holdsAt.2.1 17 = .ok (.aload_n 2, 1) := by decide +kernel
theorem dm_Ro_holdsAt_18 : decode mm_Ro_holdsAt.2.1 18 = .ok (.iload_n 3, 1) := by decide +kernel
theorem dm_Ro_holdsAt_19 : decode mm_Ro_holdsAt.2.1 19 = .ok (.invokevirtual 25, 3) := by decide +kernel
theorem dm_Ro_holdsAt_22 : decode mm_Ro_holdsAt.2.1 22 = .ok (.if_icmp .eq 5, 3) := by decide +kernel
theorem dm_Ro_holdsAt_25 : decode mm_Ro_holdsAt.2.1 25 = .ok (.iconst 0, 1) := by decide +kernel
theorem dm_Ro_holdsAt_26 : decode mm_Ro_holdsAt.2.1 26 = .ok (.ireturn, 1) := by decide +kernel
theorem dm_Ro_holdsAt_27 : decode mm_Ro_holdsAt.2.1 27 = .ok (.iinc 3 1, 3) := by decide +kernel
theorem dm_Ro_holdsAt_30 : decode mm_Ro_holdsAt.2.1 30 = .ok (.goto (-28), 3) := by decide +kernel
theorem dm_Ro_holdsAt_33 : decode mm_Ro_holdsAt.2.1 33 = .ok (.iconst 1, 1) := by decide +kernel
theorem dm_Ro_holdsAt_34 : decode mm_Ro_holdsAt.2.1 34 = .ok (.ireturn, 1) := by decide +kernel
theorem dm_Ro_comesBefore_0 : decode mm_Ro_comesBefore.2.1 0 = .ok (.iconst 0, 1) := by decide +kernel
theorem dm_Ro_comesBefore_1 : decode mm_Ro_comesBefore.2.1 1 = .ok (.istore_n 2, 1) := by decide +kernel
theorem dm_Ro_comesBefore_2 : decode mm_Ro_comesBefore.2.1 2 = .ok (.iload_n 2, 1) := by decide +kernel
theorem dm_Ro_comesBefore_3 : decode mm_Ro_comesBefore.2.1 3 = .ok (.aload_n 0, 1) := by decide +kernel
theorem dm_Ro_comesBefore_4 : decode mm_Ro_comesBefore.2.1 4 = .ok (.getfield 19, 3) := by decide +kernel
theorem dm_Ro_comesBefore_7 : decode mm_Ro_comesBefore.2.1 7 = .ok (.if_icmp .ge 41, 3) := by decide +kernel
theorem dm_Ro_comesBefore_10 : decode mm_Ro_comesBefore.2.1 10 = .ok (.aload_n 0, 1) := by decide +kernel
theorem dm_Ro_comesBefore_11 : decode mm_Ro_comesBefore.2.1 11 = .ok (.iload_n 2, 1) := by decide +kernel
theorem dm_Ro_comesBefore_12 : decode mm_Ro_comesBefore.2.1 12 = .ok (.invokevirtual 25, 3) := by decide +kernel
theorem dm_Ro_comesBefore_15 : decode mm_Ro_comesBefore.2.1 15 = .ok (.aload_n 1, 1) := by decide +kernel
theorem dm_Ro_comesBefore_16 : decode mm_Ro_comesBefore.2.1 16 = .ok (.iload_n 2, 1) := by decide +kernel
theorem dm_Ro_comesBefore_17 : decode mm_Ro_comesBefore.2.1 17 = .ok (.invokevirtual 25, 3) := by decide +kernel
theorem dm_Ro_comesBefore_20 : decode mm_Ro_comesBefore.2.1 20 = .ok (.if_icmp .eq 22, 3) := by decide +kernel
theorem dm_Ro_comesBefore_23 : decode mm_Ro_comesBefore.2.1 23 = .ok (.aload_n 0, 1) := by decide +kernel
theorem dm_Ro_comesBefore_24 : decode mm_Ro_comesBefore.2.1 24 = .ok (.iload_n 2, 1) := by decide +kernel
theorem dm_Ro_comesBefore_25 : decode mm_Ro_comesBefore.2.1 25 = .ok (.invokevirtual 25, 3) := by decide +kernel
theorem dm_Ro_comesBefore_28 : decode mm_Ro_comesBefore.2.1 28 = .ok (.aload_n 1, 1) := by decide +kernel
theorem dm_Ro_comesBefore_29 : decode mm_Ro_comesBefore.2.1 29 = .ok (.iload_n 2, 1) := by decide +kernel
theorem dm_Ro_comesBefore_30 : decode mm_Ro_comesBefore.2.1 30 = .ok (.invokevirtual 25, 3) := by decide +kernel
theorem dm_Ro_comesBefore_33 : decode mm_Ro_comesBefore.2.1 33 = .ok (.if_icmp .ge 7, 3) := by decide +kernel
theorem dm_Ro_comesBefore_36 : decode mm_Ro_comesBefore.2.1 36 = .ok (.iconst 1, 1) := by decide +kernel
theorem dm_Ro_comesBefore_37 : decode mm_Ro_comesBefore.2.1 37 = .ok (.goto 4, 3) := by decide +kernel
theorem dm_Ro_comesBefore_40 : decode mm_Ro_comesBefore.2.1 40 = .ok (.iconst 0, 1) := by decide +kernel
theorem dm_Ro_comesBefore_41 : decode mm_Ro_comesBefore.2.1 41 = .ok (.ireturn, 1) := by decide +kernel
theorem dm_Ro_comesBefore_42 : decode mm_Ro_comesBefore.2.1 42 = .ok (.iinc 2 1, 3) := by decide +kernel
theorem dm_Ro_comesBefore_45 : decode mm_Ro_comesBefore.2.1 45 = .ok (.goto (-43), 3) := by decide +kernel
theorem dm_Ro_comesBefore_48 : decode mm_Ro_comesBefore.2.1 48 = .ok (.iconst 0, 1) := by decide +kernel
theorem dm_Ro_comesBefore_49 : decode mm_Ro_comesBefore.2.1 49 = .ok (.ireturn, 1) := by decide +kernel
theorem dm_Ro_hasFree_0 : decode mm_Ro_hasFree.2.1 0 = .ok (.iconst 0, 1) := by decide +kernel
theorem dm_Ro_hasFree_1 : decode mm_Ro_hasFree.2.1 1 = .ok (.istore_n 2, 1) := by decide +kernel
theorem dm_Ro_hasFree_2 : decode mm_Ro_hasFree.2.1 2 = .ok (.iload_n 2, 1) := by decide +kernel
theorem dm_Ro_hasFree_3 : decode mm_Ro_hasFree.2.1 3 = .ok (.aload_n 0, 1) := by decide +kernel
theorem dm_Ro_hasFree_4 : decode mm_Ro_hasFree.2.1 4 = .ok (.getfield 19, 3) := by decide +kernel
theorem dm_Ro_hasFree_7 : decode mm_Ro_hasFree.2.1 7 = .ok (.if_icmp .ge 20, 3) := by decide +kernel
theorem dm_Ro_hasFree_10 : decode mm_Ro_hasFree.2.1 10 = .ok (.aload_n 0, 1) := by decide +kernel
theorem dm_Ro_hasFree_11 : decode mm_Ro_hasFree.2.1 11 = .ok (.iload_n 2, 1) := by decide +kernel
theorem dm_Ro_hasFree_12 : decode mm_Ro_hasFree.2.1 12 = .ok (.aload_n 1, 1) := by decide +kernel
theorem dm_Ro_hasFree_13 : decode mm_Ro_hasFree.2.1 13 = .ok (.invokevirtual 39, 3) := by decide +kernel
theorem dm_Ro_hasFree_16 : decode mm_Ro_hasFree.2.1 16 = .ok (.ifCond .eq 5, 3) := by decide +kernel
theorem dm_Ro_hasFree_19 : decode mm_Ro_hasFree.2.1 19 = .ok (.iconst 1, 1) := by decide +kernel
theorem dm_Ro_hasFree_20 : decode mm_Ro_hasFree.2.1 20 = .ok (.ireturn, 1) := by decide +kernel
theorem dm_Ro_hasFree_21 : decode mm_Ro_hasFree.2.1 21 = .ok (.iinc 2 1, 3) := by decide +kernel
theorem dm_Ro_hasFree_24 : decode mm_Ro_hasFree.2.1 24 = .ok (.goto (-22), 3) := by decide +kernel
theorem dm_Ro_hasFree_27 : decode mm_Ro_hasFree.2.1 27 = .ok (.iconst 0, 1) := by decide +kernel
theorem dm_Ro_hasFree_28 : decode mm_Ro_hasFree.2.1 28 = .ok (.ireturn, 1) := by decide +kernel
theorem dm_Ro_hasFreeVariable_0 : decode mm_Ro_hasFreeVariable.2.1 0 = .ok (.aload_n 0, 1) := by decide +kernel
theorem dm_Ro_hasFreeVariable_1 : decode mm_Ro_hasFreeVariable.2.1 1 = .ok (.bipush 10, 2) := by decide +kernel
theorem dm_Ro_hasFreeVariable_3 : decode mm_Ro_hasFreeVariable.2.1 3 = .ok (.invokevirtual 43, 3) := by decide +kernel
theorem dm_Ro_hasFreeVariable_6 : decode mm_Ro_hasFreeVariable.2.1 6 = .ok (.ireturn, 1) := by decide +kernel
theorem dm_Ro_has_0 : decode mm_Ro_has.2.1 0 = .ok (.iconst 0, 1) := by decide +kernel
theorem dm_Ro_has_1 : decode mm_Ro_has.2.1 1 = .ok (.istore_n 2, 1) := by decide +kernel
theorem dm_Ro_has_2 : decode mm_Ro_has.2.1 2 = .ok (.iload_n 2, 1) := by decide +kernel
theorem dm_Ro_has_3 : decode mm_Ro_has.2.1 3 = .ok (.aload_n 0, 1) := by decide +kernel
theorem dm_Ro_has_4 : decode mm_Ro_has.2.1 4 = .ok (.getfield 19, 3) := by decide +kernel
theorem dm_Ro_has_7 : decode mm_Ro_has.2.1 7 = .ok (.if_icmp .ge 20, 3) := by decide +kernel
theorem dm_Ro_has_10 : decode mm_Ro_has.2.1 10 = .ok (.aload_n 0, 1) := by decide +kernel
theorem dm_Ro_has_11 : decode mm_Ro_has.2.1 11 = .ok (.iload_n 2, 1) := by decide +kernel
theorem dm_Ro_has_12 : decode mm_Ro_has.2.1 12 = .ok (.invokevirtual 25, 3) := by decide +kernel
theorem dm_Ro_has_15 : decode mm_Ro_has.2.1 15 = .ok (.iload_n 1, 1) := by decide +kernel
theorem dm_Ro_has_16 : decode mm_Ro_has.2.1 16 = .ok (.if_icmp .ne 5, 3) := by decide +kernel
theorem dm_Ro_has_19 : decode mm_Ro_has.2.1 19 = .ok (.iconst 1, 1) := by decide +kernel
theorem dm_Ro_has_20 : decode mm_Ro_has.2.1 20 = .ok (.ireturn, 1) := by decide +kernel
theorem dm_Ro_has_21 : decode mm_Ro_has.2.1 21 = .ok (.iinc 2 1, 3) := by decide +kernel
theorem dm_Ro_has_24 : decode mm_Ro_has.2.1 24 = .ok (.goto (-22), 3) := by decide +kernel
theorem dm_Ro_has_27 : decode mm_Ro_has.2.1 27 = .ok (.iconst 0, 1) := by decide +kernel
theorem dm_Ro_has_28 : decode mm_Ro_has.2.1 28 = .ok (.ireturn, 1) := by decide +kernel
theorem dm_Ro_typeVariablesStandIn_0 : decode mm_Ro_typeVariablesStandIn.2.1 0 = .ok (.iconst 0, 1) := by decide +kernel
theorem dm_Ro_typeVariablesStandIn_1 : decode mm_Ro_typeVariablesStandIn.2.1 1 = .ok (.istore_n 2, 1) := by decide +kernel
theorem dm_Ro_typeVariablesStandIn_2 : decode mm_Ro_typeVariablesStandIn.2.1 2 = .ok (.iload_n 2, 1) := by decide +kernel
theorem dm_Ro_typeVariablesStandIn_3 : decode mm_Ro_typeVariablesStandIn.2.1 3 = .ok (.aload_n 0, 1) := by decide +kernel
theorem dm_Ro_typeVariablesStandIn_4 : decode mm_Ro_typeVariablesStandIn.2.1 4 = .ok (.getfield 19, 3) := by decide +kernel
theorem dm_Ro_typeVariablesStandIn_7 : decode mm_Ro_typeVariablesStandIn.2.1 7 = .ok (.if_icmp .ge 40, 3) := by decide +kernel
theorem dm_Ro_typeVariablesStandIn_10 : decode mm_Ro_typeVariablesStandIn.2.1 10 = .ok (.aload_n 0, 1) := by decide +kernel
theorem dm_Ro_typeVariablesStandIn_11 : decode mm_Ro_typeVariablesStandIn.2.1 11 = .ok (.iload_n 2, 1) := by decide +kernel
theorem dm_Ro_typeVariablesStandIn_12 : decode mm_Ro_typeVariablesStandIn.2.1 12 = .ok (.invokevirtual 47, 3) := by decide +kernel
theorem dm_Ro_typeVariablesStandIn_15 : decode mm_Ro_typeVariablesStandIn.2.1 15 = .ok (.ifCond .eq 26, 3) := by decide +kernel
theorem dm_Ro_typeVariablesStandIn_18 : decode mm_Ro_typeVariablesStandIn.2.1 18 = .ok (.aload_n 0, 1) := by decide +kernel
theorem dm_Ro_typeVariablesStandIn_19 : decode mm_Ro_typeVariablesStandIn.2.1 19 = .ok (.iload_n 2, 1) := by decide +kernel
theorem dm_Ro_typeVariablesStandIn_20 : decode mm_Ro_typeVariablesStandIn.2.1 20 = .ok (.invokevirtual 25, 3) := by decide +kernel
theorem dm_Ro_typeVariablesStandIn_23 : decode mm_Ro_typeVariablesStandIn.2.1 23 = .ok (.iconst 2, 1) := by decide +kernel
theorem dm_Ro_typeVariablesStandIn_24 : decode mm_Ro_typeVariablesStandIn.2.1 24 = .ok (.if_icmp .lt 17, 3) := by decide +kernel
theorem dm_Ro_typeVariablesStandIn_27 : decode mm_Ro_typeVariablesStandIn.2.1 27 = .ok (.aload_n 1, 1) := by decide +kernel
theorem dm_Ro_typeVariablesStandIn_28 : decode mm_Ro_typeVariablesStandIn.2.1 28 = .ok (.aload_n 0, 1) := by decide +kernel
theorem dm_Ro_typeVariablesStandIn_29 : decode mm_Ro_typeVariablesStandIn.2.1 29 = .ok (.iload_n 2, 1) := by decide +kernel
theorem dm_Ro_typeVariablesStandIn_30 : decode mm_Ro_typeVariablesStandIn.2.1 30 = .ok (.invokevirtual 25, 3) := by decide +kernel
theorem dm_Ro_typeVariablesStandIn_33 : decode mm_Ro_typeVariablesStandIn.2.1 33 = .ok (.invokevirtual 43, 3) := by decide +kernel
theorem dm_Ro_typeVariablesStandIn_36 : decode mm_Ro_typeVariablesStandIn.2.1 36 = .ok (.ifCond .ne 5, 3) := by decide +kernel
theorem dm_Ro_typeVariablesStandIn_39 : decode mm_Ro_typeVariablesStandIn.2.1 39 = .ok (.iconst 0, 1) := by decide +kernel
theorem dm_Ro_typeVariablesStandIn_40 : decode mm_Ro_typeVariablesStandIn.2.1 40 = .ok (.ireturn, 1) := by decide +kernel
theorem dm_Ro_typeVariablesStandIn_41 : decode mm_Ro_typeVariablesStandIn.2.1 41 = .ok (.iinc 2 1, 3) := by decide +kernel
theorem dm_Ro_typeVariablesStandIn_44 : decode mm_Ro_typeVariablesStandIn.2.1 44 = .ok (.goto (-42), 3) := by decide +kernel
theorem dm_Ro_typeVariablesStandIn_47 : decode mm_Ro_typeVariablesStandIn.2.1 47 = .ok (.iconst 1, 1) := by decide +kernel
theorem dm_Ro_typeVariablesStandIn_48 : decode mm_Ro_typeVariablesStandIn.2.1 48 = .ok (.ireturn, 1) := by decide +kernel
theorem dm_Ro_isOfType_0 : decode mm_Ro_isOfType.2.1 0 = .ok (.aload_n 0, 1) := by decide +kernel
theorem dm_Ro_isOfType_1 : decode mm_Ro_isOfType.2.1 1 = .ok (.iload_n 1, 1) := by decide +kernel
theorem dm_Ro_isOfType_2 : decode mm_Ro_isOfType.2.1 2 = .ok (.iconst 1, 1) := by decide +kernel
theorem dm_Ro_isOfType_3 : decode mm_Ro_isOfType.2.1 3 = .ok (.isub, 1) := by decide +kernel
theorem dm_Ro_isOfType_4 : decode mm_Ro_isOfType.2.1 4 = .ok (.invokevirtual 25, 3) := by decide +kernel
theorem dm_Ro_isOfType_7 : decode mm_Ro_isOfType.2.1 7 = .ok (.istore_n 2, 1) := by decide +kernel
theorem dm_Ro_isOfType_8 : decode mm_Ro_isOfType.2.1 8 = .ok (.aload_n 0, 1) := by decide +kernel
theorem dm_Ro_isOfType_9 : decode mm_Ro_isOfType.2.1 9 = .ok (.iload_n 1, 1) := by decide +kernel
theorem dm_Ro_isOfType_10 : decode mm_Ro_isOfType.2.1 10 = .ok (.invokevirtual 25, 3) := by decide +kernel
theorem dm_Ro_isOfType_13 : decode mm_Ro_isOfType.2.1 13 = .ok (.bipush 10, 2) := by decide +kernel
theorem dm_Ro_isOfType_15 : decode mm_Ro_isOfType.2.1 15 = .ok (.if_icmp .ge 19, 3) := by decide +kernel
theorem dm_Ro_isOfType_18 : decode mm_Ro_isOfType.2.1 18 = .ok (.iload_n 2, 1) := by decide +kernel
theorem dm_Ro_isOfType_19 : decode mm_Ro_isOfType.2.1 19 = .ok (.bipush 10, 2) := by decide +kernel
theorem dm_Ro_isOfType_21 : decode mm_Ro_isOfType.2.1 21 = .ok (.if_icmp .eq 13, 3) := by decide +kernel
theorem dm_Ro_isOfType_24 : decode mm_Ro_isOfType.2.1 24 = .ok (.iload_n 2, 1) := by decide +kernel
theorem dm_Ro_isOfType_25 : decode mm_Ro_isOfType.2.1 25 = .ok (.bipush 11, 2) := by decide +kernel
theorem dm_Ro_isOfType_27 : decode mm_Ro_isOfType.2.1 27 = .ok (.if_icmp .eq 7, 3) := by decide +kernel
theorem dm_Ro_isOfType_30 : decode mm_Ro_isOfType.2.1 30 = .ok (.iconst 1, 1) := by decide +kernel
theorem dm_Ro_isOfType_31 : decode mm_Ro_isOfType.2.1 31 = .ok (.goto 4, 3) := by decide +kernel
theorem dm_Ro_isOfType_34 : decode mm_Ro_isOfType.2.1 34 = .ok (.iconst 0, 1) := by decide +kernel
theorem dm_Ro_isOfType_35 : decode mm_Ro_isOfType.2.1 35 = .ok (.ireturn, 1) := by decide +kernel
theorem dm_Ro_termsWithin_0 : decode mm_Ro_termsWithin.2.1 0 = .ok (.iload_n 0, 1) := by decide +kernel
theorem dm_Ro_termsWithin_1 : decode mm_Ro_termsWithin.2.1 1 = .ok (.bipush 12, 2) := by decide +kernel
theorem dm_Ro_termsWithin_3 : decode mm_Ro_termsWithin.2.1 3 = .ok (.if_icmp .ne 5, 3) := by decide +kernel
theorem dm_Ro_termsWithin_6 : decode mm_Ro_termsWithin.2.1 6 = .ok (.iconst 2, 1) := by decide +kernel
theorem dm_Ro_termsWithin_7 : decode mm_Ro_termsWithin.2.1 7 = .ok (.ireturn, 1) := by decide +kernel
theorem dm_Ro_termsWithin_8 : decode mm_Ro_termsWithin.2.1 8 = .ok (.iload_n 0, 1) := by decide +kernel
theorem dm_Ro_termsWithin_9 : decode mm_Ro_termsWithin.2.1 9 = .ok (.bipush 13, 2) := by decide +kernel
theorem dm_Ro_termsWithin_11 : decode mm_Ro_termsWithin.2.1 11 = .ok (.if_icmp .ne 7, 3) := by decide +kernel
theorem dm_Ro_termsWithin_14 : decode mm_Ro_termsWithin.2.1 14 = .ok (.iconst 1, 1) := by decide +kernel
theorem dm_Ro_termsWithin_15 : decode mm_Ro_termsWithin.2.1 15 = .ok (.goto 4, 3) := by decide +kernel
theorem dm_Ro_termsWithin_18 : decode mm_Ro_termsWithin.2.1 18 = .ok (.iconst 0, 1) := by decide +kernel
theorem dm_Ro_termsWithin_19 : decode mm_Ro_termsWithin.2.1 19 = .ok (.ireturn, 1) := by decide +kernel
theorem dm_Sc_init_0 : decode mm_Sc_init.2.1 0 = .ok (.aload_n 0, 1) := by decide +kernel
theorem dm_Sc_init_1 : decode mm_Sc_init.2.1 1 = .ok (.invokespecial 3, 3) := by decide +kernel
theorem dm_Sc_init_4 : decode mm_Sc_init.2.1 4 = .ok (.aload_n 0, 1) := by decide +kernel
theorem dm_Sc_init_5 : decode mm_Sc_init.2.1 5 = .ok (.bipush 81, 2) := by decide +kernel
theorem dm_Sc_init_7 : decode mm_Sc_init.2.1 7 = .ok (.newarray .int, 2) := by decide +kernel
theorem dm_Sc_init_9 : decode mm_Sc_init.2.1 9 = .ok (.putfield 9, 3) := by decide +kernel
theorem dm_Sc_init_12 : decode mm_Sc_init.2.1 12 = .ok (.aload_n 0, 1) := by decide +kernel
theorem dm_Sc_init_13 : decode mm_Sc_init.2.1 13 = .ok (.new 15, 3) := by decide +kernel
theorem dm_Sc_init_16 : decode mm_Sc_init.2.1 16 = .ok (.dup, 1) := by decide +kernel
theorem dm_Sc_init_17 : decode mm_Sc_init.2.1 17 = .ok (.invokespecial 17, 3) := by decide +kernel
theorem dm_Sc_init_20 : decode mm_Sc_init.2.1 20 = .ok (.putfield 18, 3) := by decide +kernel
theorem dm_Sc_init_23 : decode mm_Sc_init.2.1 23 = .ok (.aload_n 0, 1) := by decide +kernel
theorem dm_Sc_init_24 : decode mm_Sc_init.2.1 24 = .ok (.bipush 40, 2) := by decide +kernel
theorem dm_Sc_init_26 : decode mm_Sc_init.2.1 26 = .ok (.anewarray 22, 3) := by decide +kernel
theorem dm_Sc_init_29 : decode mm_Sc_init.2.1 29 = .ok (.putfield 24, 3) := by decide +kernel
theorem dm_Sc_init_32 : decode mm_Sc_init.2.1 32 = .ok (.return_, 1) := by decide +kernel
theorem dm_Sc_simpleType_0 : decode mm_Sc_simpleType.2.1 0 = .ok (.aload_n 0, 1) := by decide +kernel
theorem dm_Sc_simpleType_1 : decode mm_Sc_simpleType.2.1 1 = .ok (.iload_n 1, 1) := by decide +kernel
theorem dm_Sc_simpleType_2 : decode mm_Sc_simpleType.2.1 2 = .ok (.invokevirtual 28, 3) := by decide +kernel
theorem dm_Sc_simpleType_5 : decode mm_Sc_simpleType.2.1 5 = .ok (.aload_n 0, 1) := by decide +kernel
theorem dm_Sc_simpleType_6 : decode mm_Sc_simpleType.2.1 6 = .ok (.invokevirtual 32, 3) := by decide +kernel
theorem dm_Sc_simpleType_9 : decode mm_Sc_simpleType.2.1 9 = .ok (.areturn, 1) := by decide +kernel
theorem dm_Sc_functionType_0 : decode mm_Sc_functionType.2.1 0 = .ok (.aload_n 0, 1) := by decide +kernel
theorem dm_Sc_functionType_1 : decode mm_Sc_functionType.2.1 1 = .ok (.iconst 0, 1) := by decide +kernel
theorem dm_Sc_functionType_2 : decode mm_Sc_functionType.2.1 2 = .ok (.invokevirtual 28, 3) := by decide +kernel
theorem dm_Sc_functionType_5 : decode mm_Sc_functionType.2.1 5 = .ok (.aload_n 0, 1) := by decide +kernel
theorem dm_Sc_functionType_6 : decode mm_Sc_functionType.2.1 6 = .ok (.aload_n 1, 1) := by decide +kernel
theorem dm_Sc_functionType_7 : decode mm_Sc_functionType.2.1 7 = .ok (.invokevirtual 36, 3) := by decide +kernel
theorem dm_Sc_functionType_10 : decode mm_Sc_functionType.2.1 10 = .ok (.aload_n 0, 1) := by decide +kernel
theorem dm_Sc_functionType_11 : decode mm_Sc_functionType.2.1 11 = .ok (.aload_n 2, 1) := by decide +kernel
theorem dm_Sc_functionType_12 : decode mm_Sc_functionType.2.1 12 = .ok (.invokevirtual 36, 3) := by decide +kernel
theorem dm_Sc_functionType_15 : decode mm_Sc_functionType.2.1 15 = .ok (.aload_n 0, 1) := by decide +kernel
theorem dm_Sc_functionType_16 : decode mm_Sc_functionType.2.1 16 = .ok (.invokevirtual 32, 3) := by decide +kernel
theorem dm_Sc_functionType_19 : decode mm_Sc_functionType.2.1 19 = .ok (.areturn, 1) := by decide +kernel
theorem dm_Sc_leaf_0 : decode mm_Sc_leaf.2.1 0 = .ok (.aload_n 0, 1) := by decide +kernel
theorem dm_Sc_leaf_1 : decode mm_Sc_leaf.2.1 1 = .ok (.iload_n 1, 1) := by decide +kernel
theorem dm_Sc_leaf_2 : decode mm_Sc_leaf.2.1 2 = .ok (.invokevirtual 28, 3) := by decide +kernel
theorem dm_Sc_leaf_5 : decode mm_Sc_leaf.2.1 5 = .ok (.aload_n 0, 1) := by decide +kernel
theorem dm_Sc_leaf_6 : decode mm_Sc_leaf.2.1 6 = .ok (.iload_n 2, 1) := by decide +kernel
theorem dm_Sc_leaf_7 : decode mm_Sc_leaf.2.1 7 = .ok (.invokevirtual 28, 3) := by decide +kernel
theorem dm_Sc_leaf_10 : decode mm_Sc_leaf.2.1 10 = .ok (.aload_n 0, 1) := by decide +kernel
theorem dm_Sc_leaf_11 : decode mm_Sc_leaf.2.1 11 = .ok (.aload_n 3, 1) := by decide +kernel
theorem dm_Sc_leaf_12 : decode mm_Sc_leaf.2.1 12 = .ok (.invokevirtual 36, 3) := by decide +kernel
theorem dm_Sc_leaf_15 : decode mm_Sc_leaf.2.1 15 = .ok (.aload_n 0, 1) := by decide +kernel
theorem dm_Sc_leaf_16 : decode mm_Sc_leaf.2.1 16 = .ok (.invokevirtual 32, 3) := by decide +kernel
theorem dm_Sc_leaf_19 : decode mm_Sc_leaf.2.1 19 = .ok (.areturn, 1) := by decide +kernel
theorem dm_Sc_application_0 : decode mm_Sc_application.2.1 0 = .ok (.aload_n 0, 1) := by decide +kernel
theorem dm_Sc_application_1 : decode mm_Sc_application.2.1 1 = .ok (.bipush 12, 2) := by decide +kernel
theorem dm_Sc_application_3 : decode mm_Sc_application.2.1 3 = .ok (.invokevirtual 28, 3) := by decide +kernel
theorem dm_Sc_application_6 : decode mm_Sc_application.2.1 6 = .ok (.aload_n 0, 1) := by decide +kernel
theorem dm_Sc_application_7 : decode mm_Sc_application.2.1 7 = .ok (.aload_n 1, 1) := by decide +kernel
theorem dm_Sc_application_8 : decode mm_Sc_application.2.1 8 = .ok (.invokevirtual 36, 3) := by decide +kernel
theorem dm_Sc_application_11 : decode mm_Sc_application.2.1 11 = .ok (.aload_n 0, 1) := by decide +kernel
theorem dm_Sc_application_12 : decode mm_Sc_application.2.1 12 = .ok (.aload_n 2, 1) := by decide +kernel
theorem dm_Sc_application_13 : decode mm_Sc_application.2.1 13 = .ok (.invokevirtual 36, 3) := by decide +kernel
theorem dm_Sc_application_16 : decode mm_Sc_application.2.1 16 = .ok (.aload_n 0, 1) := by decide +kernel
theorem dm_Sc_application_17 : decode mm_Sc_application.2.1 17 = .ok (.invokevirtual 32, 3) := by decide +kernel
theorem dm_Sc_application_20 : decode mm_Sc_application.2.1 20 = .ok (.areturn, 1) := by decide +kernel
theorem dm_Sc_equation_0 : decode mm_Sc_equation.2.1 0 = .ok (.aload_n 0, 1) := by decide +kernel
theorem dm_Sc_equation_1 : decode mm_Sc_equation.2.1 1 = .ok (.bipush 12, 2) := by decide +kernel
theorem dm_Sc_equation_3 : decode mm_Sc_equation.2.1 3 = .ok (.invokevirtual 28, 3) := by decide +kernel
theorem dm_Sc_equation_6 : decode mm_Sc_equation.2.1 6 = .ok (.aload_n 0, 1) := by decide +kernel
theorem dm_Sc_equation_7 : decode mm_Sc_equation.2.1 7 = .ok (.bipush 12, 2) := by decide +kernel
theorem dm_Sc_equation_9 : decode mm_Sc_equation.2.1 9 = .ok (.invokevirtual 28, 3) := by decide +kernel
theorem dm_Sc_equation_12 : decode mm_Sc_equation.2.1 12 = .ok (.aload_n 0, 1) := by decide +kernel
theorem dm_Sc_equation_13 : decode mm_Sc_equation.2.1 13 = .ok (.bipush 11, 2) := by decide +kernel
theorem dm_Sc_equation_15 : decode mm_Sc_equation.2.1 15 = .ok (.invokevirtual 28, 3) := by decide +kernel
theorem dm_Sc_equation_18 : decode mm_Sc_equation.2.1 18 = .ok (.aload_n 0, 1) := by decide +kernel
theorem dm_Sc_equation_19 : decode mm_Sc_equation.2.1 19 = .ok (.iconst 0, 1) := by decide +kernel
theorem dm_Sc_equation_20 : decode mm_Sc_equation.2.1 20 = .ok (.invokevirtual 28, 3) := by decide +kernel
theorem dm_Sc_equation_23 : decode mm_Sc_equation.2.1 23 = .ok (.aload_n 0, 1) := by decide +kernel
theorem dm_Sc_equation_24 : decode mm_Sc_equation.2.1 24 = .ok (.aload_n 1, 1) := by decide +kernel
theorem dm_Sc_equation_25 : decode mm_Sc_equation.2.1 25 = .ok (.invokevirtual 36, 3) := by decide +kernel
theorem dm_Sc_equation_28 : decode mm_Sc_equation.2.1 28 = .ok (.aload_n 0, 1) := by decide +kernel
theorem dm_Sc_equation_29 : decode mm_Sc_equation.2.1 29 = .ok (.aload_n 2, 1) := by decide +kernel
theorem dm_Sc_equation_30 : decode mm_Sc_equation.2.1 30 = .ok (.invokevirtual 36, 3) := by decide +kernel
