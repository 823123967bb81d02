theorem dm_Ma_init_0 : decode mm_Ma_init.2.1 0 = .ok (.aload_n 0, 1) := by decide +kernel
theorem dm_Ma_init_1 : decode mm_Ma_init.2.1 1 = .ok (.invokespecial 1, 3) := by decide +kernel
theorem dm_Ma_init_4 : decode mm_Ma_init.2.1 4 = .ok (.aload_n 0, 1) := by decide +kernel
theorem dm_Ma_init_5 : decode mm_Ma_init.2.1 5 = .ok (.new 7, 3) := by decide +kernel
theorem dm_Ma_init_8 : decode mm_Ma_init.2.1 8 = .ok (.dup, 1) := by decide +kernel
theorem dm_Ma_init_9 : decode mm_Ma_init.2.1 9 = .ok (.invokespecial 9, 3) := by decide +kernel
theorem dm_Ma_init_12 : decode mm_Ma_init.2.1 12 = .ok (.putfield 10, 3) := by decide +kernel
theorem dm_Ma_init_15 : decode mm_Ma_init.2.1 15 = .ok (.aload_n 0, 1) := by decide +kernel
theorem dm_Ma_init_16 : decode mm_Ma_init.2.1 16 = .ok (.new 16, 3) := by decide +kernel
theorem dm_Ma_init_19 : decode mm_Ma_init.2.1 19 = .ok (.dup, 1) := by decide +kernel
theorem dm_Ma_init_20 : decode mm_Ma_init.2.1 20 = .ok (.bipush 12, 2) := by decide +kernel
theorem dm_Ma_init_22 : decode mm_Ma_init.2.1 22 = .ok (.invokespecial 18, 3) := by decide +kernel
theorem dm_Ma_init_25 : decode mm_Ma_init.2.1 25 = .ok (.putfield 21, 3) := by decide +kernel
theorem dm_Ma_init_28 : decode mm_Ma_init.2.1 28 = .ok (.aload_n 0, 1) := by decide +kernel
theorem dm_Ma_init_29 : decode mm_Ma_init.2.1 29 = .ok (.new 16, 3) := by decide +kernel
theorem dm_Ma_init_32 : decode mm_Ma_init.2.1 32 = .ok (.dup, 1) := by decide +kernel
theorem dm_Ma_init_33 : decode mm_Ma_init.2.1 33 = .ok (.iconst 5, 1) := by decide +kernel
theorem dm_Ma_init_34 : decode mm_Ma_init.2.1 34 = .ok (.invokespecial 18, 3) := by decide +kernel
theorem dm_Ma_init_37 : decode mm_Ma_init.2.1 37 = .ok (.putfield 25, 3) := by decide +kernel
theorem dm_Ma_init_40 : decode mm_Ma_init.2.1 40 = .ok (.aload_n 0, 1) := by decide +kernel
theorem dm_Ma_init_41 : decode mm_Ma_init.2.1 41 = .ok (.new 16, 3) := by decide +kernel
theorem dm_Ma_init_44 : decode mm_Ma_init.2.1 44 = .ok (.dup, 1) := by decide +kernel
theorem dm_Ma_init_45 : decode mm_Ma_init.2.1 45 = .ok (.iconst 5, 1) := by decide +kernel
theorem dm_Ma_init_46 : decode mm_Ma_init.2.1 46 = .ok (.invokespecial 18, 3) := by decide +kernel
theorem dm_Ma_init_49 : decode mm_Ma_init.2.1 49 = .ok (.putfield 28, 3) := by decide +kernel
theorem dm_Ma_init_52 : decode mm_Ma_init.2.1 52 = .ok (.aload_n 0, 1) := by decide +kernel
theorem dm_Ma_init_53 : decode mm_Ma_init.2.1 53 = .ok (.bipush 6, 2) := by decide +kernel
theorem dm_Ma_init_55 : decode mm_Ma_init.2.1 55 = .ok (.anewarray 31, 3) := by decide +kernel
theorem dm_Ma_init_58 : decode mm_Ma_init.2.1 58 = .ok (.putfield 33, 3) := by decide +kernel
theorem dm_Ma_init_61 : decode mm_Ma_init.2.1 61 = .ok (.aload_n 0, 1) := by decide +kernel
theorem dm_Ma_init_62 : decode mm_Ma_init.2.1 62 = .ok (.bipush 6, 2) := by decide +kernel
theorem dm_Ma_init_64 : decode mm_Ma_init.2.1 64 = .ok (.anewarray 37, 3) := by decide +kernel
theorem dm_Ma_init_67 : decode mm_Ma_init.2.1 67 = .ok (.putfield 39, 3) := by decide +kernel
theorem dm_Ma_init_70 : decode mm_Ma_init.2.1 70 = .ok (.aload_n 0, 1) := by decide +kernel
theorem dm_Ma_init_71 : decode mm_Ma_init.2.1 71 = .ok (.new 43, 3) := by decide +kernel
theorem dm_Ma_init_74 : decode mm_Ma_init.2.1 74 = .ok (.dup, 1) := by decide +kernel
theorem dm_Ma_init_75 : decode mm_Ma_init.2.1 75 = .ok (.invokespecial 45, 3) := by decide +kernel
theorem dm_Ma_init_78 : decode mm_Ma_init.2.1 78 = .ok (.putfield 46, 3) := by decide +kernel
theorem dm_Ma_init_81 : decode mm_Ma_init.2.1 81 = .ok (.aload_n 0, 1) := by decide +kernel
theorem dm_Ma_init_82 : decode mm_Ma_init.2.1 82 = .ok (.iconst 0, 1) := by decide +kernel
theorem dm_Ma_init_83 : decode mm_Ma_init.2.1 83 = .ok (.putfield 50, 3) := by decide +kernel
theorem dm_Ma_init_86 : decode mm_Ma_init.2.1 86 = .ok (.aload_n 0, 1) := by decide +kernel
theorem dm_Ma_init_87 : decode mm_Ma_init.2.1 87 = .ok (.iconst 0, 1) := by decide +kernel
theorem dm_Ma_init_88 : decode mm_Ma_init.2.1 88 = .ok (.putfield 54, 3) := by decide +kernel
theorem dm_Ma_init_91 : decode mm_Ma_init.2.1 91 = .ok (.return_, 1) := by decide +kernel
theorem dm_Ma_type_0 : decode mm_Ma_type.2.1 0 = .ok (.iload_n 1, 1) := by decide +kernel
theorem dm_Ma_type_1 : decode mm_Ma_type.2.1 1 = .ok (.iconst (-1), 1) := by decide +kernel
theorem dm_Ma_type_2 : decode mm_Ma_type.2.1 2 = .ok (.if_icmp .lt 8, 3) := by decide +kernel
theorem dm_Ma_type_5 : decode mm_Ma_type.2.1 5 = .ok (.iload_n 1, 1) := by decide +kernel
theorem dm_Ma_type_6 : decode mm_Ma_type.2.1 6 = .ok (.iconst 4, 1) := by decide +kernel
theorem dm_Ma_type_7 : decode mm_Ma_type.2.1 7 = .ok (.if_icmp .le 5, 3) := by decide +kernel
theorem dm_Ma_type_10 : decode mm_Ma_type.2.1 10 = .ok (.iconst 2, 1) := by decide +kernel
theorem dm_Ma_type_11 : decode mm_Ma_type.2.1 11 = .ok (.ireturn, 1) := by decide +kernel
theorem dm_Ma_type_12 : decode mm_Ma_type.2.1 12 = .ok (.iload_n 1, 1) := by decide +kernel
theorem dm_Ma_type_13 : decode mm_Ma_type.2.1 13 = .ok (.iconst 4, 1) := by decide +kernel
theorem dm_Ma_type_14 : decode mm_Ma_type.2.1 14 = .ok (.if_icmp .eq 28, 3) := by decide +kernel
theorem dm_Ma_type_17 : decode mm_Ma_type.2.1 17 = .ok (.aload_n 0, 1) := by decide +kernel
theorem dm_Ma_type_18 : decode mm_Ma_type.2.1 18 = .ok (.iconst 0, 1) := by decide +kernel
theorem dm_Ma_type_19 : decode mm_Ma_type.2.1 19 = .ok (.aload_n 0, 1) := by decide +kernel
theorem dm_Ma_type_20 : decode mm_Ma_type.2.1 20 = .ok (.getfield 10, 3) := by decide +kernel
theorem dm_Ma_type_23 : decode mm_Ma_type.2.1 23 = .ok (.iload_n 1, 1) := by decide +kernel
theorem dm_Ma_type_24 : decode mm_Ma_type.2.1 24 = .ok (.iconst (-1), 1) := by decide +kernel
theorem dm_Ma_type_25 : decode mm_Ma_type.2.1 25 = .ok (.if_icmp .ne 7, 3) := by decide +kernel
theorem dm_Ma_type_28 : decode mm_Ma_type.2.1 28 = .ok (.iconst 1, 1) := by decide +kernel
theorem dm_Ma_type_29 : decode mm_Ma_type.2.1 29 = .ok (.goto 6, 3) := by decide +kernel
theorem dm_Ma_type_32 : decode mm_Ma_type.2.1 32 = .ok (.iconst 2, 1) := by decide +kernel
theorem dm_Ma_type_33 : decode mm_Ma_type.2.1 33 = .ok (.iload_n 1, 1) := by decide +kernel
theorem dm_Ma_type_34 : decode mm_Ma_type.2.1 34 = .ok (.iadd, 1) := by decide +kernel
theorem dm_Ma_type_35 : decode mm_Ma_type.2.1 35 = .ok (.invokevirtual 57, 3) := by decide +kernel
theorem dm_Ma_type_38 : decode mm_Ma_type.2.1 38 = .ok (.invokevirtual 61, 3) := by decide +kernel
theorem dm_Ma_type_41 : decode mm_Ma_type.2.1 41 = .ok (.ireturn, 1) := by decide +kernel
theorem dm_Ma_type_42 : decode mm_Ma_type.2.1 42 = .ok (.aload_n 0, 1) := by decide +kernel
theorem dm_Ma_type_43 : decode mm_Ma_type.2.1 43 = .ok (.iconst 1, 1) := by decide +kernel
theorem dm_Ma_type_44 : decode mm_Ma_type.2.1 44 = .ok (.iconst 0, 1) := by decide +kernel
theorem dm_Ma_type_45 : decode mm_Ma_type.2.1 45 = .ok (.invokevirtual 65, 3) := by decide +kernel
theorem dm_Ma_type_48 : decode mm_Ma_type.2.1 48 = .ok (.astore_n 2, 1) := by decide +kernel
theorem dm_Ma_type_49 : decode mm_Ma_type.2.1 49 = .ok (.aload_n 0, 1) := by decide +kernel
theorem dm_Ma_type_50 : decode mm_Ma_type.2.1 50 = .ok (.iconst 0, 1) := by decide +kernel
theorem dm_Ma_type_51 : decode mm_Ma_type.2.1 51 = .ok (.iconst 0, 1) := by decide +kernel
theorem dm_Ma_type_52 : decode mm_Ma_type.2.1 52 = .ok (.invokevirtual 65, 3) := by decide +kernel
theorem dm_Ma_type_55 : decode mm_Ma_type.2.1 55 = .ok (.astore_n 3, 1) := by decide +kernel
theorem dm_Ma_type_56 : decode mm_Ma_type.2.1 56 = .ok (.aload_n 2, 1) := by decide +kernel
theorem dm_Ma_type_57 : decode mm_Ma_type.2.1 57 = .ok (.ifnull 7, 3) := by decide +kernel
theorem dm_Ma_type_60 : decode mm_Ma_type.2.1 60 = .ok (.aload_n 3, 1) := by decide +kernel
theorem dm_Ma_type_61 : decode mm_Ma_type.2.1 61 = .ok (.ifnonnull 5, 3) := by decide +kernel
theorem dm_Ma_type_64 : decode mm_Ma_type.2.1 64 = .ok (.iconst 1, 1) := by decide +kernel
theorem dm_Ma_type_65 : decode mm_Ma_type.2.1 65 = .ok (.ireturn, 1) := by decide +kernel
theorem dm_Ma_type_66 : decode mm_Ma_type.2.1 66 = .ok (.aload_n 0, 1) := by decide +kernel
theorem dm_Ma_type_67 : decode mm_Ma_type.2.1 67 = .ok (.iconst 2, 1) := by decide +kernel
theorem dm_Ma_type_68 : decode mm_Ma_type.2.1 68 = .ok (.aload_n 0, 1) := by decide +kernel
theorem dm_Ma_type_69 : decode mm_Ma_type.2.1 69 = .ok (.getfield 10, 3) := by decide +kernel
theorem dm_Ma_type_72 : decode mm_Ma_type.2.1 72 = .ok (.aload_n 2, 1) := by decide +kernel
theorem dm_Ma_type_73 : decode mm_Ma_type.2.1 73 = .ok (.aload_n 3, 1) := by decide +kernel
theorem dm_Ma_type_74 : decode mm_Ma_type.2.1 74 = .ok (.invokevirtual 69, 3) := by decide +kernel
theorem dm_Ma_type_77 : decode mm_Ma_type.2.1 77 = .ok (.invokevirtual 61, 3) := by decide +kernel
theorem dm_Ma_type_80 : decode mm_Ma_type.2.1 80 = .ok (.ireturn, 1) := by decide +kernel
theorem dm_Ma_var_0 : decode mm_Ma_var.2.1 0 = .ok (.aload_n 0, 1) := by decide +kernel
theorem dm_Ma_var_1 : decode mm_Ma_var.2.1 1 = .ok (.iconst 0, 1) := by decide +kernel
theorem dm_Ma_var_2 : decode mm_Ma_var.2.1 2 = .ok (.iconst 0, 1) := by decide +kernel
theorem dm_Ma_var_3 : decode mm_Ma_var.2.1 3 = .ok (.invokevirtual 65, 3) := by decide +kernel
theorem dm_Ma_var_6 : decode mm_Ma_var.2.1 6 = .ok (.astore_n 2, 1) := by decide +kernel
theorem dm_Ma_var_7 : decode mm_Ma_var.2.1 7 = .ok (.aload_n 2, 1) := by decide +kernel
theorem dm_Ma_var_8 : decode mm_Ma_var.2.1 8 = .ok (.ifnonnull 5, 3) := by decide +kernel
theorem dm_Ma_var_11 : decode mm_Ma_var.2.1 11 = .ok (.iconst 1, 1) := by decide +kernel
theorem dm_Ma_var_12 : decode mm_Ma_var.2.1 12 = .ok (.ireturn, 1) := by decide +kernel
theorem dm_Ma_var_13 : decode mm_Ma_var.2.1 13 = .ok (.iload_n 1, 1) := by decide +kernel
theorem dm_Ma_var_14 : decode mm_Ma_var.2.1 14 = .ok (.ifCond .lt 9, 3) := by decide +kernel
theorem dm_Ma_var_17 : decode mm_Ma_var.2.1 17 = .ok (.iload_n 1, 1) := by decide +kernel
theorem dm_Ma_var_18 : decode mm_Ma_var.2.1 18 = .ok (.bipush 8, 2) := by decide +kernel
theorem dm_Ma_var_20 : decode mm_Ma_var.2.1 20 = .ok (.if_icmp .lt 5, 3) := by decide +kernel
theorem dm_Ma_var_23 : decode mm_Ma_var.2.1 23 = .ok (.iconst 2, 1) := by decide +kernel
theorem dm_Ma_var_24 : decode mm_Ma_var.2.1 24 = .ok (.ireturn, 1) := by decide +kernel
theorem dm_Ma_var_25 : decode mm_Ma_var.2.1 25 = .ok (.aload_n 0, 1) := by decide +kernel
theorem dm_Ma_var_26 : decode mm_Ma_var.2.1 26 = .ok (.iconst 1, 1) := by decide +kernel
theorem dm_Ma_var_27 : decode mm_Ma_var.2.1 27 = .ok (.aload_n 0, 1) := by decide +kernel
theorem dm_Ma_var_28 : decode mm_Ma_var.2.1 28 = .ok (.getfield 10, 3) := by decide +kernel
theorem dm_Ma_var_31 : decode mm_Ma_var.2.1 31 = .ok (.bipush 10, 2) := by decide +kernel
theorem dm_Ma_var_33 : decode mm_Ma_var.2.1 33 = .ok (.iload_n 1, 1) := by decide +kernel
theorem dm_Ma_var_34 : decode mm_Ma_var.2.1 34 = .ok (.aload_n 2, 1) := by decide +kernel
theorem dm_Ma_var_35 : decode mm_Ma_var.2.1 35 = .ok (.invokevirtual 73, 3) := by decide +kernel
theorem dm_Ma_var_38 : decode mm_Ma_var.2.1 38 = .ok (.invokevirtual 77, 3) := by decide +kernel
theorem dm_Ma_var_41 : decode mm_Ma_var.2.1 41 = .ok (.ireturn, 1) := by decide +kernel
theorem dm_Ma_constant_0 : decode mm_Ma_constant.2.1 0 = .ok (.iload_n 1, 1) := by decide +kernel
theorem dm_Ma_constant_1 : decode mm_Ma_constant.2.1 1 = .ok (.ifCond .lt 11, 3) := by decide +kernel
theorem dm_Ma_constant_4 : decode mm_Ma_constant.2.1 4 = .ok (.iload_n 1, 1) := by decide +kernel
theorem dm_Ma_constant_5 : decode mm_Ma_constant.2.1 5 = .ok (.aload_n 0, 1) := by decide +kernel
theorem dm_Ma_constant_6 : decode mm_Ma_constant.2.1 6 = .ok (.getfield 50, 3) := by decide +kernel
theorem dm_Ma_constant_9 : decode mm_Ma_constant.2.1 9 = .ok (.if_icmp .le 5, 3) := by decide +kernel
theorem dm_Ma_constant_12 : decode mm_Ma_constant.2.1 12 = .ok (.iconst 2, 1) := by decide +kernel
theorem dm_Ma_constant_13 : decode mm_Ma_constant.2.1 13 = .ok (.ireturn, 1) := by decide +kernel
theorem dm_Ma_constant_14 : decode mm_Ma_constant.2.1 14 = .ok (.iload_n 1, 1) := by decide +kernel
theorem dm_Ma_constant_15 : decode mm_Ma_constant.2.1 15 = .ok (.ifCond .eq 27, 3) := by decide +kernel
theorem dm_Ma_constant_18 : decode mm_Ma_constant.2.1 18 = .ok (.aload_n 0, 1) := by decide +kernel
theorem dm_Ma_constant_19 : decode mm_Ma_constant.2.1 19 = .ok (.iconst 0, 1) := by decide +kernel
theorem dm_Ma_constant_20 : decode mm_Ma_constant.2.1 20 = .ok (.aload_n 0, 1) := by decide +kernel
theorem dm_Ma_constant_21 : decode mm_Ma_constant.2.1 21 = .ok (.getfield 10, 3) := by decide +kernel
theorem dm_Ma_constant_24 : decode mm_Ma_constant.2.1 24 = .ok (.bipush 11, 2) := by decide +kernel
theorem dm_Ma_constant_26 : decode mm_Ma_constant.2.1 26 = .ok (.iload_n 1, 1) := by decide +kernel
theorem dm_Ma_constant_27 : decode mm_Ma_constant.2.1 27 = .ok (.aload_n 0, 1) := by decide +kernel
theorem dm_Ma_constant_28 : decode mm_Ma_constant.2.1 28 = .ok (.getfield 39, 3) := by decide +kernel
theorem dm_Ma_constant_31 : decode mm_Ma_constant.2.1 31 = .ok (.iload_n 1, 1) := by decide +kernel
theorem dm_Ma_constant_32 : decode mm_Ma_constant.2.1 32 = .ok (.iconst 1, 1) := by decide +kernel
theorem dm_Ma_constant_33 : decode mm_Ma_constant.2.1 33 = .ok (.isub, 1) := by decide +kernel
theorem dm_Ma_constant_34 : decode mm_Ma_constant.2.1 34 = .ok (.aaload, 1) := by decide +kernel
theorem dm_Ma_constant_35 : decode mm_Ma_constant.2.1 35 = .ok (.invokevirtual 73, 3) := by decide +kernel
theorem dm_Ma_constant_38 : decode mm_Ma_constant.2.1 38 = .ok (.invokevirtual 77, 3) := by decide +kernel
theorem dm_Ma_constant_41 : decode mm_Ma_constant.2.1 41 = .ok (.ireturn, 1) := by decide +kernel
theorem dm_Ma_constant_42 : decode mm_Ma_constant.2.1 42 = .ok (.aload_n 0, 1) := by decide +kernel
theorem dm_Ma_constant_43 : decode mm_Ma_constant.2.1 43 = .ok (.iconst 0, 1) := by decide +kernel
theorem dm_Ma_constant_44 : decode mm_Ma_constant.2.1 44 = .ok (.iconst 0, 1) := by decide +kernel
theorem dm_Ma_constant_45 : decode mm_Ma_constant.2.1 45 = .ok (.invokevirtual 65, 3) := by decide +kernel
theorem dm_Ma_constant_48 : decode mm_Ma_constant.2.1 48 = .ok (.astore_n 2, 1) := by decide +kernel
theorem dm_Ma_constant_49 : decode mm_Ma_constant.2.1 49 = .ok (.aload_n 2, 1) := by decide +kernel
theorem dm_Ma_constant_50 : decode mm_Ma_constant.2.1 50 = .ok (.ifnonnull 5, 3) := by decide +kernel
theorem dm_Ma_constant_53 : decode mm_Ma_constant.2.1 53 = .ok (.iconst 1, 1) := by decide +kernel
theorem dm_Ma_constant_54 : decode mm_Ma_constant.2.1 54 = .ok (.ireturn, 1) := by decide +kernel
theorem dm_Ma_constant_55 : decode mm_Ma_constant.2.1 55 = .ok (.aload_n 0, 1) := by decide +kernel
theorem dm_Ma_constant_56 : decode mm_Ma_constant.2.1 56 = .ok (.iconst 1, 1) := by decide +kernel
theorem dm_Ma_constant_57 : decode mm_Ma_constant.2.1 57 = .ok (.aload_n 0, 1) := by decide +kernel
theorem dm_Ma_constant_58 : decode mm_Ma_constant.2.1 58 = .ok (.getfield 10, 3) := by decide +kernel
theorem dm_Ma_constant_61 : decode mm_Ma_constant.2.1 61 = .ok (.bipush 11, 2) := by decide +kernel
theorem dm_Ma_constant_63 : decode mm_Ma_constant.2.1 63 = .ok (.iconst 0, 1) := by decide +kernel
theorem dm_Ma_constant_64 : decode mm_Ma_constant.2.1 64 = .ok (.aload_n 2, 1) := by decide +kernel
theorem dm_Ma_constant_65 : decode mm_Ma_constant.2.1 65 = .ok (.invokevirtual 73, 3) := by decide +kernel
theorem dm_Ma_constant_68 : decode mm_Ma_constant.2.1 68 = .ok (.invokevirtual 77, 3) := by decide +kernel
theorem dm_Ma_constant_71 : decode mm_Ma_constant.2.1 71 = .ok (.ireturn, 1) := by decide +kernel
theorem dm_Ma_app_0 : decode mm_Ma_app.2.1 0 = .ok (.aload_n 0, 1) := by decide +kernel
theorem dm_Ma_app_1 : decode mm_Ma_app.2.1 1 = .ok (.iconst 1, 1) := by decide +kernel
theorem dm_Ma_app_2 : decode mm_Ma_app.2.1 2 = .ok (.iconst 1, 1) := by decide +kernel
theorem dm_Ma_app_3 : decode mm_Ma_app.2.1 3 = .ok (.invokevirtual 65, 3) := by decide +kernel
theorem dm_Ma_app_6 : decode mm_Ma_app.2.1 6 = .ok (.astore_n 1, 1) := by decide +kernel
theorem dm_Ma_app_7 : decode mm_Ma_app.2.1 7 = .ok (.aload_n 0, 1) := by decide +kernel
theorem dm_Ma_app_8 : decode mm_Ma_app.2.1 8 = .ok (.iconst 0, 1) := by decide +kernel
theorem dm_Ma_app_9 : decode mm_Ma_app.2.1 9 = .ok (.iconst 1, 1) := by decide +kernel
theorem dm_Ma_app_10 : decode mm_Ma_app.2.1 10 = .ok (.invokevirtual 65, 3) := by decide +kernel
theorem dm_Ma_app_13 : decode mm_Ma_app.2.1 13 = .ok (.astore_n 2, 1) := by decide +kernel
theorem dm_Ma_app_14 : decode mm_Ma_app.2.1 14 = .ok (.aload_n 1, 1) := by decide +kernel
theorem dm_Ma_app_15 : decode mm_Ma_app.2.1 15 = .ok (.ifnull 7, 3) := by decide +kernel
theorem dm_Ma_app_18 : decode mm_Ma_app.2.1 18 = .ok (.aload_n 2, 1) := by decide +kernel
theorem dm_Ma_app_19 : decode mm_Ma_app.2.1 19 = .ok (.ifnonnull 5, 3) := by decide +kernel
theorem dm_Ma_app_22 : decode mm_Ma_app.2.1 22 = .ok (.iconst 1, 1) := by decide +kernel
theorem dm_Ma_app_23 : decode mm_Ma_app.2.1 23 = .ok (.ireturn, 1) := by decide +kernel
theorem dm_Ma_app_24 : decode mm_Ma_app.2.1 24 = .ok (.aload_n 0, 1) := by decide +kernel
theorem dm_Ma_app_25 : decode mm_Ma_app.2.1 25 = .ok (.aload_n 0, 1) := by decide +kernel
theorem dm_Ma_app_26 : decode mm_Ma_app.2.1 26 = .ok (.getfield 10, 3) := by decide +kernel
theorem dm_Ma_app_29 : decode mm_Ma_app.2.1 29 = .ok (.aload_n 1, 1) := by decide +kernel
theorem dm_Ma_app_30 : decode mm_Ma_app.2.1 30 = .ok (.invokevirtual 80, 3) := by decide +kernel
theorem dm_Ma_app_33 : decode mm_Ma_app.2.1 33 = .ok (.aload_n 0, 1) := by decide +kernel
theorem dm_Ma_app_34 : decode mm_Ma_app.2.1 34 = .ok (.getfield 10, 3) := by decide +kernel
theorem dm_Ma_app_37 : decode mm_Ma_app.2.1 37 = .ok (.aload_n 2, 1) := by decide +kernel
theorem dm_Ma_app_38 : decode mm_Ma_app.2.1 38 = .ok (.invokevirtual 80, 3) := by decide +kernel
theorem dm_Ma_app_41 : decode mm_Ma_app.2.1 41 = .ok (.invokevirtual 84, 3) := by decide +kernel
theorem dm_Ma_app_44 : decode mm_Ma_app.2.1 44 = .ok (.ifCond .ne 5, 3) := by decide +kernel
theorem dm_Ma_app_47 : decode mm_Ma_app.2.1 47 = .ok (.iconst 2, 1) := by decide +kernel
theorem dm_Ma_app_48 : decode mm_Ma_app.2.1 48 = .ok (.ireturn, 1) := by decide +kernel
theorem dm_Ma_app_49 : decode mm_Ma_app.2.1 49 = .ok (.aload_n 0, 1) := by decide +kernel
theorem dm_Ma_app_50 : decode mm_Ma_app.2.1 50 = .ok (.iconst 2, 1) := by decide +kernel
theorem dm_Ma_app_51 : decode mm_Ma_app.2.1 51 = .ok (.aload_n 0, 1) := by decide +kernel
theorem dm_Ma_app_52 : decode mm_Ma_app.2.1 52 = .ok (.getfield 10, 3) := by decide +kernel
theorem dm_Ma_app_55 : decode mm_Ma_app.2.1 55 = .ok (.aload_n 1, 1) := by decide +kernel
theorem dm_Ma_app_56 : decode mm_Ma_app.2.1 56 = .ok (.aload_n 2, 1) := by decide +kernel
theorem dm_Ma_app_57 : decode mm_Ma_app.2.1 57 = .ok (.invokevirtual 88, 3) := by decide +kernel
theorem dm_Ma_app_60 : decode mm_Ma_app.2.1 60 = .ok (.invokevirtual 77, 3) := by decide +kernel
theorem dm_Ma_app_63 : decode mm_Ma_app.2.1 63 = .ok (.ireturn, 1) := by decide +kernel
theorem dm_Ma_abs_0 : decode mm_Ma_abs.2.1 0 = .ok (.aload_n 0, 1) := by decide +kernel
theorem dm_Ma_abs_1 : decode mm_Ma_abs.2.1 1 = .ok (.iconst 1, 1) := by decide +kernel
theorem dm_Ma_abs_2 : decode mm_Ma_abs.2.1 2 = .ok (.invokevirtual 91, 3) := by decide +kernel
theorem dm_Ma_abs_5 : decode mm_Ma_abs.2.1 5 = .ok (.astore_n 1, 1) := by decide +kernel
theorem dm_Ma_abs_6 : decode mm_Ma_abs.2.1 6 = .ok (.aload_n 0, 1) := by decide +kernel
theorem dm_Ma_abs_7 : decode mm_Ma_abs.2.1 7 = .ok (.iconst 0, 1) := by decide +kernel
theorem dm_Ma_abs_8 : decode mm_Ma_abs.2.1 8 = .ok (.iconst 1, 1) := by decide +kernel
theorem dm_Ma_abs_9 : decode mm_Ma_abs.2.1 9 = .ok (.invokevirtual 65, 3) := by decide +kernel
theorem dm_Ma_abs_12 : decode mm_Ma_abs.2.1 12 = .ok (.astore_n 2, 1) := by decide +kernel
theorem dm_Ma_abs_13 : decode mm_Ma_abs.2.1 13 = .ok (.aload_n 1, 1) := by decide +kernel
theorem dm_Ma_abs_14 : decode mm_Ma_abs.2.1 14 = .ok (.ifnull 7, 3) := by decide +kernel
theorem dm_Ma_abs_17 : decode mm_Ma_abs.2.1 17 = .ok (.aload_n 2, 1) := by decide +kernel
theorem dm_Ma_abs_18 : decode mm_Ma_abs.2.1 18 = .ok (.ifnonnull 5, 3) := by decide +kernel
theorem dm_Ma_abs_21 : decode mm_Ma_abs.2.1 21 = .ok (.iconst 1, 1) := by decide +kernel
theorem dm_Ma_abs_22 : decode mm_Ma_abs.2.1 22 = .ok (.ireturn, 1) := by decide +kernel
theorem dm_Ma_abs_23 : decode mm_Ma_abs.2.1 23 = .ok (.aload_n 0, 1) := by decide +kernel
theorem dm_Ma_abs_24 : decode mm_Ma_abs.2.1 24 = .ok (.iconst 2, 1) := by decide +kernel
theorem dm_Ma_abs_25 : decode mm_Ma_abs.2.1 25 = .ok (.aload_n 0, 1) := by decide +kernel
theorem dm_Ma_abs_26 : decode mm_Ma_abs.2.1 26 = .ok (.getfield 10, 3) := by decide +kernel
theorem dm_Ma_abs_29 : decode mm_Ma_abs.2.1 29 = .ok (.aload_n 1, 1) := by decide +kernel
theorem dm_Ma_abs_30 : decode mm_Ma_abs.2.1 30 = .ok (.aload_n 2, 1) := by decide +kernel
theorem dm_Ma_abs_31 : decode mm_Ma_abs.2.1 31 = .ok (.invokevirtual 94, 3) := by decide +kernel
theorem dm_Ma_abs_34 : decode mm_Ma_abs.2.1 34 = .ok (.invokevirtual 77, 3) := by decide +kernel
theorem dm_Ma_abs_37 : decode mm_Ma_abs.2.1 37 = .ok (.ireturn, 1) := by decide +kernel
theorem dm_Ma_theorem_0 : decode mm_Ma_theorem.2.1 0 = .ok (.aload_n 0, 1) := by decide +kernel
theorem dm_Ma_theorem_1 : decode mm_Ma_theorem.2.1 1 = .ok (.iconst 0, 1) := by decide +kernel
theorem dm_Ma_theorem_2 : decode mm_Ma_theorem.2.1 2 = .ok (.iconst 1, 1) := by decide +kernel
theorem dm_Ma_theorem_3 : decode mm_Ma_theorem.2.1 3 = .ok (.invokevirtual 65, 3) := by decide +kernel
theorem dm_Ma_theorem_6 : decode mm_Ma_theorem.2.1 6 = .ok (.astore_n 2, 1) := by decide +kernel
theorem dm_Ma_theorem_7 : decode mm_Ma_theorem.2.1 7 = .ok (.aload_n 2, 1) := by decide +kernel
theorem dm_Ma_theorem_8 : decode mm_Ma_theorem.2.1 8 = .ok (.ifnonnull 5, 3) := by decide +kernel
theorem dm_Ma_theorem_11 : decode mm_Ma_theorem.2.1 11 = .ok (.iconst 1, 1) := by decide +kernel
theorem dm_Ma_theorem_12 : decode mm_Ma_theorem.2.1 12 = .ok (.ireturn, 1) := by decide +kernel
theorem dm_Ma_theorem_13 : decode mm_Ma_theorem.2.1 13 = .ok (.iload_n 1, 1) := by decide +kernel
theorem dm_Ma_theorem_14 : decode mm_Ma_theorem.2.1 14 = .ok (.tableswitch 85 0 4 #[34, 61, 67, 73, 79], 34) := by decide +kernel
theorem dm_Ma_theorem_48 : decode mm_Ma_theorem.2.1 48 = .ok (.aload_n 0, 1) := by decide +kernel
theorem dm_Ma_theorem_49 : decode mm_Ma_theorem.2.1 49 = .ok (.iconst 1, 1) := by decide +kernel
theorem dm_Ma_theorem_50 : decode mm_Ma_theorem.2.1 50 = .ok (.aload_n 0, 1) := by decide +kernel
theorem dm_Ma_theorem_51 : decode mm_Ma_theorem.2.1 51 = .ok (.getfield 46, 3) := by decide +kernel
theorem dm_Ma_theorem_54 : decode mm_Ma_theorem.2.1 54 = .ok (.aload_n 0, 1) := by decide +kernel
theorem dm_Ma_theorem_55 : decode mm_Ma_theorem.2.1 55 = .ok (.getfield 10, 3) := by decide +kernel
theorem dm_Ma_theorem_58 : decode mm_Ma_theorem.2.1 58 = .ok (.aload_n 0, 1) := by decide +kernel
theorem dm_Ma_theorem_59 : decode mm_Ma_theorem.2.1 59 = .ok (.getfield 10, 3) := by decide +kernel
theorem dm_Ma_theorem_62 : decode mm_Ma_theorem.2.1 62 = .ok (.aload_n 2, 1) := by decide +kernel
theorem dm_Ma_theorem_63 : decode mm_Ma_theorem.2.1 63 = .ok (.invokevirtual 80, 3) := by decide +kernel
theorem dm_Ma_theorem_66 : decode mm_Ma_theorem.2.1 66 = .ok (.aload_n 2, 1) := by decide +kernel
theorem dm_Ma_theorem_67 : decode mm_Ma_theorem.2.1 67 = .ok (.aload_n 2, 1) := by decide +kernel
theorem dm_Ma_theorem_68 : decode mm_Ma_theorem.2.1 68 = .ok (.invokevirtual 97, 3) := by decide +kernel
theorem dm_Ma_theorem_71 : decode mm_Ma_theorem.2.1 71 = .ok (.invokevirtual 101, 3) := by decide +kernel
theorem dm_Ma_theorem_74 : decode mm_Ma_theorem.2.1 74 = .ok (.ireturn, 1) := by decide +kernel
theorem dm_Ma_theorem_75 : decode mm_Ma_theorem.2.1 75 = .ok (.aload_n 0, 1) := by decide +kernel
theorem dm_Ma_theorem_76 : decode mm_Ma_theorem.2.1 76 = .ok (.aload_n 2, 1) := by decide +kernel
theorem dm_Ma_theorem_77 : decode mm_Ma_theorem.2.1 77 = .ok (.invokevirtual 105, 3) := by decide +kernel
theorem dm_Ma_theorem_80 : decode mm_Ma_theorem.2.1 80 = .ok (.ireturn, 1) := by decide +kernel
theorem dm_Ma_theorem_81 : decode mm_Ma_theorem.2.1 81 = .ok (.aload_n 0, 1) := by decide +kernel
theorem dm_Ma_theorem_82 : decode mm_Ma_theorem.2.1 82 = .ok (.aload_n 2, 1) := by decide +kernel
theorem dm_Ma_theorem_83 : decode mm_Ma_theorem.2.1 83 = .ok (.invokevirtual 109, 3) := by decide +kernel
theorem dm_Ma_theorem_86 : decode mm_Ma_theorem.2.1 86 = .ok (.ireturn, 1) := by decide +kernel
theorem dm_Ma_theorem_87 : decode mm_Ma_theorem.2.1 87 = .ok (.aload_n 0, 1) := by decide +kernel
theorem dm_Ma_theorem_88 : decode mm_Ma_theorem.2.1 88 = .ok (.aload_n 2, 1) := by decide +kernel
theorem dm_Ma_theorem_89 : decode mm_Ma_theorem.2.1 89 = .ok (.invokevirtual 112, 3) := by decide +kernel
theorem dm_Ma_theorem_92 : decode mm_Ma_theorem.2.1 92 = .ok (.ireturn, 1) := by decide +kernel
theorem dm_Ma_theorem_93 : decode mm_Ma_theorem.2.1 93 = .ok (.aload_n 0, 1) := by decide +kernel
theorem dm_Ma_theorem_94 : decode mm_Ma_theorem.2.1 94 = .ok (.aload_n 2, 1) := by decide +kernel
theorem dm_Ma_theorem_95 : decode mm_Ma_theorem.2.1 95 = .ok (.invokevirtual 115, 3) := by decide +kernel
theorem dm_Ma_theorem_98 : decode mm_Ma_theorem.2.1 98 = .ok (.ireturn, 1) := by decide +kernel
theorem dm_Ma_theorem_99 : decode mm_Ma_theorem.2.1 99 = .ok (.iconst 2, 1) := by decide +kernel
theorem dm_Ma_theorem_100 : decode mm_Ma_theorem.2.1 100 = .ok (.ireturn, 1) := by decide +kernel
theorem dm_Ma_join_0 : decode mm_Ma_join.2.1 0 = .ok (.aload_n 0, 1) := by decide +kernel
theorem dm_Ma_join_1 : decode mm_Ma_join.2.1 1 = .ok (.iconst 1, 1) := by decide +kernel
theorem dm_Ma_join_2 : decode mm_Ma_join.2.1 2 = .ok (.iconst 2, 1) := by decide +kernel
theorem dm_Ma_join_3 : decode mm_Ma_join.2.1 3 = .ok (.invokevirtual 118, 3) := by decide +kernel
theorem dm_Ma_join_6 : decode mm_Ma_join.2.1 6 = .ok (.astore_n 2, 1) := by decide +kernel
theorem dm_Ma_join_7 : decode mm_Ma_join.2.1 7 = .ok (.aload_n 0, 1) := by decide +kernel
theorem dm_Ma_join_8 : decode mm_Ma_join.2.1 8 = .ok (.iconst 0, 1) := by decide +kernel
theorem dm_Ma_join_9 : decode mm_Ma_join.2.1 9 = .ok (.iconst 2, 1) := by decide +kernel
theorem dm_Ma_join_10 : decode mm_Ma_join.2.1 10 = .ok (.invokevirtual 118, 3) := by decide +kernel
theorem dm_Ma_join_13 : decode mm_Ma_join.2.1 13 = .ok (.astore_n 3, 1) := by decide +kernel
theorem dm_Ma_join_14 : decode mm_Ma_join.2.1 14 = .ok (.aload_n 2, 1) := by decide +kernel
theorem dm_Ma_join_15 : decode mm_Ma_join.2.1 15 = .ok (.ifnull 7, 3) := by decide +kernel
theorem dm_Ma_join_18 : decode mm_Ma_join.2.1 18 = .ok (.aload_n 3, 1) := by decide +kernel
theorem dm_Ma_join_19 : decode mm_Ma_join.2.1 19 = .ok (.ifnonnull 5, 3) := by decide +kernel
theorem dm_Ma_join_22 : decode mm_Ma_join.2.1 22 = .ok (.iconst 1, 1) := by decide +kernel
theorem dm_Ma_join_23 : decode mm_Ma_join.2.1 23 = .ok (.ireturn, 1) := by decide +kernel
theorem dm_Ma_join_24 : decode mm_Ma_join.2.1 24 = .ok (.iload_n 1, 1) := by decide +kernel
theorem dm_Ma_join_25 : decode mm_Ma_join.2.1 25 = .ok (.tableswitch 48 0 2 #[27, 34, 41], 27) := by decide +kernel
theorem dm_Ma_join_52 : decode mm_Ma_join.2.1 52 = .ok (.aload_n 0, 1) := by decide +kernel
theorem dm_Ma_join_53 : decode mm_Ma_join.2.1 53 = .ok (.aload_n 2, 1) := by decide +kernel
theorem dm_Ma_join_54 : decode mm_Ma_join.2.1 54 = .ok (.aload_n 3, 1) := by decide +kernel
theorem dm_Ma_join_55 : decode mm_Ma_join.2.1 55 = .ok (.invokevirtual 122, 3) := by decide +kernel
theorem dm_Ma_join_58 : decode mm_Ma_join.2.1 58 = .ok (.ireturn, 1) := by decide +kernel
theorem dm_Ma_join_59 : decode mm_Ma_join.2.1 59 = .ok (.aload_n 0, 1) := by decide +kernel
theorem dm_Ma_join_60 : decode mm_Ma_join.2.1 60 = .ok (.aload_n 2, 1) := by decide +kernel
theorem dm_Ma_join_61 : decode mm_Ma_join.2.1 61 = .ok (.aload_n 3, 1) := by decide +kernel
theorem dm_Ma_join_62 : decode mm_Ma_join.2.1 62 = .ok (.invokevirtual 126, 3) := by decide +kernel
theorem dm_Ma_join_65 : decode mm_Ma_join.2.1 65 = .ok (.ireturn, 1) := by decide +kernel
theorem dm_Ma_join_66 : decode mm_Ma_join.2.1 66 = .ok (.aload_n 0, 1) := by decide +kernel
theorem dm_Ma_join_67 : decode mm_Ma_join.2.1 67 = .ok (.aload_n 2, 1) := by decide +kernel
theorem dm_Ma_join_68 : decode mm_Ma_join.2.1 68 = .ok (.aload_n 3, 1) := by decide +kernel
theorem dm_Ma_join_69 : decode mm_Ma_join.2.1 69 = .ok (.invokevirtual 129, 3) := by decide +kernel
theorem dm_Ma_join_72 : decode mm_Ma_join.2.1 72 = .ok (.ireturn, 1) := by decide +kernel
theorem dm_Ma_join_73 : decode mm_Ma_join.2.1 73 = .ok (.iconst 2, 1) := by decide +kernel
theorem dm_Ma_join_74 : decode mm_Ma_join.2.1 74 = .ok (.ireturn, 1) := by decide +kernel
theorem dm_Ma_absThm_0 : decode mm_Ma_absThm.2.1 0 = .ok (.aload_n 0, 1) := by decide +kernel
theorem dm_Ma_absThm_1 : decode mm_Ma_absThm.2.1 1 = .ok (.iconst 1, 1) := by decide +kernel
theorem dm_Ma_absThm_2 : decode mm_Ma_absThm.2.1 2 = .ok (.invokevirtual 91, 3) := by decide +kernel
theorem dm_Ma_absThm_5 : decode mm_Ma_absThm.2.1 5 = .ok (.astore_n 1, 1) := by decide +kernel
theorem dm_Ma_absThm_6 : decode mm_Ma_absThm.2.1 6 = .ok (.aload_n 0, 1) := by decide +kernel
theorem dm_Ma_absThm_7 : decode mm_Ma_absThm.2.1 7 = .ok (.iconst 0, 1) := by decide +kernel
theorem dm_Ma_absThm_8 : decode mm_Ma_absThm.2.1 8 = .ok (.iconst 2, 1) := by decide +kernel
theorem dm_Ma_absThm_9 : decode mm_Ma_absThm.2.1 9 = .ok (.invokevirtual 118, 3) := by decide +kernel
theorem dm_Ma_absThm_12 : decode mm_Ma_absThm.2.1 12 = .ok (.astore_n 2, 1) := by decide +kernel
theorem dm_Ma_absThm_13 : decode mm_Ma_absThm.2.1 13 = .ok (.aload_n 1, 1) := by decide +kernel
theorem dm_Ma_absThm_14 : decode mm_Ma_absThm.2.1 14 = .ok (.ifnull 7, 3) := by decide +kernel
theorem dm_Ma_absThm_17 : decode mm_Ma_absThm.2.1 17 = .ok (.aload_n 2, 1) := by decide +kernel
theorem dm_Ma_absThm_18 : decode mm_Ma_absThm.2.1 18 = .ok (.ifnonnull 5, 3) := by decide +kernel
theorem dm_Ma_absThm_21 : decode mm_Ma_absThm.2.1 21 = .ok (.iconst 1, 1) := by decide +kernel
theorem dm_Ma_absThm_22 : decode mm_Ma_absThm.2.1 22 = .ok (.ireturn, 1) := by decide +kernel
theorem dm_Ma_absThm_23 : decode mm_Ma_absThm.2.1 23 = .ok (.aload_n 0, 1) := by decide +kernel
theorem dm_Ma_absThm_24 : decode mm_Ma_absThm.2.1 24 = .ok (.aload_n 2, 1) := by decide +kernel
theorem dm_Ma_absThm_25 : decode mm_Ma_absThm.2.1 25 = .ok (.getfield 132, 3) := by decide +kernel
theorem dm_Ma_absThm_28 : decode mm_Ma_absThm.2.1 28 = .ok (.invokevirtual 136, 3) := by decide +kernel
theorem dm_Ma_absThm_31 : decode mm_Ma_absThm.2.1 31 = .ok (.astore_n 3, 1) := by decide +kernel
theorem dm_Ma_absThm_32 : decode mm_Ma_absThm.2.1 32 = .ok (.aload_n 3, 1) := by decide +kernel
theorem dm_Ma_absThm_33 : decode mm_Ma_absThm.2.1 33 = .ok (.ifnonnull 5, 3) := by decide +kernel
theorem dm_Ma_absThm_36 : decode mm_Ma_absThm.2.1 36 = .ok (.iconst 2, 1) := by decide +kernel
theorem dm_Ma_absThm_37 : decode mm_Ma_absThm.2.1 37 = .ok (.ireturn, 1) := by decide +kernel
theorem dm_Ma_absThm_38 : decode mm_Ma_absThm.2.1 38 = .ok (.aload_n 2, 1) := by decide +kernel
theorem dm_Ma_absThm_39 : decode mm_Ma_absThm.2.1 39 = .ok (.getfield 140, 3) := by decide +kernel
theorem dm_Ma_absThm_42 : decode mm_Ma_absThm.2.1 42 = .ok (.aload_n 1, 1) := by decide +kernel
theorem dm_Ma_absThm_43 : decode mm_Ma_absThm.2.1 43 = .ok (.invokevirtual 143, 3) := by decide +kernel
theorem dm_Ma_absThm_46 : decode mm_Ma_absThm.2.1 46 = .ok (.ifCond .eq 5, 3) := by decide +kernel
theorem dm_Ma_absThm_49 : decode mm_Ma_absThm.2.1 49 = .ok (.iconst 3, 1) := by decide +kernel
theorem dm_Ma_absThm_50 : decode mm_Ma_absThm.2.1 50 = .ok (.ireturn, 1) := by decide +kernel
theorem dm_Ma_absThm_51 : decode mm_Ma_absThm.2.1 51 = .ok (.aload_n 0, 1) := by decide +kernel
theorem dm_Ma_absThm_52 : decode mm_Ma_absThm.2.1 52 = .ok (.getfield 10, 3) := by decide +kernel
theorem dm_Ma_absThm_55 : decode mm_Ma_absThm.2.1 55 = .ok (.aload_n 1, 1) := by decide +kernel
theorem dm_Ma_absThm_56 : decode mm_Ma_absThm.2.1 56 = .ok (.aload_n 3, 1) := by decide +kernel
theorem dm_Ma_absThm_57 : decode mm_Ma_absThm.2.1 57 = .ok (.getfield 147, 3) := by decide +kernel
theorem dm_Ma_absThm_60 : decode mm_Ma_absThm.2.1 60 = .ok (.invokevirtual 94, 3) := by decide +kernel
theorem dm_Ma_absThm_63 : decode mm_Ma_absThm.2.1 63 = .ok (.astore 4, 2) := by decide +kernel
theorem dm_Ma_absThm_65 : decode mm_Ma_absThm.2.1 65 = .ok (.aload_n 0, 1) := by decide +kernel
theorem dm_Ma_absThm_66 : decode mm_Ma_absThm.2.1 66 = .ok (.getfield 10, 3) := by decide +kernel
theorem dm_Ma_absThm_69 : decode mm_Ma_absThm.2.1 69 = .ok (.aload_n 1, 1) := by decide +kernel
theorem dm_Ma_absThm_70 : decode mm_Ma_absThm.2.1 70 = .ok (.aload_n 3, 1) := by decide +kernel
theorem dm_Ma_absThm_71 : decode mm_Ma_absThm.2.1 71 = .ok (.getfield 152, 3) := by decide +kernel
theorem dm_Ma_absThm_74 : decode mm_Ma_absThm.2.1 74 = .ok (.invokevirtual 94, 3) := by decide +kernel
theorem dm_Ma_absThm_77 : decode mm_Ma_absThm.2.1 77 = .ok (.astore 5, 2) := by decide +kernel
theorem dm_Ma_absThm_79 : decode mm_Ma_absThm.2.1 79 = .ok (.aload_n 0, 1) := by decide +kernel
theorem dm_Ma_absThm_80 : decode mm_Ma_absThm.2.1 80 = .ok (.getfield 10, 3) := by decide +kernel
theorem dm_Ma_absThm_83 : decode mm_Ma_absThm.2.1 83 = .ok (.aload_n 0, 1) := by decide +kernel
theorem dm_Ma_absThm_84 : decode mm_Ma_absThm.2.1 84 = .ok (.getfield 10, 3) := by decide +kernel
theorem dm_Ma_absThm_87 : decode mm_Ma_absThm.2.1 87 = .ok (.aload_n 1, 1) := by decide +kernel
theorem dm_Ma_absThm_88 : decode mm_Ma_absThm.2.1 88 = .ok (.invokevirtual 80, 3) := by decide +kernel
theorem dm_Ma_absThm_91 : decode mm_Ma_absThm.2.1 91 = .ok (.aload_n 3, 1) := by decide +kernel
theorem dm_Ma_absThm_92 : decode mm_Ma_absThm.2.1 92 = .ok (.getfield 155, 3) := by decide +kernel
theorem dm_Ma_absThm_95 : decode mm_Ma_absThm.2.1 95 = .ok (.invokevirtual 69, 3) := by decide +kernel
theorem dm_Ma_absThm_98 : decode mm_Ma_absThm.2.1 98 = .ok (.astore 6, 2) := by decide +kernel
theorem dm_Ma_absThm_100 : decode mm_Ma_absThm.2.1 100 = .ok (.aload_n 0, 1) := by decide +kernel
theorem dm_Ma_absThm_101 : decode mm_Ma_absThm.2.1 101 = .ok (.iconst 2, 1) := by decide +kernel
theorem dm_Ma_absThm_102 : decode mm_Ma_absThm.2.1 102 = .ok (.aload_n 2, 1) := by decide +kernel
theorem dm_Ma_absThm_103 : decode mm_Ma_absThm.2.1 103 = .ok (.getfield 140, 3) := by decide +kernel
theorem dm_Ma_absThm_106 : decode mm_Ma_absThm.2.1 106 = .ok (.aload_n 0, 1) := by decide +kernel
theorem dm_Ma_absThm_107 : decode mm_Ma_absThm.2.1 107 = .ok (.getfield 10, 3) := by decide +kernel
theorem dm_Ma_absThm_110 : decode mm_Ma_absThm.2.1 110 = .ok (.aload 6, 2) := by decide +kernel
theorem dm_Ma_absThm_112 : decode mm_Ma_absThm.2.1 112 = .ok (.aload 4, 2) := by decide +kernel
theorem dm_Ma_absThm_114 : decode mm_Ma_absThm.2.1 114 = .ok (.aload 5, 2) := by decide +kernel
theorem dm_Ma_absThm_116 : decode mm_Ma_absThm.2.1 116 = .ok (.invokevirtual 97, 3) := by decide +kernel
theorem dm_Ma_absThm_119 : decode mm_Ma_absThm.2.1 119 = .ok (.invokevirtual 101, 3) := by decide +kernel
theorem dm_Ma_absThm_122 : decode mm_Ma_absThm.2.1 122 = .ok (.ireturn, 1) := by decide +kernel
theorem dm_Ma_inst_0 : decode mm_Ma_inst.2.1 0 = .ok (.aload_n 0, 1) := by decide +kernel
theorem dm_Ma_inst_1 : decode mm_Ma_inst.2.1 1 = .ok (.iconst 2, 1) := by decide +kernel
theorem dm_Ma_inst_2 : decode mm_Ma_inst.2.1 2 = .ok (.invokevirtual 91, 3) := by decide +kernel
theorem dm_Ma_inst_5 : decode mm_Ma_inst.2.1 5 = .ok (.astore_n 1, 1) := by decide +kernel
theorem dm_Ma_inst_6 : decode mm_Ma_inst.2.1 6 = .ok (.aload_n 0, 1) := by decide +kernel
theorem dm_Ma_inst_7 : decode mm_Ma_inst.2.1 7 = .ok (.iconst 1, 1) := by decide +kernel
theorem dm_Ma_inst_8 : decode mm_Ma_inst.2.1 8 = .ok (.iconst 1, 1) := by decide +kernel
theorem dm_Ma_inst_9 : decode mm_Ma_inst.2.1 9 = .ok (.invokevirtual 65, 3) := by decide +kernel
theorem dm_Ma_inst_12 : decode mm_Ma_inst.2.1 12 = .ok (.astore_n 2, 1) := by decide +kernel
theorem dm_Ma_inst_13 : decode mm_Ma_inst.2.1 13 = .ok (.aload_n 0, 1) := by decide +kernel
theorem dm_Ma_inst_14 : decode mm_Ma_inst.2.1 14 = .ok (.iconst 0, 1) := by decide +kernel
theorem dm_Ma_inst_15 : decode mm_Ma_inst.2.1 15 = .ok (.iconst 2, 1) := by decide +kernel
theorem dm_Ma_inst_16 : decode mm_Ma_inst.2.1 16 = .ok (.invokevirtual 118, 3) := by decide +kernel
theorem dm_Ma_inst_19 : decode mm_Ma_inst.2.1 19 = .ok (.astore_n 3, 1) := by decide +kernel
theorem dm_Ma_inst_20 : decode mm_Ma_inst.2.1 20 = .ok (.aload_n 1, 1) := by decide +kernel
theorem dm_Ma_inst_21 : decode mm_Ma_inst.2.1 21 = .ok (.ifnull 11, 3) := by decide +kernel
theorem dm_Ma_inst_24 : decode mm_Ma_inst.2.1 24 = .ok (.aload_n 2, 1) := by decide +kernel
theorem dm_Ma_inst_25 : decode mm_Ma_inst.2.1 25 = .ok (.ifnull 7, 3) := by decide +kernel
theorem dm_Ma_inst_28 : decode mm_Ma_inst.2.1 28 = .ok (.aload_n 3, 1) := by decide +kernel
theorem dm_Ma_inst_29 : decode mm_Ma_inst.2.1 29 = .ok (.ifnonnull 5, 3) := by decide +kernel
theorem dm_Ma_inst_32 : decode mm_Ma_inst.2.1 32 = .ok (.iconst 1, 1) := by decide +kernel
theorem dm_Ma_inst_33 : decode mm_Ma_inst.2.1 33 = .ok (.ireturn, 1) := by decide +kernel
theorem dm_Ma_inst_34 : decode mm_Ma_inst.2.1 34 = .ok (.aload_n 0, 1) := by decide +kernel
theorem dm_Ma_inst_35 : decode mm_Ma_inst.2.1 35 = .ok (.getfield 10, 3) := by decide +kernel
theorem dm_Ma_inst_38 : decode mm_Ma_inst.2.1 38 = .ok (.aload_n 1, 1) := by decide +kernel
theorem dm_Ma_inst_39 : decode mm_Ma_inst.2.1 39 = .ok (.invokevirtual 80, 3) := by decide +kernel
theorem dm_Ma_inst_42 : decode mm_Ma_inst.2.1 42 = .ok (.aload_n 0, 1) := by decide +kernel
theorem dm_Ma_inst_43 : decode mm_Ma_inst.2.1 43 = .ok (.getfield 10, 3) := by decide +kernel
theorem dm_Ma_inst_46 : decode mm_Ma_inst.2.1 46 = .ok (.aload_n 2, 1) := by decide +kernel
theorem dm_Ma_inst_47 : decode mm_Ma_inst.2.1 47 = .ok (.invokevirtual 80, 3) := by decide +kernel
theorem dm_Ma_inst_50 : decode mm_Ma_inst.2.1 50 = .ok (.invokevirtual 158, 3) := by decide +kernel
theorem dm_Ma_inst_53 : decode mm_Ma_inst.2.1 53 = .ok (.ifCond .ne 5, 3) := by decide +kernel
theorem dm_Ma_inst_56 : decode mm_Ma_inst.2.1 56 = .ok (.iconst 2, 1) := by decide +kernel
theorem dm_Ma_inst_57 : decode mm_Ma_inst.2.1 57 = .ok (.ireturn, 1) := by decide +kernel
theorem dm_Ma_inst_58 : decode mm_Ma_inst.2.1 58 = .ok (.new 43, 3) := by decide +kernel
theorem dm_Ma_inst_61 : decode mm_Ma_inst.2.1 61 = .ok (.dup, 1) := by decide +kernel
theorem dm_Ma_inst_62 : decode mm_Ma_inst.2.1 62 = .ok (.invokespecial 45, 3) := by decide +kernel
theorem dm_Ma_inst_65 : decode mm_Ma_inst.2.1 65 = .ok (.astore 4, 2) := by decide +kernel
theorem dm_Ma_inst_67 : decode mm_Ma_inst.2.1 67 = .ok (.iconst 0, 1) := by decide +kernel
theorem dm_Ma_inst_68 : decode mm_Ma_inst.2.1 68 = .ok (.istore 5, 2) := by decide +kernel
theorem dm_Ma_inst_70 : decode mm_Ma_inst.2.1 70 = .ok (.iload 5, 2) := by decide +kernel
theorem dm_Ma_inst_72 : decode mm_Ma_inst.2.1 72 = .ok (.aload_n 3, 1) := by decide +kernel
theorem dm_Ma_inst_73 : decode mm_Ma_inst.2.1 73 = .ok (.getfield 140, 3) := by decide +kernel
theorem dm_Ma_inst_76 : decode mm_Ma_inst.2.1 76 = .ok (.getfield 161, 3) := by decide +kernel
theorem dm_Ma_inst_79 : decode mm_Ma_inst.2.1 79 = .ok (.if_icmp .ge 33, 3) := by decide +kernel
theorem dm_Ma_inst_82 : decode mm_Ma_inst.2.1 82 = .ok (.aload 4, 2) := by decide +kernel
theorem dm_Ma_inst_84 : decode mm_Ma_inst.2.1 84 = .ok (.aload_n 0, 1) := by decide +kernel
theorem dm_Ma_inst_85 : decode mm_Ma_inst.2.1 85 = .ok (.getfield 10, 3) := by decide +kernel
theorem dm_Ma_inst_88 : decode mm_Ma_inst.2.1 88 = .ok (.aload_n 3, 1) := by decide +kernel
theorem dm_Ma_inst_89 : decode mm_Ma_inst.2.1 89 = .ok (.getfield 140, 3) := by decide +kernel
theorem dm_Ma_inst_92 : decode mm_Ma_inst.2.1 92 = .ok (.getfield 164, 3) := by decide +kernel
theorem dm_Ma_inst_95 : decode mm_Ma_inst.2.1 95 = .ok (.iload 5, 2) := by decide +kernel
theorem dm_Ma_inst_97 : decode mm_Ma_inst.2.1 97 = .ok (.aaload, 1) := by decide +kernel
theorem dm_Ma_inst_98 : decode mm_Ma_inst.2.1 98 = .ok (.aload_n 1, 1) := by decide +kernel
theorem dm_Ma_inst_99 : decode mm_Ma_inst.2.1 99 = .ok (.aload_n 2, 1) := by decide +kernel
theorem dm_Ma_inst_100 : decode mm_Ma_inst.2.1 100 = .ok (.invokevirtual 167, 3) := by decide +kernel
theorem dm_Ma_inst_103 : decode mm_Ma_inst.2.1 103 = .ok (.invokevirtual 170, 3) := by decide +kernel
theorem dm_Ma_inst_106 : decode mm_Ma_inst.2.1 106 = .ok (.iinc 5 1, 3) := by decide +kernel
theorem dm_Ma_inst_109 : decode mm_Ma_inst.2.1 109 = .ok (.goto (-39), 3) := by decide +kernel
theorem dm_Ma_inst_112 : decode mm_Ma_inst.2.1 112 = .ok (.aload_n 0, 1) := by decide +kernel
theorem dm_Ma_inst_113 : decode mm_Ma_inst.2.1 113 = .ok (.iconst 3, 1) := by decide +kernel
theorem dm_Ma_inst_114 : decode mm_Ma_inst.2.1 114 = .ok (.aload 4, 2) := by decide +kernel
theorem dm_Ma_inst_116 : decode mm_Ma_inst.2.1 116 = .ok (.aload_n 0, 1) := by decide +kernel
theorem dm_Ma_inst_117 : decode mm_Ma_inst.2.1 117 = .ok (.getfield 10, 3) := by decide +kernel
theorem dm_Ma_inst_120 : decode mm_Ma_inst.2.1 120 = .ok (.aload_n 3, 1) := by decide +kernel
theorem dm_Ma_inst_121 : decode mm_Ma_inst.2.1 121 = .ok (.getfield 132, 3) := by decide +kernel
theorem dm_Ma_inst_124 : decode mm_Ma_inst.2.1 124 = .ok (.aload_n 1, 1) := by decide +kernel
theorem dm_Ma_inst_125 : decode mm_Ma_inst.2.1 125 = .ok (.aload_n 2, 1) := by decide +kernel
theorem dm_Ma_inst_126 : decode mm_Ma_inst.2.1 126 = .ok (.invokevirtual 167, 3) := by decide +kernel
theorem dm_Ma_inst_129 : decode mm_Ma_inst.2.1 129 = .ok (.invokevirtual 101, 3) := by decide +kernel
theorem dm_Ma_inst_132 : decode mm_Ma_inst.2.1 132 = .ok (.ireturn, 1) := by decide +kernel
theorem dm_Ma_instType_0 : decode mm_Ma_instType.2.1 0 = .ok (.aload_n 0, 1) := by decide +kernel
theorem dm_Ma_instType_1 : decode mm_Ma_instType.2.1 1 = .ok (.iconst 1, 1) := by decide +kernel
theorem dm_Ma_instType_2 : decode mm_Ma_instType.2.1 2 = .ok (.iconst 0, 1) := by decide +kernel
theorem dm_Ma_instType_3 : decode mm_Ma_instType.2.1 3 = .ok (.invokevirtual 65, 3) := by decide +kernel
theorem dm_Ma_instType_6 : decode mm_Ma_instType.2.1 6 = .ok (.astore_n 2, 1) := by decide +kernel
theorem dm_Ma_instType_7 : decode mm_Ma_instType.2.1 7 = .ok (.aload_n 0, 1) := by decide +kernel
theorem dm_Ma_instType_8 : decode mm_Ma_instType.2.1 8 = .ok (.iconst 0, 1) := by decide +kernel
theorem dm_Ma_instType_9 : decode mm_Ma_instType.2.1 9 = .ok (.iconst 2, 1) := by decide +kernel
theorem dm_Ma_instType_10 : decode mm_Ma_instType.2.1 10 = .ok (.invokevirtual 118, 3) := by decide +kernel
theorem dm_Ma_instType_13 : decode mm_Ma_instType.2.1 13 = .ok (.astore_n 3, 1) := by decide +kernel
theorem dm_Ma_instType_14 : decode mm_Ma_instType.2.1 14 = .ok (.aload_n 2, 1) := by decide +kernel
theorem dm_Ma_instType_15 : decode mm_Ma_instType.2.1 15 = .ok (.ifnull 7, 3) := by decide +kernel
theorem dm_Ma_instType_18 : decode mm_Ma_instType.2.1 18 = .ok (.aload_n 3, 1) := by decide +kernel
theorem dm_Ma_instType_19 : decode mm_Ma_instType.2.1 19 = .ok (.ifnonnull 5, 3) := by decide +kernel
theorem dm_Ma_instType_22 : decode mm_Ma_instType.2.1 22 = .ok (.iconst 1, 1) := by decide +kernel
theorem dm_Ma_instType_23 : decode mm_Ma_instType.2.1 23 = .ok (.ireturn, 1) := by decide +kernel
theorem dm_Ma_instType_24 : decode mm_Ma_instType.2.1 24 = .ok (.iload_n 1, 1) := by decide +kernel
theorem dm_Ma_instType_25 : decode mm_Ma_instType.2.1 25 = .ok (.ifCond .lt 8, 3) := by decide +kernel
theorem dm_Ma_instType_28 : decode mm_Ma_instType.2.1 28 = .ok (.iload_n 1, 1) := by decide +kernel
theorem dm_Ma_instType_29 : decode mm_Ma_instType.2.1 29 = .ok (.iconst 4, 1) := by decide +kernel
theorem dm_Ma_instType_30 : decode mm_Ma_instType.2.1 30 = .ok (.if_icmp .lt 5, 3) := by decide +kernel
theorem dm_Ma_instType_33 : decode mm_Ma_instType.2.1 33 = .ok (.iconst 2, 1) := by decide +kernel
theorem dm_Ma_instType_34 : decode mm_Ma_instType.2.1 34 = .ok (.ireturn, 1) := by decide +kernel
theorem dm_Ma_instType_35 : decode mm_Ma_instType.2.1 35 = .ok (.new 43, 3) := by decide +kernel
theorem dm_Ma_instType_38 : decode mm_Ma_instType.2.1 38 = .ok (.dup, 1) := by decide +kernel
theorem dm_Ma_instType_39 : decode mm_Ma_instType.2.1 39 = .ok (.invokespecial 45, 3) := by decide +kernel
theorem dm_Ma_instType_42 : decode mm_Ma_instType.2.1 42 = .ok (.astore 4, 2) := by decide +kernel
theorem dm_Ma_instType_44 : decode mm_Ma_instType.2.1 44 = .ok (.iconst 0, 1) := by decide +kernel
theorem dm_Ma_instType_45 : decode mm_Ma_instType.2.1 45 = .ok (.istore 5, 2) := by decide +kernel
theorem dm_Ma_instType_47 : decode mm_Ma_instType.2.1 47 = .ok (.iload 5, 2) := by decide +kernel
theorem dm_Ma_instType_49 : decode mm_Ma_instType.2.1 49 = .ok (.aload_n 3, 1) := by decide +kernel
theorem dm_Ma_instType_50 : decode mm_Ma_instType.2.1 50 = .ok (.getfield 140, 3) := by decide +kernel
theorem dm_Ma_instType_53 : decode mm_Ma_instType.2.1 53 = .ok (.getfield 161, 3) := by decide +kernel
theorem dm_Ma_instType_56 : decode mm_Ma_instType.2.1 56 = .ok (.if_icmp .ge 33, 3) := by decide +kernel
theorem dm_Ma_instType_59 : decode mm_Ma_instType.2.1 59 = .ok (.aload 4, 2) := by decide +kernel
theorem dm_Ma_instType_61 : decode mm_Ma_instType.2.1 61 = .ok (.aload_n 0, 1) := by decide +kernel
theorem dm_Ma_instType_62 : decode mm_Ma_instType.2.1 62 = .ok (.getfield 10, 3) := by decide +kernel
theorem dm_Ma_instType_65 : decode mm_Ma_instType.2.1 65 = .ok (.aload_n 3, 1) := by decide +kernel
theorem dm_Ma_instType_66 : decode mm_Ma_instType.2.1 66 = .ok (.getfield 140, 3) := by decide +kernel
theorem dm_Ma_instType_69 : decode mm_Ma_instType.2.1 69 = .ok (.getfield 164, 3) := by decide +kernel
theorem dm_Ma_instType_72 : decode mm_Ma_instType.2.1 72 = .ok (.iload 5, 2) := by decide +kernel
theorem dm_Ma_instType_74 : decode mm_Ma_instType.2.1 74 = .ok (.aaload, 1) := by decide +kernel
theorem dm_Ma_instType_75 : decode mm_Ma_instType.2.1 75 = .ok (.iload_n 1, 1) := by decide +kernel
theorem dm_Ma_instType_76 : decode mm_Ma_instType.2.1 76 = .ok (.aload_n 2, 1) := by decide +kernel
theorem dm_Ma_instType_77 : decode mm_Ma_instType.2.1 77 = .ok (.invokevirtual 174, 3) := by decide +kernel
theorem dm_Ma_instType_80 : decode mm_Ma_instType.2.1 80 = .ok (.invokevirtual 170, 3) := by decide +kernel
theorem dm_Ma_instType_83 : decode mm_Ma_instType.2.1 83 = .ok (.iinc 5 1, 3) := by decide +kernel
theorem dm_Ma_instType_86 : decode mm_Ma_instType.2.1 86 = .ok (.goto (-39), 3) := by decide +kernel
theorem dm_Ma_instType_89 : decode mm_Ma_instType.2.1 89 = .ok (.aload_n 0, 1) := by decide +kernel
theorem dm_Ma_instType_90 : decode mm_Ma_instType.2.1 90 = .ok (.iconst 2, 1) := by decide +kernel
theorem dm_Ma_instType_91 : decode mm_Ma_instType.2.1 91 = .ok (.aload 4, 2) := by decide +kernel
theorem dm_Ma_instType_93 : decode mm_Ma_instType.2.1 93 = .ok (.aload_n 0, 1) := by decide +kernel
theorem dm_Ma_instType_94 : decode mm_Ma_instType.2.1 94 = .ok (.getfield 10, 3) := by decide +kernel
theorem dm_Ma_instType_97 : decode mm_Ma_instType.2.1 97 = .ok (.aload_n 3, 1) := by decide +kernel
theorem dm_Ma_instType_98 : decode mm_Ma_instType.2.1 98 = .ok (.getfield 132, 3) := by decide +kernel
theorem dm_Ma_instType_101 : decode mm_Ma_instType.2.1 101 = .ok (.iload_n 1, 1) := by decide +kernel
theorem dm_Ma_instType_102 : decode mm_Ma_instType.2.1 102 = .ok (.aload_n 2, 1) := by decide +kernel
theorem dm_Ma_instType_103 : decode mm_Ma_instType.2.1 103 = .ok (.invokevirtual 174, 3) := by decide +kernel
theorem dm_Ma_instType_106 : decode mm_Ma_instType.2.1 106 = .ok (.invokevirtual 101, 3) := by decide +kernel
theorem dm_Ma_instType_109 : decode mm_Ma_instType.2.1 109 = .ok (.ireturn, 1) := by decide +kernel
theorem dm_Ma_keep_0 : decode mm_Ma_keep.2.1 0 = .ok (.aload_n 0, 1) := by decide +kernel
theorem dm_Ma_keep_1 : decode mm_Ma_keep.2.1 1 = .ok (.getfield 21, 3) := by decide +kernel
theorem dm_Ma_keep_4 : decode mm_Ma_keep.2.1 4 = .ok (.iconst 0, 1) := by decide +kernel
theorem dm_Ma_keep_5 : decode mm_Ma_keep.2.1 5 = .ok (.invokevirtual 178, 3) := by decide +kernel
theorem dm_Ma_keep_8 : decode mm_Ma_keep.2.1 8 = .ok (.astore_n 2, 1) := by decide +kernel
theorem dm_Ma_keep_9 : decode mm_Ma_keep.2.1 9 = .ok (.aload_n 2, 1) := by decide +kernel
theorem dm_Ma_keep_10 : decode mm_Ma_keep.2.1 10 = .ok (.ifnonnull 5, 3) := by decide +kernel
theorem dm_Ma_keep_13 : decode mm_Ma_keep.2.1 13 = .ok (.iconst 1, 1) := by decide +kernel
theorem dm_Ma_keep_14 : decode mm_Ma_keep.2.1 14 = .ok (.ireturn, 1) := by decide +kernel
theorem dm_Ma_keep_15 : decode mm_Ma_keep.2.1 15 = .ok (.iload_n 1, 1) := by decide +kernel
theorem dm_Ma_keep_16 : decode mm_Ma_keep.2.1 16 = .ok (.ifCond .lt 9, 3) := by decide +kernel
theorem dm_Ma_keep_19 : decode mm_Ma_keep.2.1 19 = .ok (.iload_n 1, 1) := by decide +kernel
theorem dm_Ma_keep_20 : decode mm_Ma_keep.2.1 20 = .ok (.bipush 6, 2) := by decide +kernel
theorem dm_Ma_keep_22 : decode mm_Ma_keep.2.1 22 = .ok (.if_icmp .lt 5, 3) := by decide +kernel
theorem dm_Ma_keep_25 : decode mm_Ma_keep.2.1 25 = .ok (.iconst 2, 1) := by decide +kernel
theorem dm_Ma_keep_26 : decode mm_Ma_keep.2.1 26 = .ok (.ireturn, 1) := by decide +kernel
theorem dm_Ma_keep_27 : decode mm_Ma_keep.2.1 27 = .ok (.aload_n 0, 1) := by decide +kernel
theorem dm_Ma_keep_28 : decode mm_Ma_keep.2.1 28 = .ok (.iconst 1, 1) := by decide +kernel
theorem dm_Ma_keep_29 : decode mm_Ma_keep.2.1 29 = .ok (.aload_n 2, 1) := by decide +kernel
theorem dm_Ma_keep_30 : decode mm_Ma_keep.2.1 30 = .ok (.invokevirtual 182, 3) := by decide +kernel
theorem dm_Ma_keep_33 : decode mm_Ma_keep.2.1 33 = .ok (.istore_n 3, 1) := by decide +kernel
theorem dm_Ma_keep_34 : decode mm_Ma_keep.2.1 34 = .ok (.iload_n 3, 1) := by decide +kernel
theorem dm_Ma_keep_35 : decode mm_Ma_keep.2.1 35 = .ok (.ifCond .ne 10, 3) := by decide +kernel
theorem dm_Ma_keep_38 : decode mm_Ma_keep.2.1 38 = .ok (.aload_n 0, 1) := by decide +kernel
theorem dm_Ma_keep_39 : decode mm_Ma_keep.2.1 39 = .ok (.getfield 33, 3) := by decide +kernel
theorem dm_Ma_keep_42 : decode mm_Ma_keep.2.1 42 = .ok (.iload_n 1, 1) := by decide +kernel
theorem dm_Ma_keep_43 : decode mm_Ma_keep.2.1 43 = .ok (.aload_n 2, 1) := by decide +kernel
theorem dm_Ma_keep_44 : decode mm_Ma_keep.2.1 44 = .ok (.aastore, 1) := by decide +kernel
theorem dm_Ma_keep_45 : decode mm_Ma_keep.2.1 45 = .ok (.iload_n 3, 1) := by decide +kernel
theorem dm_Ma_keep_46 : decode mm_Ma_keep.2.1 46 = .ok (.ireturn, 1) := by decide +kernel
theorem dm_Ma_fetch_0 : decode mm_Ma_fetch.2.1 0 = .ok (.aload_n 0, 1) := by decide +kernel
theorem dm_Ma_fetch_1 : decode mm_Ma_fetch.2.1 1 = .ok (.iload_n 1, 1) := by decide +kernel
theorem dm_Ma_fetch_2 : decode mm_Ma_fetch.2.1 2 = .ok (.invokevirtual 186, 3) := by decide +kernel
theorem dm_Ma_fetch_5 : decode mm_Ma_fetch.2.1 5 = .ok (.astore_n 2, 1) := by decide +kernel
theorem dm_Ma_fetch_6 : decode mm_Ma_fetch.2.1 6 = .ok (.aload_n 2, 1) := by decide +kernel
theorem dm_Ma_fetch_7 : decode mm_Ma_fetch.2.1 7 = .ok (.ifnonnull 5, 3) := by decide +kernel
theorem dm_Ma_fetch_10 : decode mm_Ma_fetch.2.1 10 = .ok (.iconst 2, 1) := by decide +kernel
theorem dm_Ma_fetch_11 : decode mm_Ma_fetch.2.1 11 = .ok (.ireturn, 1) := by decide +kernel
theorem dm_Ma_fetch_12 : decode mm_Ma_fetch.2.1 12 = .ok (.aload_n 0, 1) := by decide +kernel
theorem dm_Ma_fetch_13 : decode mm_Ma_fetch.2.1 13 = .ok (.iconst 0, 1) := by decide +kernel
theorem dm_Ma_fetch_14 : decode mm_Ma_fetch.2.1 14 = .ok (.aload_n 2, 1) := by decide +kernel
theorem dm_Ma_fetch_15 : decode mm_Ma_fetch.2.1 15 = .ok (.invokevirtual 182, 3) := by decide +kernel
theorem dm_Ma_fetch_18 : decode mm_Ma_fetch.2.1 18 = .ok (.ireturn, 1) := by decide +kernel
theorem dm_Ma_pop_0 : decode mm_Ma_pop.2.1 0 = .ok (.aload_n 0, 1) := by decide +kernel
theorem dm_Ma_pop_1 : decode mm_Ma_pop.2.1 1 = .ok (.getfield 21, 3) := by decide +kernel
theorem dm_Ma_pop_4 : decode mm_Ma_pop.2.1 4 = .ok (.iconst 0, 1) := by decide +kernel
theorem dm_Ma_pop_5 : decode mm_Ma_pop.2.1 5 = .ok (.invokevirtual 178, 3) := by decide +kernel
theorem dm_Ma_pop_8 : decode mm_Ma_pop.2.1 8 = .ok (.ifnonnull 5, 3) := by decide +kernel
theorem dm_Ma_pop_11 : decode mm_Ma_pop.2.1 11 = .ok (.iconst 1, 1) := by decide +kernel
theorem dm_Ma_pop_12 : decode mm_Ma_pop.2.1 12 = .ok (.ireturn, 1) := by decide +kernel
theorem dm_Ma_pop_13 : decode mm_Ma_pop.2.1 13 = .ok (.aload_n 0, 1) := by decide +kernel
theorem dm_Ma_pop_14 : decode mm_Ma_pop.2.1 14 = .ok (.iconst 1, 1) := by decide +kernel
theorem dm_Ma_pop_15 : decode mm_Ma_pop.2.1 15 = .ok (.invokevirtual 189, 3) := by decide +kernel
theorem dm_Ma_pop_18 : decode mm_Ma_pop.2.1 18 = .ok (.ireturn, 1) := by decide +kernel
theorem dm_Ma_export_0 : decode mm_Ma_export.2.1 0 = .ok (.aload_n 0, 1) := by decide +kernel
theorem dm_Ma_export_1 : decode mm_Ma_export.2.1 1 = .ok (.iconst 0, 1) := by decide +kernel
theorem dm_Ma_export_2 : decode mm_Ma_export.2.1 2 = .ok (.iconst 2, 1) := by decide +kernel
theorem dm_Ma_export_3 : decode mm_Ma_export.2.1 3 = .ok (.invokevirtual 118, 3) := by decide +kernel
theorem dm_Ma_export_6 : decode mm_Ma_export.2.1 6 = .ok (.astore_n 1, 1) := by decide +kernel
theorem dm_Ma_export_7 : decode mm_Ma_export.2.1 7 = .ok (.aload_n 1, 1) := by decide +kernel
theorem dm_Ma_export_8 : decode mm_Ma_export.2.1 8 = .ok (.ifnonnull 5, 3) := by decide +kernel
theorem dm_Ma_export_11 : decode mm_Ma_export.2.1 11 = .ok (.iconst 1, 1) := by decide +kernel
theorem dm_Ma_export_12 : decode mm_Ma_export.2.1 12 = .ok (.ireturn, 1) := by decide +kernel
theorem dm_Ma_export_13 : decode mm_Ma_export.2.1 13 = .ok (.aload_n 0, 1) := by decide +kernel
theorem dm_Ma_export_14 : decode mm_Ma_export.2.1 14 = .ok (.getfield 28, 3) := by decide +kernel
theorem dm_Ma_export_17 : decode mm_Ma_export.2.1 17 = .ok (.invokevirtual 193, 3) := by decide +kernel
theorem dm_Ma_export_20 : decode mm_Ma_export.2.1 20 = .ok (.ifCond .eq 5, 3) := by decide +kernel
theorem dm_Ma_export_23 : decode mm_Ma_export.2.1 23 = .ok (.iconst 4, 1) := by decide +kernel
theorem dm_Ma_export_24 : decode mm_Ma_export.2.1 24 = .ok (.ireturn, 1) := by decide +kernel
theorem dm_Ma_export_25 : decode mm_Ma_export.2.1 25 = .ok (.aload_n 0, 1) := by decide +kernel
theorem dm_Ma_export_26 : decode mm_Ma_export.2.1 26 = .ok (.iconst 1, 1) := by decide +kernel
theorem dm_Ma_export_27 : decode mm_Ma_export.2.1 27 = .ok (.invokevirtual 189, 3) := by decide +kernel
theorem dm_Ma_export_30 : decode mm_Ma_export.2.1 30 = .ok (.istore_n 2, 1) := by decide +kernel
theorem dm_Ma_export_31 : decode mm_Ma_export.2.1 31 = .ok (.iload_n 2, 1) := by decide +kernel
theorem dm_Ma_export_32 : decode mm_Ma_export.2.1 32 = .ok (.ifCond .ne 11, 3) := by decide +kernel
theorem dm_Ma_export_35 : decode mm_Ma_export.2.1 35 = .ok (.aload_n 0, 1) := by decide +kernel
theorem dm_Ma_export_36 : decode mm_Ma_export.2.1 36 = .ok (.getfield 28, 3) := by decide +kernel
theorem dm_Ma_export_39 : decode mm_Ma_export.2.1 39 = .ok (.aload_n 1, 1) := by decide +kernel
theorem dm_Ma_export_40 : decode mm_Ma_export.2.1 40 = .ok (.invokevirtual 197, 3) := by decide +kernel
theorem dm_Ma_export_43 : decode mm_Ma_export.2.1 43 = .ok (.iload_n 2, 1) := by decide +kernel
theorem dm_Ma_export_44 : decode mm_Ma_export.2.1 44 = .ok (.ireturn, 1) := by decide +kernel
theorem dm_Ma_count_0 : decode mm_Ma_count.2.1 0 = .ok (.iload_n 1, 1) := by decide +kernel
theorem dm_Ma_count_1 : decode mm_Ma_count.2.1 1 = .ok (.tableswitch 69 0 4 #[35, 43, 51, 59, 64], 35) := by decide +kernel
theorem dm_Ma_count_36 : decode mm_Ma_count.2.1 36 = .ok (.aload_n 0, 1) := by decide +kernel
theorem dm_Ma_count_37 : decode mm_Ma_count.2.1 37 = .ok (.getfield 21, 3) := by decide +kernel
theorem dm_Ma_count_40 : decode mm_Ma_count.2.1 40 = .ok (.getfield 200, 3) := by decide +kernel
theorem dm_Ma_count_43 : decode mm_Ma_count.2.1 43 = .ok (.ireturn, 1) := by decide +kernel
theorem dm_Ma_count_44 : decode mm_Ma_count.2.1 44 = .ok (.aload_n 0, 1) := by decide +kernel
theorem dm_Ma_count_45 : decode mm_Ma_count.2.1 45 = .ok (.getfield 25, 3) := by decide +kernel
theorem dm_Ma_count_48 : decode mm_Ma_count.2.1 48 = .ok (.getfield 200, 3) := by decide +kernel
theorem dm_Ma_count_51 : decode mm_Ma_count.2.1 51 = .ok (.ireturn, 1) := by decide +kernel
theorem dm_Ma_count_52 : decode mm_Ma_count.2.1 52 = .ok (.aload_n 0, 1) := by decide +kernel
theorem dm_Ma_count_53 : decode mm_Ma_count.2.1 53 = .ok (.getfield 28, 3) := by decide +kernel
theorem dm_Ma_count_56 : decode mm_Ma_count.2.1 56 = .ok (.getfield 200, 3) := by decide +kernel
theorem dm_Ma_count_59 : decode mm_Ma_count.2.1 59 = .ok (.ireturn, 1) := by decide +kernel
theorem dm_Ma_count_60 : decode mm_Ma_count.2.1 60 = .ok (.aload_n 0, 1) := by decide +kernel
theorem dm_Ma_count_61 : decode mm_Ma_count.2.1 61 = .ok (.getfield 50, 3) := by decide +kernel
theorem dm_Ma_count_64 : decode mm_Ma_count.2.1 64 = .ok (.ireturn, 1) := by decide +kernel
theorem dm_Ma_count_65 : decode mm_Ma_count.2.1 65 = .ok (.aload_n 0, 1) := by decide +kernel
theorem dm_Ma_count_66 : decode mm_Ma_count.2.1 66 = .ok (.getfield 54, 3) := by decide +kernel
theorem dm_Ma_count_69 : decode mm_Ma_count.2.1 69 = .ok (.ireturn, 1) := by decide +kernel
theorem dm_Ma_count_70 : decode mm_Ma_count.2.1 70 = .ok (.iconst (-1), 1) := by decide +kernel
theorem dm_Ma_count_71 : decode mm_Ma_count.2.1 71 = .ok (.ireturn, 1) := by decide +kernel
theorem dm_Ma_kind_0 : decode mm_Ma_kind.2.1 0 = .ok (.aload_n 0, 1) := by decide +kernel
theorem dm_Ma_kind_1 : decode mm_Ma_kind.2.1 1 = .ok (.iload_n 1, 1) := by decide +kernel
theorem dm_Ma_kind_2 : decode mm_Ma_kind.2.1 2 = .ok (.invokevirtual 201, 3) := by decide +kernel
theorem dm_Ma_kind_5 : decode mm_Ma_kind.2.1 5 = .ok (.astore_n 2, 1) := by decide +kernel
theorem dm_Ma_kind_6 : decode mm_Ma_kind.2.1 6 = .ok (.aload_n 2, 1) := by decide +kernel
theorem dm_Ma_kind_7 : decode mm_Ma_kind.2.1 7 = .ok (.ifnonnull 7, 3) := by decide +kernel
theorem dm_Ma_kind_10 : decode mm_Ma_kind.2.1 10 = .ok (.iconst (-1), 1) := by decide +kernel
theorem dm_Ma_kind_11 : decode mm_Ma_kind.2.1 11 = .ok (.goto 7, 3) := by decide +kernel
theorem dm_Ma_kind_14 : decode mm_Ma_kind.2.1 14 = .ok (.aload_n 2, 1) := by decide +kernel
theorem dm_Ma_kind_15 : decode mm_Ma_kind.2.1 15 = .ok (.getfield 204, 3) := by decide +kernel
theorem dm_Ma_kind_18 : decode mm_Ma_kind.2.1 18 = .ok (.ireturn, 1) := by decide +kernel
theorem dm_Ma_hypotheses_0 : decode mm_Ma_hypotheses.2.1 0 = .ok (.aload_n 0, 1) := by decide +kernel
theorem dm_Ma_hypotheses_1 : decode mm_Ma_hypotheses.2.1 1 = .ok (.iload_n 1, 1) := by decide +kernel
theorem dm_Ma_hypotheses_2 : decode mm_Ma_hypotheses.2.1 2 = .ok (.invokevirtual 201, 3) := by decide +kernel
theorem dm_Ma_hypotheses_5 : decode mm_Ma_hypotheses.2.1 5 = .ok (.astore_n 2, 1) := by decide +kernel
theorem dm_Ma_hypotheses_6 : decode mm_Ma_hypotheses.2.1 6 = .ok (.aload_n 2, 1) := by decide +kernel
theorem dm_Ma_hypotheses_7 : decode mm_Ma_hypotheses.2.1 7 = .ok (.ifnull 11, 3) := by decide +kernel
theorem dm_Ma_hypotheses_10 : decode mm_Ma_hypotheses.2.1 10 = .ok (.aload_n 2, 1) := by decide +kernel
theorem dm_Ma_hypotheses_11 : decode mm_Ma_hypotheses.2.1 11 = .ok (.getfield 204, 3) := by decide +kernel
theorem dm_Ma_hypotheses_14 : decode mm_Ma_hypotheses.2.1 14 = .ok (.iconst 2, 1) := by decide +kernel
theorem dm_Ma_hypotheses_15 : decode mm_Ma_hypotheses.2.1 15 = .ok (.if_icmp .eq 7, 3) := by decide +kernel
theorem dm_Ma_hypotheses_18 : decode mm_Ma_hypotheses.2.1 18 = .ok (.iconst (-1), 1) := by decide +kernel
theorem dm_Ma_hypotheses_19 : decode mm_Ma_hypotheses.2.1 19 = .ok (.goto 10, 3) := by decide +kernel
theorem dm_Ma_hypotheses_22 : decode mm_Ma_hypotheses.2.1 22 = .ok (.aload_n 2, 1) := by decide +kernel
theorem dm_Ma_hypotheses_23 : decode mm_Ma_hypotheses.2.1 23 = .ok (.getfield 140, 3) := by decide +kernel
theorem dm_Ma_hypotheses_26 : decode mm_Ma_hypotheses.2.1 26 = .ok (.getfield 161, 3) := by decide +kernel
theorem dm_Ma_hypotheses_29 : decode mm_Ma_hypotheses.2.1 29 = .ok (.ireturn, 1) := by decide +kernel
theorem dm_Ma_length_0 : decode mm_Ma_length.2.1 0 = .ok (.aload_n 0, 1) := by decide +kernel
theorem dm_Ma_length_1 : decode mm_Ma_length.2.1 1 = .ok (.iload_n 1, 1) := by decide +kernel
theorem dm_Ma_length_2 : decode mm_Ma_length.2.1 2 = .ok (.iload_n 2, 1) := by decide +kernel
theorem dm_Ma_length_3 : decode mm_Ma_length.2.1 3 = .ok (.invokevirtual 207, 3) := by decide +kernel
theorem dm_Ma_length_6 : decode mm_Ma_length.2.1 6 = .ok (.astore_n 3, 1) := by decide +kernel
theorem dm_Ma_length_7 : decode mm_Ma_length.2.1 7 = .ok (.aload_n 3, 1) := by decide +kernel
theorem dm_Ma_length_8 : decode mm_Ma_length.2.1 8 = .ok (.ifnonnull 7, 3) := by decide +kernel
theorem dm_Ma_length_11 : decode mm_Ma_length.2.1 11 = .ok (.iconst (-1), 1) := by decide +kernel
theorem dm_Ma_length_12 : decode mm_Ma_length.2.1 12 = .ok (.goto 7, 3) := by decide +kernel
theorem dm_Ma_length_15 : decode mm_Ma_length.2.1 15 = .ok (.aload_n 3, 1) := by decide +kernel
theorem dm_Ma_length_16 : decode mm_Ma_length.2.1 16 = .ok (.getfield 210, 3) := by decide +kernel
theorem dm_Ma_length_19 : decode mm_Ma_length.2.1 19 = .ok (.ireturn, 1) := by decide +kernel
theorem dm_Ma_symbol_0 : decode mm_Ma_symbol.2.1 0 = .ok (.aload_n 0, 1) := by decide +kernel
theorem dm_Ma_symbol_1 : decode mm_Ma_symbol.2.1 1 = .ok (.iload_n 1, 1) := by decide +kernel
theorem dm_Ma_symbol_2 : decode mm_Ma_symbol.2.1 2 = .ok (.iload_n 2, 1) := by decide +kernel
theorem dm_Ma_symbol_3 : decode mm_Ma_symbol.2.1 3 = .ok (.invokevirtual 207, 3) := by decide +kernel
theorem dm_Ma_symbol_6 : decode mm_Ma_symbol.2.1 6 = .ok (.astore 4, 2) := by decide +kernel
theorem dm_Ma_symbol_8 : decode mm_Ma_symbol.2.1 8 = .ok (.aload 4, 2) := by decide +kernel
theorem dm_Ma_symbol_10 : decode mm_Ma_symbol.2.1 10 = .ok (.ifnonnull 7, 3) := by decide +kernel
theorem dm_Ma_symbol_13 : decode mm_Ma_symbol.2.1 13 = .ok (.iconst (-1), 1) := by decide +kernel
theorem dm_Ma_symbol_14 : decode mm_Ma_symbol.2.1 14 = .ok (.goto 9, 3) := by decide +kernel
theorem dm_Ma_symbol_17 : decode mm_Ma_symbol.2.1 17 = .ok (.aload 4, 2) := by decide +kernel
theorem dm_Ma_symbol_19 : decode mm_Ma_symbol.2.1 19 = .ok (.iload_n 3, 1) := by decide +kernel
theorem dm_Ma_symbol_20 : decode mm_Ma_symbol.2.1 20 = .ok (.invokevirtual 211, 3) := by decide +kernel
theorem dm_Ma_symbol_23 : decode mm_Ma_symbol.2.1 23 = .ok (.ireturn, 1) := by decide +kernel
theorem dm_Ma_assume_0 : decode mm_Ma_assume.2.1 0 = .ok (.aload_n 0, 1) := by decide +kernel
theorem dm_Ma_assume_1 : decode mm_Ma_assume.2.1 1 = .ok (.getfield 10, 3) := by decide +kernel
theorem dm_Ma_assume_4 : decode mm_Ma_assume.2.1 4 = .ok (.aload_n 1, 1) := by decide +kernel
theorem dm_Ma_assume_5 : decode mm_Ma_assume.2.1 5 = .ok (.invokevirtual 80, 3) := by decide +kernel
theorem dm_Ma_assume_8 : decode mm_Ma_assume.2.1 8 = .ok (.iconst 0, 1) := by decide +kernel
theorem dm_Ma_assume_9 : decode mm_Ma_assume.2.1 9 = .ok (.invokevirtual 211, 3) := by decide +kernel
theorem dm_Ma_assume_12 : decode mm_Ma_assume.2.1 12 = .ok (.iconst 1, 1) := by decide +kernel
theorem dm_Ma_assume_13 : decode mm_Ma_assume.2.1 13 = .ok (.if_icmp .eq 5, 3) := by decide +kernel
theorem dm_Ma_assume_16 : decode mm_Ma_assume.2.1 16 = .ok (.iconst 2, 1) := by decide +kernel
theorem dm_Ma_assume_17 : decode mm_Ma_assume.2.1 17 = .ok (.ireturn, 1) := by decide +kernel
theorem dm_Ma_assume_18 : decode mm_Ma_assume.2.1 18 = .ok (.new 43, 3) := by decide +kernel
theorem dm_Ma_assume_21 : decode mm_Ma_assume.2.1 21 = .ok (.dup, 1) := by decide +kernel
theorem dm_Ma_assume_22 : decode mm_Ma_assume.2.1 22 = .ok (.invokespecial 45, 3) := by decide +kernel
theorem dm_Ma_assume_25 : decode mm_Ma_assume.2.1 25 = .ok (.astore_n 2, 1) := by decide +kernel
theorem dm_Ma_assume_26 : decode mm_Ma_assume.2.1 26 = .ok (.aload_n 2, 1) := by decide +kernel
theorem dm_Ma_assume_27 : decode mm_Ma_assume.2.1 27 = .ok (.aload_n 1, 1) := by decide +kernel
theorem dm_Ma_assume_28 : decode mm_Ma_assume.2.1 28 = .ok (.invokevirtual 170, 3) := by decide +kernel
theorem dm_Ma_assume_31 : decode mm_Ma_assume.2.1 31 = .ok (.aload_n 0, 1) := by decide +kernel
theorem dm_Ma_assume_32 : decode mm_Ma_assume.2.1 32 = .ok (.iconst 1, 1) := by decide +kernel
theorem dm_Ma_assume_33 : decode mm_Ma_assume.2.1 33 = .ok (.aload_n 2, 1) := by decide +kernel
theorem dm_Ma_assume_34 : decode mm_Ma_assume.2.1 34 = .ok (.aload_n 1, 1) := by decide +kernel
theorem dm_Ma_assume_35 : decode mm_Ma_assume.2.1 35 = .ok (.invokevirtual 101, 3) := by decide +kernel
theorem dm_Ma_assume_38 : decode mm_Ma_assume.2.1 38 = .ok (.ireturn, 1) := by decide +kernel
theorem dm_Ma_reduce_0 : decode mm_Ma_reduce.2.1 0 = .ok (.aload_n 1, 1) := by decide +kernel
theorem dm_Ma_reduce_1 : decode mm_Ma_reduce.2.1 1 = .ok (.iconst 0, 1) := by decide +kernel
theorem dm_Ma_reduce_2 : decode mm_Ma_reduce.2.1 2 = .ok (.invokevirtual 211, 3) := by decide +kernel
theorem dm_Ma_reduce_5 : decode mm_Ma_reduce.2.1 5 = .ok (.bipush 12, 2) := by decide +kernel
theorem dm_Ma_reduce_7 : decode mm_Ma_reduce.2.1 7 = .ok (.if_icmp .ne 13, 3) := by decide +kernel
theorem dm_Ma_reduce_10 : decode mm_Ma_reduce.2.1 10 = .ok (.aload_n 1, 1) := by decide +kernel
theorem dm_Ma_reduce_11 : decode mm_Ma_reduce.2.1 11 = .ok (.iconst 1, 1) := by decide +kernel
theorem dm_Ma_reduce_12 : decode mm_Ma_reduce.2.1 12 = .ok (.invokevirtual 211, 3) := by decide +kernel
theorem dm_Ma_reduce_15 : decode mm_Ma_reduce.2.1 15 = .ok (.bipush 13, 2) := by decide +kernel
theorem dm_Ma_reduce_17 : decode mm_Ma_reduce.2.1 17 = .ok (.if_icmp .eq 5, 3) := by decide +kernel
theorem dm_Ma_reduce_20 : decode mm_Ma_reduce.2.1 20 = .ok (.iconst 2, 1) := by decide +kernel
theorem dm_Ma_reduce_21 : decode mm_Ma_reduce.2.1 21 = .ok (.ireturn, 1) := by decide +kernel
theorem dm_Ma_reduce_22 : decode mm_Ma_reduce.2.1 22 = .ok (.aload_n 1, 1) := by decide +kernel
theorem dm_Ma_reduce_23 : decode mm_Ma_reduce.2.1 23 = .ok (.iconst 2, 1) := by decide +kernel
theorem dm_Ma_reduce_24 : decode mm_Ma_reduce.2.1 24 = .ok (.invokevirtual 214, 3) := by decide +kernel
theorem dm_Ma_reduce_27 : decode mm_Ma_reduce.2.1 27 = .ok (.istore_n 2, 1) := by decide +kernel
theorem dm_Ma_reduce_28 : decode mm_Ma_reduce.2.1 28 = .ok (.aload_n 1, 1) := by decide +kernel
