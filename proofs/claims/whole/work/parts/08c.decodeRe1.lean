theorem dm_Re_init_0 : decode mm_Re_init.2.1 0 = .ok (.aload_n 0, 1) := by decide +kernel
theorem dm_Re_init_1 : decode mm_Re_init.2.1 1 = .ok (.invokespecial 1, 3) := by decide +kernel
theorem dm_Re_init_4 : decode mm_Re_init.2.1 4 = .ok (.aload_n 0, 1) := by decide +kernel
theorem dm_Re_init_5 : decode mm_Re_init.2.1 5 = .ok (.sipush 10000, 3) := by decide +kernel
theorem dm_Re_init_8 : decode mm_Re_init.2.1 8 = .ok (.newarray .int, 2) := by decide +kernel
theorem dm_Re_init_10 : decode mm_Re_init.2.1 10 = .ok (.putfield 7, 3) := by decide +kernel
theorem dm_Re_init_13 : decode mm_Re_init.2.1 13 = .ok (.aload_n 0, 1) := by decide +kernel
theorem dm_Re_init_14 : decode mm_Re_init.2.1 14 = .ok (.bipush 120, 2) := by decide +kernel
theorem dm_Re_init_16 : decode mm_Re_init.2.1 16 = .ok (.newarray .int, 2) := by decide +kernel
theorem dm_Re_init_18 : decode mm_Re_init.2.1 18 = .ok (.putfield 13, 3) := by decide +kernel
theorem dm_Re_init_21 : decode mm_Re_init.2.1 21 = .ok (.aload_n 0, 1) := by decide +kernel
theorem dm_Re_init_22 : decode mm_Re_init.2.1 22 = .ok (.bipush 30, 2) := by decide +kernel
theorem dm_Re_init_24 : decode mm_Re_init.2.1 24 = .ok (.newarray .int, 2) := by decide +kernel
theorem dm_Re_init_26 : decode mm_Re_init.2.1 26 = .ok (.putfield 16, 3) := by decide +kernel
theorem dm_Re_init_29 : decode mm_Re_init.2.1 29 = .ok (.aload_n 0, 1) := by decide +kernel
theorem dm_Re_init_30 : decode mm_Re_init.2.1 30 = .ok (.bipush 30, 2) := by decide +kernel
theorem dm_Re_init_32 : decode mm_Re_init.2.1 32 = .ok (.newarray .int, 2) := by decide +kernel
theorem dm_Re_init_34 : decode mm_Re_init.2.1 34 = .ok (.putfield 19, 3) := by decide +kernel
theorem dm_Re_init_37 : decode mm_Re_init.2.1 37 = .ok (.aload_n 0, 1) := by decide +kernel
theorem dm_Re_init_38 : decode mm_Re_init.2.1 38 = .ok (.bipush 7, 2) := by decide +kernel
theorem dm_Re_init_40 : decode mm_Re_init.2.1 40 = .ok (.newarray .int, 2) := by decide +kernel
theorem dm_Re_init_42 : decode mm_Re_init.2.1 42 = .ok (.putfield 22, 3) := by decide +kernel
theorem dm_Re_init_45 : decode mm_Re_init.2.1 45 = .ok (.aload_n 0, 1) := by decide +kernel
theorem dm_Re_init_46 : decode mm_Re_init.2.1 46 = .ok (.bipush 40, 2) := by decide +kernel
theorem dm_Re_init_48 : decode mm_Re_init.2.1 48 = .ok (.newarray .int, 2) := by decide +kernel
theorem dm_Re_init_50 : decode mm_Re_init.2.1 50 = .ok (.putfield 25, 3) := by decide +kernel
theorem dm_Re_init_53 : decode mm_Re_init.2.1 53 = .ok (.bipush 12, 2) := by decide +kernel
theorem dm_Re_init_55 : decode mm_Re_init.2.1 55 = .ok (.istore_n 1, 1) := by decide +kernel
theorem dm_Re_init_56 : decode mm_Re_init.2.1 56 = .ok (.iload_n 1, 1) := by decide +kernel
theorem dm_Re_init_57 : decode mm_Re_init.2.1 57 = .ok (.bipush 18, 2) := by decide +kernel
theorem dm_Re_init_59 : decode mm_Re_init.2.1 59 = .ok (.if_icmp .ge 16, 3) := by decide +kernel
theorem dm_Re_init_62 : decode mm_Re_init.2.1 62 = .ok (.aload_n 0, 1) := by decide +kernel
theorem dm_Re_init_63 : decode mm_Re_init.2.1 63 = .ok (.getfield 16, 3) := by decide +kernel
theorem dm_Re_init_66 : decode mm_Re_init.2.1 66 = .ok (.iload_n 1, 1) := by decide +kernel
theorem dm_Re_init_67 : decode mm_Re_init.2.1 67 = .ok (.iconst (-1), 1) := by decide +kernel
theorem dm_Re_init_68 : decode mm_Re_init.2.1 68 = .ok (.iastore, 1) := by decide +kernel
theorem dm_Re_init_69 : decode mm_Re_init.2.1 69 = .ok (.iinc 1 1, 3) := by decide +kernel
theorem dm_Re_init_72 : decode mm_Re_init.2.1 72 = .ok (.goto (-16), 3) := by decide +kernel
theorem dm_Re_init_75 : decode mm_Re_init.2.1 75 = .ok (.return_, 1) := by decide +kernel
theorem dm_Re_base_0 : decode mm_Re_base.2.1 0 = .ok (.sipush 160, 3) := by decide +kernel
theorem dm_Re_base_3 : decode mm_Re_base.2.1 3 = .ok (.iload_n 0, 1) := by decide +kernel
theorem dm_Re_base_4 : decode mm_Re_base.2.1 4 = .ok (.imul, 1) := by decide +kernel
theorem dm_Re_base_5 : decode mm_Re_base.2.1 5 = .ok (.bipush 40, 2) := by decide +kernel
theorem dm_Re_base_7 : decode mm_Re_base.2.1 7 = .ok (.iload_n 1, 1) := by decide +kernel
theorem dm_Re_base_8 : decode mm_Re_base.2.1 8 = .ok (.imul, 1) := by decide +kernel
theorem dm_Re_base_9 : decode mm_Re_base.2.1 9 = .ok (.iadd, 1) := by decide +kernel
theorem dm_Re_base_10 : decode mm_Re_base.2.1 10 = .ok (.ireturn, 1) := by decide +kernel
theorem dm_Re_emit_0 : decode mm_Re_emit.2.1 0 = .ok (.aload_n 0, 1) := by decide +kernel
theorem dm_Re_emit_1 : decode mm_Re_emit.2.1 1 = .ok (.getfield 7, 3) := by decide +kernel
theorem dm_Re_emit_4 : decode mm_Re_emit.2.1 4 = .ok (.aload_n 0, 1) := by decide +kernel
theorem dm_Re_emit_5 : decode mm_Re_emit.2.1 5 = .ok (.getfield 28, 3) := by decide +kernel
theorem dm_Re_emit_8 : decode mm_Re_emit.2.1 8 = .ok (.iload_n 1, 1) := by decide +kernel
theorem dm_Re_emit_9 : decode mm_Re_emit.2.1 9 = .ok (.iastore, 1) := by decide +kernel
theorem dm_Re_emit_10 : decode mm_Re_emit.2.1 10 = .ok (.aload_n 0, 1) := by decide +kernel
theorem dm_Re_emit_11 : decode mm_Re_emit.2.1 11 = .ok (.dup, 1) := by decide +kernel
theorem dm_Re_emit_12 : decode mm_Re_emit.2.1 12 = .ok (.getfield 28, 3) := by decide +kernel
theorem dm_Re_emit_15 : decode mm_Re_emit.2.1 15 = .ok (.iconst 1, 1) := by decide +kernel
theorem dm_Re_emit_16 : decode mm_Re_emit.2.1 16 = .ok (.iadd, 1) := by decide +kernel
theorem dm_Re_emit_17 : decode mm_Re_emit.2.1 17 = .ok (.putfield 28, 3) := by decide +kernel
theorem dm_Re_emit_20 : decode mm_Re_emit.2.1 20 = .ok (.return_, 1) := by decide +kernel
theorem dm_Re_emitRow_0 : decode mm_Re_emitRow.2.1 0 = .ok (.iload_n 1, 1) := by decide +kernel
theorem dm_Re_emitRow_1 : decode mm_Re_emitRow.2.1 1 = .ok (.istore_n 3, 1) := by decide +kernel
theorem dm_Re_emitRow_2 : decode mm_Re_emitRow.2.1 2 = .ok (.iload_n 3, 1) := by decide +kernel
theorem dm_Re_emitRow_3 : decode mm_Re_emitRow.2.1 3 = .ok (.iload_n 2, 1) := by decide +kernel
theorem dm_Re_emitRow_4 : decode mm_Re_emitRow.2.1 4 = .ok (.if_icmp .ge 19, 3) := by decide +kernel
theorem dm_Re_emitRow_7 : decode mm_Re_emitRow.2.1 7 = .ok (.aload_n 0, 1) := by decide +kernel
theorem dm_Re_emitRow_8 : decode mm_Re_emitRow.2.1 8 = .ok (.aload_n 0, 1) := by decide +kernel
theorem dm_Re_emitRow_9 : decode mm_Re_emitRow.2.1 9 = .ok (.getfield 7, 3) := by decide +kernel
theorem dm_Re_emitRow_12 : decode mm_Re_emitRow.2.1 12 = .ok (.iload_n 3, 1) := by decide +kernel
theorem dm_Re_emitRow_13 : decode mm_Re_emitRow.2.1 13 = .ok (.iaload, 1) := by decide +kernel
theorem dm_Re_emitRow_14 : decode mm_Re_emitRow.2.1 14 = .ok (.invokevirtual 32, 3) := by decide +kernel
theorem dm_Re_emitRow_17 : decode mm_Re_emitRow.2.1 17 = .ok (.iinc 3 1, 3) := by decide +kernel
theorem dm_Re_emitRow_20 : decode mm_Re_emitRow.2.1 20 = .ok (.goto (-18), 3) := by decide +kernel
theorem dm_Re_emitRow_23 : decode mm_Re_emitRow.2.1 23 = .ok (.return_, 1) := by decide +kernel
theorem dm_Re_sameRow_0 : decode mm_Re_sameRow.2.1 0 = .ok (.iload_n 2, 1) := by decide +kernel
theorem dm_Re_sameRow_1 : decode mm_Re_sameRow.2.1 1 = .ok (.iload_n 1, 1) := by decide +kernel
theorem dm_Re_sameRow_2 : decode mm_Re_sameRow.2.1 2 = .ok (.isub, 1) := by decide +kernel
theorem dm_Re_sameRow_3 : decode mm_Re_sameRow.2.1 3 = .ok (.iload 4, 2) := by decide +kernel
theorem dm_Re_sameRow_5 : decode mm_Re_sameRow.2.1 5 = .ok (.iload_n 3, 1) := by decide +kernel
theorem dm_Re_sameRow_6 : decode mm_Re_sameRow.2.1 6 = .ok (.isub, 1) := by decide +kernel
theorem dm_Re_sameRow_7 : decode mm_Re_sameRow.2.1 7 = .ok (.if_icmp .ne 7, 3) := by decide +kernel
theorem dm_Re_sameRow_10 : decode mm_Re_sameRow.2.1 10 = .ok (.iconst 1, 1) := by decide +kernel
theorem dm_Re_sameRow_11 : decode mm_Re_sameRow.2.1 11 = .ok (.goto 4, 3) := by decide +kernel
theorem dm_Re_sameRow_14 : decode mm_Re_sameRow.2.1 14 = .ok (.iconst 0, 1) := by decide +kernel
theorem dm_Re_sameRow_15 : decode mm_Re_sameRow.2.1 15 = .ok (.istore 5, 2) := by decide +kernel
theorem dm_Re_sameRow_17 : decode mm_Re_sameRow.2.1 17 = .ok (.iconst 0, 1) := by decide +kernel
theorem dm_Re_sameRow_18 : decode mm_Re_sameRow.2.1 18 = .ok (.istore 6, 2) := by decide +kernel
theorem dm_Re_sameRow_20 : decode mm_Re_sameRow.2.1 20 = .ok (.iload 6, 2) := by decide +kernel
theorem dm_Re_sameRow_22 : decode mm_Re_sameRow.2.1 22 = .ok (.iload_n 2, 1) := by decide +kernel
theorem dm_Re_sameRow_23 : decode mm_Re_sameRow.2.1 23 = .ok (.iload_n 1, 1) := by decide +kernel
theorem dm_Re_sameRow_24 : decode mm_Re_sameRow.2.1 24 = .ok (.isub, 1) := by decide +kernel
theorem dm_Re_sameRow_25 : decode mm_Re_sameRow.2.1 25 = .ok (.if_icmp .ge 42, 3) := by decide +kernel
theorem dm_Re_sameRow_28 : decode mm_Re_sameRow.2.1 28 = .ok (.iload 5, 2) := by decide +kernel
theorem dm_Re_sameRow_30 : decode mm_Re_sameRow.2.1 30 = .ok (.ifCond .eq 37, 3) := by decide +kernel
theorem dm_Re_sameRow_33 : decode mm_Re_sameRow.2.1 33 = .ok (.aload_n 0, 1) := by decide +kernel
theorem dm_Re_sameRow_34 : decode mm_Re_sameRow.2.1 34 = .ok (.getfield 7, 3) := by decide +kernel
theorem dm_Re_sameRow_37 : decode mm_Re_sameRow.2.1 37 = .ok (.iload_n 1, 1) := by decide +kernel
theorem dm_Re_sameRow_38 : decode mm_Re_sameRow.2.1 38 = .ok (.iload 6, 2) := by decide +kernel
theorem dm_Re_sameRow_40 : decode mm_Re_sameRow.2.1 40 = .ok (.iadd, 1) := by decide +kernel
theorem dm_Re_sameRow_41 : decode mm_Re_sameRow.2.1 41 = .ok (.iaload, 1) := by decide +kernel
theorem dm_Re_sameRow_42 : decode mm_Re_sameRow.2.1 42 = .ok (.aload_n 0, 1) := by decide +kernel
theorem dm_Re_sameRow_43 : decode mm_Re_sameRow.2.1 43 = .ok (.getfield 7, 3) := by decide +kernel
theorem dm_Re_sameRow_46 : decode mm_Re_sameRow.2.1 46 = .ok (.iload_n 3, 1) := by decide +kernel
theorem dm_Re_sameRow_47 : decode mm_Re_sameRow.2.1 47 = .ok (.iload 6, 2) := by decide +kernel
theorem dm_Re_sameRow_49 : decode mm_Re_sameRow.2.1 49 = .ok (.iadd, 1) := by decide +kernel
theorem dm_Re_sameRow_50 : decode mm_Re_sameRow.2.1 50 = .ok (.iaload, 1) := by decide +kernel
theorem dm_Re_sameRow_51 : decode mm_Re_sameRow.2.1 51 = .ok (.if_icmp .ne 7, 3) := by decide +kernel
theorem dm_Re_sameRow_54 : decode mm_Re_sameRow.2.1 54 = .ok (.iconst 1, 1) := by decide +kernel
theorem dm_Re_sameRow_55 : decode mm_Re_sameRow.2.1 55 = .ok (.goto 4, 3) := by decide +kernel
theorem dm_Re_sameRow_58 : decode mm_Re_sameRow.2.1 58 = .ok (.iconst 0, 1) := by decide +kernel
theorem dm_Re_sameRow_59 : decode mm_Re_sameRow.2.1 59 = .ok (.istore 5, 2) := by decide +kernel
theorem dm_Re_sameRow_61 : decode mm_Re_sameRow.2.1 61 = .ok (.iinc 6 1, 3) := by decide +kernel
theorem dm_Re_sameRow_64 : decode mm_Re_sameRow.2.1 64 = .ok (.goto (-44), 3) := by decide +kernel
theorem dm_Re_sameRow_67 : decode mm_Re_sameRow.2.1 67 = .ok (.iload 5, 2) := by decide +kernel
theorem dm_Re_sameRow_69 : decode mm_Re_sameRow.2.1 69 = .ok (.ireturn, 1) := by decide +kernel
theorem dm_Re_skipType_0 : decode mm_Re_skipType.2.1 0 = .ok (.iconst 1, 1) := by decide +kernel
theorem dm_Re_skipType_1 : decode mm_Re_skipType.2.1 1 = .ok (.istore_n 2, 1) := by decide +kernel
theorem dm_Re_skipType_2 : decode mm_Re_skipType.2.1 2 = .ok (.iload_n 1, 1) := by decide +kernel
theorem dm_Re_skipType_3 : decode mm_Re_skipType.2.1 3 = .ok (.istore_n 3, 1) := by decide +kernel
theorem dm_Re_skipType_4 : decode mm_Re_skipType.2.1 4 = .ok (.iload_n 2, 1) := by decide +kernel
theorem dm_Re_skipType_5 : decode mm_Re_skipType.2.1 5 = .ok (.ifCond .le 26, 3) := by decide +kernel
theorem dm_Re_skipType_8 : decode mm_Re_skipType.2.1 8 = .ok (.iload_n 2, 1) := by decide +kernel
theorem dm_Re_skipType_9 : decode mm_Re_skipType.2.1 9 = .ok (.aload_n 0, 1) := by decide +kernel
theorem dm_Re_skipType_10 : decode mm_Re_skipType.2.1 10 = .ok (.getfield 7, 3) := by decide +kernel
theorem dm_Re_skipType_13 : decode mm_Re_skipType.2.1 13 = .ok (.iload_n 3, 1) := by decide +kernel
theorem dm_Re_skipType_14 : decode mm_Re_skipType.2.1 14 = .ok (.iaload, 1) := by decide +kernel
theorem dm_Re_skipType_15 : decode mm_Re_skipType.2.1 15 = .ok (.ifCond .ne 7, 3) := by decide +kernel
theorem dm_Re_skipType_18 : decode mm_Re_skipType.2.1 18 = .ok (.iconst 1, 1) := by decide +kernel
theorem dm_Re_skipType_19 : decode mm_Re_skipType.2.1 19 = .ok (.goto 4, 3) := by decide +kernel
theorem dm_Re_skipType_22 : decode mm_Re_skipType.2.1 22 = .ok (.iconst (-1), 1) := by decide +kernel
theorem dm_Re_skipType_23 : decode mm_Re_skipType.2.1 23 = .ok (.iadd, 1) := by decide +kernel
theorem dm_Re_skipType_24 : decode mm_Re_skipType.2.1 24 = .ok (.istore_n 2, 1) := by decide +kernel
theorem dm_Re_skipType_25 : decode mm_Re_skipType.2.1 25 = .ok (.iinc 3 1, 3) := by decide +kernel
theorem dm_Re_skipType_28 : decode mm_Re_skipType.2.1 28 = .ok (.goto (-24), 3) := by decide +kernel
theorem dm_Re_skipType_31 : decode mm_Re_skipType.2.1 31 = .ok (.iload_n 3, 1) := by decide +kernel
theorem dm_Re_skipType_32 : decode mm_Re_skipType.2.1 32 = .ok (.ireturn, 1) := by decide +kernel
theorem dm_Re_skipTerm_0 : decode mm_Re_skipTerm.2.1 0 = .ok (.iconst 1, 1) := by decide +kernel
theorem dm_Re_skipTerm_1 : decode mm_Re_skipTerm.2.1 1 = .ok (.istore_n 2, 1) := by decide +kernel
theorem dm_Re_skipTerm_2 : decode mm_Re_skipTerm.2.1 2 = .ok (.iload_n 1, 1) := by decide +kernel
theorem dm_Re_skipTerm_3 : decode mm_Re_skipTerm.2.1 3 = .ok (.istore_n 3, 1) := by decide +kernel
theorem dm_Re_skipTerm_4 : decode mm_Re_skipTerm.2.1 4 = .ok (.iload_n 2, 1) := by decide +kernel
theorem dm_Re_skipTerm_5 : decode mm_Re_skipTerm.2.1 5 = .ok (.ifCond .le 85, 3) := by decide +kernel
theorem dm_Re_skipTerm_8 : decode mm_Re_skipTerm.2.1 8 = .ok (.aload_n 0, 1) := by decide +kernel
theorem dm_Re_skipTerm_9 : decode mm_Re_skipTerm.2.1 9 = .ok (.getfield 7, 3) := by decide +kernel
theorem dm_Re_skipTerm_12 : decode mm_Re_skipTerm.2.1 12 = .ok (.iload_n 3, 1) := by decide +kernel
theorem dm_Re_skipTerm_13 : decode mm_Re_skipTerm.2.1 13 = .ok (.iaload, 1) := by decide +kernel
theorem dm_Re_skipTerm_14 : decode mm_Re_skipTerm.2.1 14 = .ok (.istore 4, 2) := by decide +kernel
theorem dm_Re_skipTerm_16 : decode mm_Re_skipTerm.2.1 16 = .ok (.iload_n 2, 1) := by decide +kernel
theorem dm_Re_skipTerm_17 : decode mm_Re_skipTerm.2.1 17 = .ok (.iload 4, 2) := by decide +kernel
theorem dm_Re_skipTerm_19 : decode mm_Re_skipTerm.2.1 19 = .ok (.bipush 12, 2) := by decide +kernel
theorem dm_Re_skipTerm_21 : decode mm_Re_skipTerm.2.1 21 = .ok (.if_icmp .ne 7, 3) := by decide +kernel
theorem dm_Re_skipTerm_24 : decode mm_Re_skipTerm.2.1 24 = .ok (.iconst 1, 1) := by decide +kernel
theorem dm_Re_skipTerm_25 : decode mm_Re_skipTerm.2.1 25 = .ok (.goto 15, 3) := by decide +kernel
theorem dm_Re_skipTerm_28 : decode mm_Re_skipTerm.2.1 28 = .ok (.iload 4, 2) := by decide +kernel
theorem dm_Re_skipTerm_30 : decode mm_Re_skipTerm.2.1 30 = .ok (.bipush 13, 2) := by decide +kernel
theorem dm_Re_skipTerm_32 : decode mm_Re_skipTerm.2.1 32 = .ok (.if_icmp .ne 7, 3) := by decide +kernel
theorem dm_Re_skipTerm_35 : decode mm_Re_skipTerm.2.1 35 = .ok (.iconst 0, 1) := by decide +kernel
theorem dm_Re_skipTerm_36 : decode mm_Re_skipTerm.2.1 36 = .ok (.goto 4, 3) := by decide +kernel
theorem dm_Re_skipTerm_39 : decode mm_Re_skipTerm.2.1 39 = .ok (.iconst (-1), 1) := by decide +kernel
theorem dm_Re_skipTerm_40 : decode mm_Re_skipTerm.2.1 40 = .ok (.iadd, 1) := by decide +kernel
theorem dm_Re_skipTerm_41 : decode mm_Re_skipTerm.2.1 41 = .ok (.istore_n 2, 1) := by decide +kernel
theorem dm_Re_skipTerm_42 : decode mm_Re_skipTerm.2.1 42 = .ok (.iload 4, 2) := by decide +kernel
theorem dm_Re_skipTerm_44 : decode mm_Re_skipTerm.2.1 44 = .ok (.bipush 13, 2) := by decide +kernel
theorem dm_Re_skipTerm_46 : decode mm_Re_skipTerm.2.1 46 = .ok (.if_icmp .ne 13, 3) := by decide +kernel
theorem dm_Re_skipTerm_49 : decode mm_Re_skipTerm.2.1 49 = .ok (.aload_n 0, 1) := by decide +kernel
theorem dm_Re_skipTerm_50 : decode mm_Re_skipTerm.2.1 50 = .ok (.iload_n 3, 1) := by decide +kernel
theorem dm_Re_skipTerm_51 : decode mm_Re_skipTerm.2.1 51 = .ok (.iconst 1, 1) := by decide +kernel
theorem dm_Re_skipTerm_52 : decode mm_Re_skipTerm.2.1 52 = .ok (.iadd, 1) := by decide +kernel
theorem dm_Re_skipTerm_53 : decode mm_Re_skipTerm.2.1 53 = .ok (.invokevirtual 36, 3) := by decide +kernel
theorem dm_Re_skipTerm_56 : decode mm_Re_skipTerm.2.1 56 = .ok (.goto 30, 3) := by decide +kernel
theorem dm_Re_skipTerm_59 : decode mm_Re_skipTerm.2.1 59 = .ok (.iload 4, 2) := by decide +kernel
theorem dm_Re_skipTerm_61 : decode mm_Re_skipTerm.2.1 61 = .ok (.bipush 10, 2) := by decide +kernel
theorem dm_Re_skipTerm_63 : decode mm_Re_skipTerm.2.1 63 = .ok (.if_icmp .eq 10, 3) := by decide +kernel
theorem dm_Re_skipTerm_66 : decode mm_Re_skipTerm.2.1 66 = .ok (.iload 4, 2) := by decide +kernel
theorem dm_Re_skipTerm_68 : decode mm_Re_skipTerm.2.1 68 = .ok (.bipush 11, 2) := by decide +kernel
theorem dm_Re_skipTerm_70 : decode mm_Re_skipTerm.2.1 70 = .ok (.if_icmp .ne 13, 3) := by decide +kernel
theorem dm_Re_skipTerm_73 : decode mm_Re_skipTerm.2.1 73 = .ok (.aload_n 0, 1) := by decide +kernel
theorem dm_Re_skipTerm_74 : decode mm_Re_skipTerm.2.1 74 = .ok (.iload_n 3, 1) := by decide +kernel
theorem dm_Re_skipTerm_75 : decode mm_Re_skipTerm.2.1 75 = .ok (.iconst 2, 1) := by decide +kernel
theorem dm_Re_skipTerm_76 : decode mm_Re_skipTerm.2.1 76 = .ok (.iadd, 1) := by decide +kernel
theorem dm_Re_skipTerm_77 : decode mm_Re_skipTerm.2.1 77 = .ok (.invokevirtual 36, 3) := by decide +kernel
theorem dm_Re_skipTerm_80 : decode mm_Re_skipTerm.2.1 80 = .ok (.goto 6, 3) := by decide +kernel
theorem dm_Re_skipTerm_83 : decode mm_Re_skipTerm.2.1 83 = .ok (.iload_n 3, 1) := by decide +kernel
theorem dm_Re_skipTerm_84 : decode mm_Re_skipTerm.2.1 84 = .ok (.iconst 1, 1) := by decide +kernel
theorem dm_Re_skipTerm_85 : decode mm_Re_skipTerm.2.1 85 = .ok (.iadd, 1) := by decide +kernel
theorem dm_Re_skipTerm_86 : decode mm_Re_skipTerm.2.1 86 = .ok (.istore_n 3, 1) := by decide +kernel
theorem dm_Re_skipTerm_87 : decode mm_Re_skipTerm.2.1 87 = .ok (.goto (-83), 3) := by decide +kernel
theorem dm_Re_skipTerm_90 : decode mm_Re_skipTerm.2.1 90 = .ok (.iload_n 3, 1) := by decide +kernel
theorem dm_Re_skipTerm_91 : decode mm_Re_skipTerm.2.1 91 = .ok (.ireturn, 1) := by decide +kernel
theorem dm_Re_depth_0 : decode mm_Re_depth.2.1 0 = .ok (.iconst 0, 1) := by decide +kernel
theorem dm_Re_depth_1 : decode mm_Re_depth.2.1 1 = .ok (.istore_n 3, 1) := by decide +kernel
theorem dm_Re_depth_2 : decode mm_Re_depth.2.1 2 = .ok (.iload_n 1, 1) := by decide +kernel
theorem dm_Re_depth_3 : decode mm_Re_depth.2.1 3 = .ok (.istore 4, 2) := by decide +kernel
theorem dm_Re_depth_5 : decode mm_Re_depth.2.1 5 = .ok (.iload 4, 2) := by decide +kernel
theorem dm_Re_depth_7 : decode mm_Re_depth.2.1 7 = .ok (.iload_n 2, 1) := by decide +kernel
theorem dm_Re_depth_8 : decode mm_Re_depth.2.1 8 = .ok (.if_icmp .ge 39, 3) := by decide +kernel
theorem dm_Re_depth_11 : decode mm_Re_depth.2.1 11 = .ok (.aload_n 0, 1) := by decide +kernel
theorem dm_Re_depth_12 : decode mm_Re_depth.2.1 12 = .ok (.getfield 7, 3) := by decide +kernel
theorem dm_Re_depth_15 : decode mm_Re_depth.2.1 15 = .ok (.iload 4, 2) := by decide +kernel
theorem dm_Re_depth_17 : decode mm_Re_depth.2.1 17 = .ok (.iaload, 1) := by decide +kernel
theorem dm_Re_depth_18 : decode mm_Re_depth.2.1 18 = .ok (.bipush 13, 2) := by decide +kernel
theorem dm_Re_depth_20 : decode mm_Re_depth.2.1 20 = .ok (.if_icmp .ne 21, 3) := by decide +kernel
theorem dm_Re_depth_23 : decode mm_Re_depth.2.1 23 = .ok (.iload_n 3, 1) := by decide +kernel
theorem dm_Re_depth_24 : decode mm_Re_depth.2.1 24 = .ok (.aload_n 0, 1) := by decide +kernel
theorem dm_Re_depth_25 : decode mm_Re_depth.2.1 25 = .ok (.iload 4, 2) := by decide +kernel
theorem dm_Re_depth_27 : decode mm_Re_depth.2.1 27 = .ok (.invokevirtual 40, 3) := by decide +kernel
theorem dm_Re_depth_30 : decode mm_Re_depth.2.1 30 = .ok (.iload_n 2, 1) := by decide +kernel
theorem dm_Re_depth_31 : decode mm_Re_depth.2.1 31 = .ok (.if_icmp .le 7, 3) := by decide +kernel
theorem dm_Re_depth_34 : decode mm_Re_depth.2.1 34 = .ok (.iconst 1, 1) := by decide +kernel
theorem dm_Re_depth_35 : decode mm_Re_depth.2.1 35 = .ok (.goto 4, 3) := by decide +kernel
theorem dm_Re_depth_38 : decode mm_Re_depth.2.1 38 = .ok (.iconst 0, 1) := by decide +kernel
theorem dm_Re_depth_39 : decode mm_Re_depth.2.1 39 = .ok (.iadd, 1) := by decide +kernel
theorem dm_Re_depth_40 : decode mm_Re_depth.2.1 40 = .ok (.istore_n 3, 1) := by decide +kernel
theorem dm_Re_depth_41 : decode mm_Re_depth.2.1 41 = .ok (.iinc 4 1, 3) := by decide +kernel
theorem dm_Re_depth_44 : decode mm_Re_depth.2.1 44 = .ok (.goto (-39), 3) := by decide +kernel
theorem dm_Re_depth_47 : decode mm_Re_depth.2.1 47 = .ok (.iload_n 3, 1) := by decide +kernel
theorem dm_Re_depth_48 : decode mm_Re_depth.2.1 48 = .ok (.ireturn, 1) := by decide +kernel
theorem dm_Re_typeOf_0 : decode mm_Re_typeOf.2.1 0 = .ok (.aload_n 0, 1) := by decide +kernel
theorem dm_Re_typeOf_1 : decode mm_Re_typeOf.2.1 1 = .ok (.getfield 28, 3) := by decide +kernel
theorem dm_Re_typeOf_4 : decode mm_Re_typeOf.2.1 4 = .ok (.istore_n 2, 1) := by decide +kernel
theorem dm_Re_typeOf_5 : decode mm_Re_typeOf.2.1 5 = .ok (.iload_n 1, 1) := by decide +kernel
theorem dm_Re_typeOf_6 : decode mm_Re_typeOf.2.1 6 = .ok (.istore_n 3, 1) := by decide +kernel
theorem dm_Re_typeOf_7 : decode mm_Re_typeOf.2.1 7 = .ok (.iconst 0, 1) := by decide +kernel
theorem dm_Re_typeOf_8 : decode mm_Re_typeOf.2.1 8 = .ok (.istore 4, 2) := by decide +kernel
theorem dm_Re_typeOf_10 : decode mm_Re_typeOf.2.1 10 = .ok (.iconst 0, 1) := by decide +kernel
theorem dm_Re_typeOf_11 : decode mm_Re_typeOf.2.1 11 = .ok (.istore 5, 2) := by decide +kernel
theorem dm_Re_typeOf_13 : decode mm_Re_typeOf.2.1 13 = .ok (.aload_n 0, 1) := by decide +kernel
theorem dm_Re_typeOf_14 : decode mm_Re_typeOf.2.1 14 = .ok (.getfield 7, 3) := by decide +kernel
theorem dm_Re_typeOf_17 : decode mm_Re_typeOf.2.1 17 = .ok (.iload_n 3, 1) := by decide +kernel
theorem dm_Re_typeOf_18 : decode mm_Re_typeOf.2.1 18 = .ok (.iaload, 1) := by decide +kernel
theorem dm_Re_typeOf_19 : decode mm_Re_typeOf.2.1 19 = .ok (.bipush 12, 2) := by decide +kernel
theorem dm_Re_typeOf_21 : decode mm_Re_typeOf.2.1 21 = .ok (.if_icmp .eq 14, 3) := by decide +kernel
theorem dm_Re_typeOf_24 : decode mm_Re_typeOf.2.1 24 = .ok (.aload_n 0, 1) := by decide +kernel
theorem dm_Re_typeOf_25 : decode mm_Re_typeOf.2.1 25 = .ok (.getfield 7, 3) := by decide +kernel
theorem dm_Re_typeOf_28 : decode mm_Re_typeOf.2.1 28 = .ok (.iload_n 3, 1) := by decide +kernel
theorem dm_Re_typeOf_29 : decode mm_Re_typeOf.2.1 29 = .ok (.iaload, 1) := by decide +kernel
theorem dm_Re_typeOf_30 : decode mm_Re_typeOf.2.1 30 = .ok (.bipush 13, 2) := by decide +kernel
theorem dm_Re_typeOf_32 : decode mm_Re_typeOf.2.1 32 = .ok (.if_icmp .ne 78, 3) := by decide +kernel
theorem dm_Re_typeOf_35 : decode mm_Re_typeOf.2.1 35 = .ok (.iload_n 3, 1) := by decide +kernel
theorem dm_Re_typeOf_36 : decode mm_Re_typeOf.2.1 36 = .ok (.iconst 1, 1) := by decide +kernel
theorem dm_Re_typeOf_37 : decode mm_Re_typeOf.2.1 37 = .ok (.iadd, 1) := by decide +kernel
theorem dm_Re_typeOf_38 : decode mm_Re_typeOf.2.1 38 = .ok (.istore 6, 2) := by decide +kernel
theorem dm_Re_typeOf_40 : decode mm_Re_typeOf.2.1 40 = .ok (.aload_n 0, 1) := by decide +kernel
theorem dm_Re_typeOf_41 : decode mm_Re_typeOf.2.1 41 = .ok (.getfield 7, 3) := by decide +kernel
theorem dm_Re_typeOf_44 : decode mm_Re_typeOf.2.1 44 = .ok (.iload_n 3, 1) := by decide +kernel
theorem dm_Re_typeOf_45 : decode mm_Re_typeOf.2.1 45 = .ok (.iaload, 1) := by decide +kernel
theorem dm_Re_typeOf_46 : decode mm_Re_typeOf.2.1 46 = .ok (.bipush 12, 2) := by decide +kernel
theorem dm_Re_typeOf_48 : decode mm_Re_typeOf.2.1 48 = .ok (.if_icmp .ne 9, 3) := by decide +kernel
theorem dm_Re_typeOf_51 : decode mm_Re_typeOf.2.1 51 = .ok (.iinc 4 1, 3) := by decide +kernel
theorem dm_Re_typeOf_54 : decode mm_Re_typeOf.2.1 54 = .ok (.goto 50, 3) := by decide +kernel
theorem dm_Re_typeOf_57 : decode mm_Re_typeOf.2.1 57 = .ok (.aload_n 0, 1) := by decide +kernel
theorem dm_Re_typeOf_58 : decode mm_Re_typeOf.2.1 58 = .ok (.iload_n 3, 1) := by decide +kernel
theorem dm_Re_typeOf_59 : decode mm_Re_typeOf.2.1 59 = .ok (.iconst 1, 1) := by decide +kernel
theorem dm_Re_typeOf_60 : decode mm_Re_typeOf.2.1 60 = .ok (.iadd, 1) := by decide +kernel
theorem dm_Re_typeOf_61 : decode mm_Re_typeOf.2.1 61 = .ok (.invokevirtual 36, 3) := by decide +kernel
theorem dm_Re_typeOf_64 : decode mm_Re_typeOf.2.1 64 = .ok (.istore 6, 2) := by decide +kernel
theorem dm_Re_typeOf_66 : decode mm_Re_typeOf.2.1 66 = .ok (.aload_n 0, 1) := by decide +kernel
theorem dm_Re_typeOf_67 : decode mm_Re_typeOf.2.1 67 = .ok (.getfield 25, 3) := by decide +kernel
theorem dm_Re_typeOf_70 : decode mm_Re_typeOf.2.1 70 = .ok (.iload 5, 2) := by decide +kernel
theorem dm_Re_typeOf_72 : decode mm_Re_typeOf.2.1 72 = .ok (.iload_n 3, 1) := by decide +kernel
theorem dm_Re_typeOf_73 : decode mm_Re_typeOf.2.1 73 = .ok (.iconst 1, 1) := by decide +kernel
theorem dm_Re_typeOf_74 : decode mm_Re_typeOf.2.1 74 = .ok (.iadd, 1) := by decide +kernel
theorem dm_Re_typeOf_75 : decode mm_Re_typeOf.2.1 75 = .ok (.iastore, 1) := by decide +kernel
theorem dm_Re_typeOf_76 : decode mm_Re_typeOf.2.1 76 = .ok (.iinc 5 1, 3) := by decide +kernel
theorem dm_Re_typeOf_79 : decode mm_Re_typeOf.2.1 79 = .ok (.iload 4, 2) := by decide +kernel
theorem dm_Re_typeOf_81 : decode mm_Re_typeOf.2.1 81 = .ok (.ifCond .le 9, 3) := by decide +kernel
theorem dm_Re_typeOf_84 : decode mm_Re_typeOf.2.1 84 = .ok (.iinc 4 (-1), 3) := by decide +kernel
theorem dm_Re_typeOf_87 : decode mm_Re_typeOf.2.1 87 = .ok (.goto 17, 3) := by decide +kernel
theorem dm_Re_typeOf_90 : decode mm_Re_typeOf.2.1 90 = .ok (.aload_n 0, 1) := by decide +kernel
theorem dm_Re_typeOf_91 : decode mm_Re_typeOf.2.1 91 = .ok (.iconst 0, 1) := by decide +kernel
theorem dm_Re_typeOf_92 : decode mm_Re_typeOf.2.1 92 = .ok (.invokevirtual 32, 3) := by decide +kernel
theorem dm_Re_typeOf_95 : decode mm_Re_typeOf.2.1 95 = .ok (.aload_n 0, 1) := by decide +kernel
theorem dm_Re_typeOf_96 : decode mm_Re_typeOf.2.1 96 = .ok (.iload_n 3, 1) := by decide +kernel
theorem dm_Re_typeOf_97 : decode mm_Re_typeOf.2.1 97 = .ok (.iconst 1, 1) := by decide +kernel
theorem dm_Re_typeOf_98 : decode mm_Re_typeOf.2.1 98 = .ok (.iadd, 1) := by decide +kernel
theorem dm_Re_typeOf_99 : decode mm_Re_typeOf.2.1 99 = .ok (.iload 6, 2) := by decide +kernel
theorem dm_Re_typeOf_101 : decode mm_Re_typeOf.2.1 101 = .ok (.invokevirtual 43, 3) := by decide +kernel
theorem dm_Re_typeOf_104 : decode mm_Re_typeOf.2.1 104 = .ok (.iload 6, 2) := by decide +kernel
theorem dm_Re_typeOf_106 : decode mm_Re_typeOf.2.1 106 = .ok (.istore_n 3, 1) := by decide +kernel
theorem dm_Re_typeOf_107 : decode mm_Re_typeOf.2.1 107 = .ok (.goto (-94), 3) := by decide +kernel
theorem dm_Re_typeOf_110 : decode mm_Re_typeOf.2.1 110 = .ok (.aload_n 0, 1) := by decide +kernel
theorem dm_Re_typeOf_111 : decode mm_Re_typeOf.2.1 111 = .ok (.getfield 7, 3) := by decide +kernel
theorem dm_Re_typeOf_114 : decode mm_Re_typeOf.2.1 114 = .ok (.iload_n 3, 1) := by decide +kernel
theorem dm_Re_typeOf_115 : decode mm_Re_typeOf.2.1 115 = .ok (.iaload, 1) := by decide +kernel
theorem dm_Re_typeOf_116 : decode mm_Re_typeOf.2.1 116 = .ok (.bipush 11, 2) := by decide +kernel
theorem dm_Re_typeOf_118 : decode mm_Re_typeOf.2.1 118 = .ok (.if_icmp .ne 25, 3) := by decide +kernel
theorem dm_Re_typeOf_121 : decode mm_Re_typeOf.2.1 121 = .ok (.aload_n 0, 1) := by decide +kernel
theorem dm_Re_typeOf_122 : decode mm_Re_typeOf.2.1 122 = .ok (.getfield 7, 3) := by decide +kernel
theorem dm_Re_typeOf_125 : decode mm_Re_typeOf.2.1 125 = .ok (.iload_n 3, 1) := by decide +kernel
theorem dm_Re_typeOf_126 : decode mm_Re_typeOf.2.1 126 = .ok (.iconst 1, 1) := by decide +kernel
theorem dm_Re_typeOf_127 : decode mm_Re_typeOf.2.1 127 = .ok (.iadd, 1) := by decide +kernel
theorem dm_Re_typeOf_128 : decode mm_Re_typeOf.2.1 128 = .ok (.iaload, 1) := by decide +kernel
theorem dm_Re_typeOf_129 : decode mm_Re_typeOf.2.1 129 = .ok (.ifCond .ne 14, 3) := by decide +kernel
theorem dm_Re_typeOf_132 : decode mm_Re_typeOf.2.1 132 = .ok (.aload_n 0, 1) := by decide +kernel
theorem dm_Re_typeOf_133 : decode mm_Re_typeOf.2.1 133 = .ok (.iload_n 3, 1) := by decide +kernel
theorem dm_Re_typeOf_134 : decode mm_Re_typeOf.2.1 134 = .ok (.iconst 2, 1) := by decide +kernel
theorem dm_Re_typeOf_135 : decode mm_Re_typeOf.2.1 135 = .ok (.iadd, 1) := by decide +kernel
theorem dm_Re_typeOf_136 : decode mm_Re_typeOf.2.1 136 = .ok (.iload 4, 2) := by decide +kernel
theorem dm_Re_typeOf_138 : decode mm_Re_typeOf.2.1 138 = .ok (.invokevirtual 47, 3) := by decide +kernel
theorem dm_Re_typeOf_141 : decode mm_Re_typeOf.2.1 141 = .ok (.iload_n 2, 1) := by decide +kernel
theorem dm_Re_typeOf_142 : decode mm_Re_typeOf.2.1 142 = .ok (.ireturn, 1) := by decide +kernel
theorem dm_Re_typeOf_143 : decode mm_Re_typeOf.2.1 143 = .ok (.aload_n 0, 1) := by decide +kernel
theorem dm_Re_typeOf_144 : decode mm_Re_typeOf.2.1 144 = .ok (.getfield 7, 3) := by decide +kernel
theorem dm_Re_typeOf_147 : decode mm_Re_typeOf.2.1 147 = .ok (.iload_n 3, 1) := by decide +kernel
theorem dm_Re_typeOf_148 : decode mm_Re_typeOf.2.1 148 = .ok (.iaload, 1) := by decide +kernel
theorem dm_Re_typeOf_149 : decode mm_Re_typeOf.2.1 149 = .ok (.bipush 20, 2) := by decide +kernel
theorem dm_Re_typeOf_151 : decode mm_Re_typeOf.2.1 151 = .ok (.if_icmp .lt 25, 3) := by decide +kernel
theorem dm_Re_typeOf_154 : decode mm_Re_typeOf.2.1 154 = .ok (.aload_n 0, 1) := by decide +kernel
theorem dm_Re_typeOf_155 : decode mm_Re_typeOf.2.1 155 = .ok (.getfield 25, 3) := by decide +kernel
theorem dm_Re_typeOf_158 : decode mm_Re_typeOf.2.1 158 = .ok (.iload 5, 2) := by decide +kernel
theorem dm_Re_typeOf_160 : decode mm_Re_typeOf.2.1 160 = .ok (.iconst 1, 1) := by decide +kernel
theorem dm_Re_typeOf_161 : decode mm_Re_typeOf.2.1 161 = .ok (.isub, 1) := by decide +kernel
theorem dm_Re_typeOf_162 : decode mm_Re_typeOf.2.1 162 = .ok (.aload_n 0, 1) := by decide +kernel
theorem dm_Re_typeOf_163 : decode mm_Re_typeOf.2.1 163 = .ok (.getfield 7, 3) := by decide +kernel
theorem dm_Re_typeOf_166 : decode mm_Re_typeOf.2.1 166 = .ok (.iload_n 3, 1) := by decide +kernel
theorem dm_Re_typeOf_167 : decode mm_Re_typeOf.2.1 167 = .ok (.iaload, 1) := by decide +kernel
theorem dm_Re_typeOf_168 : decode mm_Re_typeOf.2.1 168 = .ok (.bipush 20, 2) := by decide +kernel
theorem dm_Re_typeOf_170 : decode mm_Re_typeOf.2.1 170 = .ok (.isub, 1) := by decide +kernel
theorem dm_Re_typeOf_171 : decode mm_Re_typeOf.2.1 171 = .ok (.isub, 1) := by decide +kernel
theorem dm_Re_typeOf_172 : decode mm_Re_typeOf.2.1 172 = .ok (.iaload, 1) := by decide +kernel
theorem dm_Re_typeOf_173 : decode mm_Re_typeOf.2.1 173 = .ok (.goto 6, 3) := by decide +kernel
theorem dm_Re_typeOf_176 : decode mm_Re_typeOf.2.1 176 = .ok (.iload_n 3, 1) := by decide +kernel
theorem dm_Re_typeOf_177 : decode mm_Re_typeOf.2.1 177 = .ok (.iconst 2, 1) := by decide +kernel
theorem dm_Re_typeOf_178 : decode mm_Re_typeOf.2.1 178 = .ok (.iadd, 1) := by decide +kernel
theorem dm_Re_typeOf_179 : decode mm_Re_typeOf.2.1 179 = .ok (.istore 6, 2) := by decide +kernel
theorem dm_Re_typeOf_181 : decode mm_Re_typeOf.2.1 181 = .ok (.iconst 0, 1) := by decide +kernel
theorem dm_Re_typeOf_182 : decode mm_Re_typeOf.2.1 182 = .ok (.istore 7, 2) := by decide +kernel
theorem dm_Re_typeOf_184 : decode mm_Re_typeOf.2.1 184 = .ok (.iload 7, 2) := by decide +kernel
theorem dm_Re_typeOf_186 : decode mm_Re_typeOf.2.1 186 = .ok (.iload 4, 2) := by decide +kernel
theorem dm_Re_typeOf_188 : decode mm_Re_typeOf.2.1 188 = .ok (.if_icmp .ge 19, 3) := by decide +kernel
theorem dm_Re_typeOf_191 : decode mm_Re_typeOf.2.1 191 = .ok (.aload_n 0, 1) := by decide +kernel
theorem dm_Re_typeOf_192 : decode mm_Re_typeOf.2.1 192 = .ok (.iload 6, 2) := by decide +kernel
theorem dm_Re_typeOf_194 : decode mm_Re_typeOf.2.1 194 = .ok (.iconst 1, 1) := by decide +kernel
theorem dm_Re_typeOf_195 : decode mm_Re_typeOf.2.1 195 = .ok (.iadd, 1) := by decide +kernel
theorem dm_Re_typeOf_196 : decode mm_Re_typeOf.2.1 196 = .ok (.invokevirtual 36, 3) := by decide +kernel
theorem dm_Re_typeOf_199 : decode mm_Re_typeOf.2.1 199 = .ok (.istore 6, 2) := by decide +kernel
theorem dm_Re_typeOf_201 : decode mm_Re_typeOf.2.1 201 = .ok (.iinc 7 1, 3) := by decide +kernel
theorem dm_Re_typeOf_204 : decode mm_Re_typeOf.2.1 204 = .ok (.goto (-20), 3) := by decide +kernel
theorem dm_Re_typeOf_207 : decode mm_Re_typeOf.2.1 207 = .ok (.aload_n 0, 1) := by decide +kernel
theorem dm_Re_typeOf_208 : decode mm_Re_typeOf.2.1 208 = .ok (.iload 6, 2) := by decide +kernel
theorem dm_Re_typeOf_210 : decode mm_Re_typeOf.2.1 210 = .ok (.invokevirtual 36, 3) := by decide +kernel
theorem dm_Re_typeOf_213 : decode mm_Re_typeOf.2.1 213 = .ok (.istore 7, 2) := by decide +kernel
theorem dm_Re_typeOf_215 : decode mm_Re_typeOf.2.1 215 = .ok (.aload_n 0, 1) := by decide +kernel
theorem dm_Re_typeOf_216 : decode mm_Re_typeOf.2.1 216 = .ok (.iload 6, 2) := by decide +kernel
theorem dm_Re_typeOf_218 : decode mm_Re_typeOf.2.1 218 = .ok (.iload 7, 2) := by decide +kernel
theorem dm_Re_typeOf_220 : decode mm_Re_typeOf.2.1 220 = .ok (.invokevirtual 43, 3) := by decide +kernel
theorem dm_Re_typeOf_223 : decode mm_Re_typeOf.2.1 223 = .ok (.iload_n 2, 1) := by decide +kernel
theorem dm_Re_typeOf_224 : decode mm_Re_typeOf.2.1 224 = .ok (.ireturn, 1) := by decide +kernel
theorem dm_Re_equalAt_0 : decode mm_Re_equalAt.2.1 0 = .ok (.aload_n 0, 1) := by decide +kernel
theorem dm_Re_equalAt_1 : decode mm_Re_equalAt.2.1 1 = .ok (.iload_n 1, 1) := by decide +kernel
theorem dm_Re_equalAt_2 : decode mm_Re_equalAt.2.1 2 = .ok (.invokevirtual 36, 3) := by decide +kernel
theorem dm_Re_equalAt_5 : decode mm_Re_equalAt.2.1 5 = .ok (.istore_n 3, 1) := by decide +kernel
theorem dm_Re_equalAt_6 : decode mm_Re_equalAt.2.1 6 = .ok (.iload_n 2, 1) := by decide +kernel
theorem dm_Re_equalAt_7 : decode mm_Re_equalAt.2.1 7 = .ok (.istore 4, 2) := by decide +kernel
theorem dm_Re_equalAt_9 : decode mm_Re_equalAt.2.1 9 = .ok (.iload 4, 2) := by decide +kernel
theorem dm_Re_equalAt_11 : decode mm_Re_equalAt.2.1 11 = .ok (.iconst 2, 1) := by decide +kernel
theorem dm_Re_equalAt_12 : decode mm_Re_equalAt.2.1 12 = .ok (.if_icmp .ge 20, 3) := by decide +kernel
theorem dm_Re_equalAt_15 : decode mm_Re_equalAt.2.1 15 = .ok (.aload_n 0, 1) := by decide +kernel
theorem dm_Re_equalAt_16 : decode mm_Re_equalAt.2.1 16 = .ok (.iconst 0, 1) := by decide +kernel
theorem dm_Re_equalAt_17 : decode mm_Re_equalAt.2.1 17 = .ok (.invokevirtual 32, 3) := by decide +kernel
theorem dm_Re_equalAt_20 : decode mm_Re_equalAt.2.1 20 = .ok (.aload_n 0, 1) := by decide +kernel
theorem dm_Re_equalAt_21 : decode mm_Re_equalAt.2.1 21 = .ok (.iload_n 1, 1) := by decide +kernel
theorem dm_Re_equalAt_22 : decode mm_Re_equalAt.2.1 22 = .ok (.iload_n 3, 1) := by decide +kernel
theorem dm_Re_equalAt_23 : decode mm_Re_equalAt.2.1 23 = .ok (.invokevirtual 43, 3) := by decide +kernel
theorem dm_Re_equalAt_26 : decode mm_Re_equalAt.2.1 26 = .ok (.iinc 4 1, 3) := by decide +kernel
theorem dm_Re_equalAt_29 : decode mm_Re_equalAt.2.1 29 = .ok (.goto (-20), 3) := by decide +kernel
theorem dm_Re_equalAt_32 : decode mm_Re_equalAt.2.1 32 = .ok (.aload_n 0, 1) := by decide +kernel
theorem dm_Re_equalAt_33 : decode mm_Re_equalAt.2.1 33 = .ok (.iconst 1, 1) := by decide +kernel
theorem dm_Re_equalAt_34 : decode mm_Re_equalAt.2.1 34 = .ok (.invokevirtual 32, 3) := by decide +kernel
theorem dm_Re_equalAt_37 : decode mm_Re_equalAt.2.1 37 = .ok (.return_, 1) := by decide +kernel
theorem dm_Re_isEquation_0 : decode mm_Re_isEquation.2.1 0 = .ok (.aload_n 0, 1) := by decide +kernel
theorem dm_Re_isEquation_1 : decode mm_Re_isEquation.2.1 1 = .ok (.getfield 7, 3) := by decide +kernel
theorem dm_Re_isEquation_4 : decode mm_Re_isEquation.2.1 4 = .ok (.iload_n 1, 1) := by decide +kernel
theorem dm_Re_isEquation_5 : decode mm_Re_isEquation.2.1 5 = .ok (.iaload, 1) := by decide +kernel
theorem dm_Re_isEquation_6 : decode mm_Re_isEquation.2.1 6 = .ok (.bipush 12, 2) := by decide +kernel
theorem dm_Re_isEquation_8 : decode mm_Re_isEquation.2.1 8 = .ok (.if_icmp .ne 44, 3) := by decide +kernel
theorem dm_Re_isEquation_11 : decode mm_Re_isEquation.2.1 11 = .ok (.aload_n 0, 1) := by decide +kernel
theorem dm_Re_isEquation_12 : decode mm_Re_isEquation.2.1 12 = .ok (.getfield 7, 3) := by decide +kernel
theorem dm_Re_isEquation_15 : decode mm_Re_isEquation.2.1 15 = .ok (.iload_n 1, 1) := by decide +kernel
theorem dm_Re_isEquation_16 : decode mm_Re_isEquation.2.1 16 = .ok (.iconst 1, 1) := by decide +kernel
theorem dm_Re_isEquation_17 : decode mm_Re_isEquation.2.1 17 = .ok (.iadd, 1) := by decide +kernel
theorem dm_Re_isEquation_18 : decode mm_Re_isEquation.2.1 18 = .ok (.iaload, 1) := by decide +kernel
theorem dm_Re_isEquation_19 : decode mm_Re_isEquation.2.1 19 = .ok (.bipush 12, 2) := by decide +kernel
theorem dm_Re_isEquation_21 : decode mm_Re_isEquation.2.1 21 = .ok (.if_icmp .ne 31, 3) := by decide +kernel
theorem dm_Re_isEquation_24 : decode mm_Re_isEquation.2.1 24 = .ok (.aload_n 0, 1) := by decide +kernel
theorem dm_Re_isEquation_25 : decode mm_Re_isEquation.2.1 25 = .ok (.getfield 7, 3) := by decide +kernel
theorem dm_Re_isEquation_28 : decode mm_Re_isEquation.2.1 28 = .ok (.iload_n 1, 1) := by decide +kernel
theorem dm_Re_isEquation_29 : decode mm_Re_isEquation.2.1 29 = .ok (.iconst 2, 1) := by decide +kernel
theorem dm_Re_isEquation_30 : decode mm_Re_isEquation.2.1 30 = .ok (.iadd, 1) := by decide +kernel
theorem dm_Re_isEquation_31 : decode mm_Re_isEquation.2.1 31 = .ok (.iaload, 1) := by decide +kernel
theorem dm_Re_isEquation_32 : decode mm_Re_isEquation.2.1 32 = .ok (.bipush 11, 2) := by decide +kernel
theorem dm_Re_isEquation_34 : decode mm_Re_isEquation.2.1 34 = .ok (.if_icmp .ne 18, 3) := by decide +kernel
theorem dm_Re_isEquation_37 : decode mm_Re_isEquation.2.1 37 = .ok (.aload_n 0, 1) := by decide +kernel
theorem dm_Re_isEquation_38 : decode mm_Re_isEquation.2.1 38 = .ok (.getfield 7, 3) := by decide +kernel
theorem dm_Re_isEquation_41 : decode mm_Re_isEquation.2.1 41 = .ok (.iload_n 1, 1) := by decide +kernel
theorem dm_Re_isEquation_42 : decode mm_Re_isEquation.2.1 42 = .ok (.iconst 3, 1) := by decide +kernel
theorem dm_Re_isEquation_43 : decode mm_Re_isEquation.2.1 43 = .ok (.iadd, 1) := by decide +kernel
theorem dm_Re_isEquation_44 : decode mm_Re_isEquation.2.1 44 = .ok (.iaload, 1) := by decide +kernel
theorem dm_Re_isEquation_45 : decode mm_Re_isEquation.2.1 45 = .ok (.ifCond .ne 7, 3) := by decide +kernel
theorem dm_Re_isEquation_48 : decode mm_Re_isEquation.2.1 48 = .ok (.iconst 1, 1) := by decide +kernel
theorem dm_Re_isEquation_49 : decode mm_Re_isEquation.2.1 49 = .ok (.goto 4, 3) := by decide +kernel
theorem dm_Re_isEquation_52 : decode mm_Re_isEquation.2.1 52 = .ok (.iconst 0, 1) := by decide +kernel
theorem dm_Re_isEquation_53 : decode mm_Re_isEquation.2.1 53 = .ok (.ireturn, 1) := by decide +kernel
theorem dm_Re_left_0 : decode mm_Re_left.2.1 0 = .ok (.aload_n 0, 1) := by decide +kernel
theorem dm_Re_left_1 : decode mm_Re_left.2.1 1 = .ok (.iload_n 1, 1) := by decide +kernel
theorem dm_Re_left_2 : decode mm_Re_left.2.1 2 = .ok (.iconst 4, 1) := by decide +kernel
theorem dm_Re_left_3 : decode mm_Re_left.2.1 3 = .ok (.iadd, 1) := by decide +kernel
theorem dm_Re_left_4 : decode mm_Re_left.2.1 4 = .ok (.invokevirtual 36, 3) := by decide +kernel
theorem dm_Re_left_7 : decode mm_Re_left.2.1 7 = .ok (.ireturn, 1) := by decide +kernel
theorem dm_Re_begin_0 : decode mm_Re_begin.2.1 0 = .ok (.aload_n 0, 1) := by decide +kernel
theorem dm_Re_begin_1 : decode mm_Re_begin.2.1 1 = .ok (.sipush 5200, 3) := by decide +kernel
theorem dm_Re_begin_4 : decode mm_Re_begin.2.1 4 = .ok (.putfield 28, 3) := by decide +kernel
theorem dm_Re_begin_7 : decode mm_Re_begin.2.1 7 = .ok (.aload_n 0, 1) := by decide +kernel
theorem dm_Re_begin_8 : decode mm_Re_begin.2.1 8 = .ok (.iconst 0, 1) := by decide +kernel
theorem dm_Re_begin_9 : decode mm_Re_begin.2.1 9 = .ok (.putfield 50, 3) := by decide +kernel
theorem dm_Re_begin_12 : decode mm_Re_begin.2.1 12 = .ok (.aload_n 0, 1) := by decide +kernel
theorem dm_Re_begin_13 : decode mm_Re_begin.2.1 13 = .ok (.getfield 19, 3) := by decide +kernel
theorem dm_Re_begin_16 : decode mm_Re_begin.2.1 16 = .ok (.bipush 28, 2) := by decide +kernel
theorem dm_Re_begin_18 : decode mm_Re_begin.2.1 18 = .ok (.iconst 0, 1) := by decide +kernel
theorem dm_Re_begin_19 : decode mm_Re_begin.2.1 19 = .ok (.iastore, 1) := by decide +kernel
theorem dm_Re_begin_20 : decode mm_Re_begin.2.1 20 = .ok (.aload_n 0, 1) := by decide +kernel
theorem dm_Re_begin_21 : decode mm_Re_begin.2.1 21 = .ok (.getfield 16, 3) := by decide +kernel
theorem dm_Re_begin_24 : decode mm_Re_begin.2.1 24 = .ok (.bipush 28, 2) := by decide +kernel
theorem dm_Re_begin_26 : decode mm_Re_begin.2.1 26 = .ok (.iconst 2, 1) := by decide +kernel
theorem dm_Re_begin_27 : decode mm_Re_begin.2.1 27 = .ok (.iastore, 1) := by decide +kernel
theorem dm_Re_begin_28 : decode mm_Re_begin.2.1 28 = .ok (.return_, 1) := by decide +kernel
theorem dm_Re_part_0 : decode mm_Re_part.2.1 0 = .ok (.aload_n 0, 1) := by decide +kernel
theorem dm_Re_part_1 : decode mm_Re_part.2.1 1 = .ok (.getfield 28, 3) := by decide +kernel
theorem dm_Re_part_4 : decode mm_Re_part.2.1 4 = .ok (.iload_n 2, 1) := by decide +kernel
theorem dm_Re_part_5 : decode mm_Re_part.2.1 5 = .ok (.isub, 1) := by decide +kernel
theorem dm_Re_part_6 : decode mm_Re_part.2.1 6 = .ok (.istore_n 3, 1) := by decide +kernel
theorem dm_Re_part_7 : decode mm_Re_part.2.1 7 = .ok (.iload_n 3, 1) := by decide +kernel
theorem dm_Re_part_8 : decode mm_Re_part.2.1 8 = .ok (.bipush 40, 2) := by decide +kernel
theorem dm_Re_part_10 : decode mm_Re_part.2.1 10 = .ok (.if_icmp .le 11, 3) := by decide +kernel
theorem dm_Re_part_13 : decode mm_Re_part.2.1 13 = .ok (.aload_n 0, 1) := by decide +kernel
theorem dm_Re_part_14 : decode mm_Re_part.2.1 14 = .ok (.iconst 1, 1) := by decide +kernel
theorem dm_Re_part_15 : decode mm_Re_part.2.1 15 = .ok (.putfield 50, 3) := by decide +kernel
theorem dm_Re_part_18 : decode mm_Re_part.2.1 18 = .ok (.bipush 40, 2) := by decide +kernel
theorem dm_Re_part_20 : decode mm_Re_part.2.1 20 = .ok (.istore_n 3, 1) := by decide +kernel
theorem dm_Re_part_21 : decode mm_Re_part.2.1 21 = .ok (.bipush 28, 2) := by decide +kernel
theorem dm_Re_part_23 : decode mm_Re_part.2.1 23 = .ok (.iload_n 1, 1) := by decide +kernel
theorem dm_Re_part_24 : decode mm_Re_part.2.1 24 = .ok (.invokestatic 54, 3) := by decide +kernel
theorem dm_Re_part_27 : decode mm_Re_part.2.1 27 = .ok (.istore 4, 2) := by decide +kernel
theorem dm_Re_part_29 : decode mm_Re_part.2.1 29 = .ok (.iconst 0, 1) := by decide +kernel
theorem dm_Re_part_30 : decode mm_Re_part.2.1 30 = .ok (.istore 5, 2) := by decide +kernel
theorem dm_Re_part_32 : decode mm_Re_part.2.1 32 = .ok (.iload 5, 2) := by decide +kernel
theorem dm_Re_part_34 : decode mm_Re_part.2.1 34 = .ok (.iload_n 3, 1) := by decide +kernel
theorem dm_Re_part_35 : decode mm_Re_part.2.1 35 = .ok (.if_icmp .ge 28, 3) := by decide +kernel
theorem dm_Re_part_38 : decode mm_Re_part.2.1 38 = .ok (.aload_n 0, 1) := by decide +kernel
theorem dm_Re_part_39 : decode mm_Re_part.2.1 39 = .ok (.getfield 7, 3) := by decide +kernel
theorem dm_Re_part_42 : decode mm_Re_part.2.1 42 = .ok (.iload 4, 2) := by decide +kernel
theorem dm_Re_part_44 : decode mm_Re_part.2.1 44 = .ok (.iload 5, 2) := by decide +kernel
theorem dm_Re_part_46 : decode mm_Re_part.2.1 46 = .ok (.iadd, 1) := by decide +kernel
theorem dm_Re_part_47 : decode mm_Re_part.2.1 47 = .ok (.aload_n 0, 1) := by decide +kernel
theorem dm_Re_part_48 : decode mm_Re_part.2.1 48 = .ok (.getfield 7, 3) := by decide +kernel
theorem dm_Re_part_51 : decode mm_Re_part.2.1 51 = .ok (.iload_n 2, 1) := by decide +kernel
theorem dm_Re_part_52 : decode mm_Re_part.2.1 52 = .ok (.iload 5, 2) := by decide +kernel
theorem dm_Re_part_54 : decode mm_Re_part.2.1 54 = .ok (.iadd, 1) := by decide +kernel
theorem dm_Re_part_55 : decode mm_Re_part.2.1 55 = .ok (.iaload, 1) := by decide +kernel
theorem dm_Re_part_56 : decode mm_Re_part.2.1 56 = .ok (.iastore, 1) := by decide +kernel
theorem dm_Re_part_57 : decode mm_Re_part.2.1 57 = .ok (.iinc 5 1, 3) := by decide +kernel
theorem dm_Re_part_60 : decode mm_Re_part.2.1 60 = .ok (.goto (-28), 3) := by decide +kernel
theorem dm_Re_part_63 : decode mm_Re_part.2.1 63 = .ok (.aload_n 0, 1) := by decide +kernel
theorem dm_Re_part_64 : decode mm_Re_part.2.1 64 = .ok (.getfield 13, 3) := by decide +kernel
theorem dm_Re_part_67 : decode mm_Re_part.2.1 67 = .ok (.bipush 112, 2) := by decide +kernel
theorem dm_Re_part_69 : decode mm_Re_part.2.1 69 = .ok (.iload_n 1, 1) := by decide +kernel
theorem dm_Re_part_70 : decode mm_Re_part.2.1 70 = .ok (.iadd, 1) := by decide +kernel
theorem dm_Re_part_71 : decode mm_Re_part.2.1 71 = .ok (.iload_n 3, 1) := by decide +kernel
theorem dm_Re_part_72 : decode mm_Re_part.2.1 72 = .ok (.iastore, 1) := by decide +kernel
theorem dm_Re_part_73 : decode mm_Re_part.2.1 73 = .ok (.return_, 1) := by decide +kernel
theorem dm_Re_compare_0 : decode mm_Re_compare.2.1 0 = .ok (.iconst 0, 1) := by decide +kernel
theorem dm_Re_compare_1 : decode mm_Re_compare.2.1 1 = .ok (.istore 5, 2) := by decide +kernel
theorem dm_Re_compare_3 : decode mm_Re_compare.2.1 3 = .ok (.iload_n 1, 1) := by decide +kernel
theorem dm_Re_compare_4 : decode mm_Re_compare.2.1 4 = .ok (.iload 5, 2) := by decide +kernel
theorem dm_Re_compare_6 : decode mm_Re_compare.2.1 6 = .ok (.iadd, 1) := by decide +kernel
theorem dm_Re_compare_7 : decode mm_Re_compare.2.1 7 = .ok (.iload_n 2, 1) := by decide +kernel
theorem dm_Re_compare_8 : decode mm_Re_compare.2.1 8 = .ok (.if_icmp .ge 66, 3) := by decide +kernel
theorem dm_Re_compare_11 : decode mm_Re_compare.2.1 11 = .ok (.iload_n 3, 1) := by decide +kernel
theorem dm_Re_compare_12 : decode mm_Re_compare.2.1 12 = .ok (.iload 5, 2) := by decide +kernel
theorem dm_Re_compare_14 : decode mm_Re_compare.2.1 14 = .ok (.iadd, 1) := by decide +kernel
theorem dm_Re_compare_15 : decode mm_Re_compare.2.1 15 = .ok (.iload 4, 2) := by decide +kernel
theorem dm_Re_compare_17 : decode mm_Re_compare.2.1 17 = .ok (.if_icmp .ge 57, 3) := by decide +kernel
theorem dm_Re_compare_20 : decode mm_Re_compare.2.1 20 = .ok (.aload_n 0, 1) := by decide +kernel
theorem dm_Re_compare_21 : decode mm_Re_compare.2.1 21 = .ok (.getfield 7, 3) := by decide +kernel
theorem dm_Re_compare_24 : decode mm_Re_compare.2.1 24 = .ok (.iload_n 1, 1) := by decide +kernel
theorem dm_Re_compare_25 : decode mm_Re_compare.2.1 25 = .ok (.iload 5, 2) := by decide +kernel
theorem dm_Re_compare_27 : decode mm_Re_compare.2.1 27 = .ok (.iadd, 1) := by decide +kernel
theorem dm_Re_compare_28 : decode mm_Re_compare.2.1 28 = .ok (.iaload, 1) := by decide +kernel
theorem dm_Re_compare_29 : decode mm_Re_compare.2.1 29 = .ok (.aload_n 0, 1) := by decide +kernel
theorem dm_Re_compare_30 : decode mm_Re_compare.2.1 30 = .ok (.getfield 7, 3) := by decide +kernel
theorem dm_Re_compare_33 : decode mm_Re_compare.2.1 33 = .ok (.iload_n 3, 1) := by decide +kernel
theorem dm_Re_compare_34 : decode mm_Re_compare.2.1 34 = .ok (.iload 5, 2) := by decide +kernel
theorem dm_Re_compare_36 : decode mm_Re_compare.2.1 36 = .ok (.iadd, 1) := by decide +kernel
theorem dm_Re_compare_37 : decode mm_Re_compare.2.1 37 = .ok (.iaload, 1) := by decide +kernel
theorem dm_Re_compare_38 : decode mm_Re_compare.2.1 38 = .ok (.if_icmp .eq 30, 3) := by decide +kernel
theorem dm_Re_compare_41 : decode mm_Re_compare.2.1 41 = .ok (.aload_n 0, 1) := by decide +kernel
theorem dm_Re_compare_42 : decode mm_Re_compare.2.1 42 = .ok (.getfield 7, 3) := by decide +kernel
theorem dm_Re_compare_45 : decode mm_Re_compare.2.1 45 = .ok (.iload_n 1, 1) := by decide +kernel
theorem dm_Re_compare_46 : decode mm_Re_compare.2.1 46 = .ok (.iload 5, 2) := by decide +kernel
theorem dm_Re_compare_48 : decode mm_Re_compare.2.1 48 = .ok (.iadd, 1) := by decide +kernel
theorem dm_Re_compare_49 : decode mm_Re_compare.2.1 49 = .ok (.iaload, 1) := by decide +kernel
theorem dm_Re_compare_50 : decode mm_Re_compare.2.1 50 = .ok (.aload_n 0, 1) := by decide +kernel
theorem dm_Re_compare_51 : decode mm_Re_compare.2.1 51 = .ok (.getfield 7, 3) := by decide +kernel
theorem dm_Re_compare_54 : decode mm_Re_compare.2.1 54 = .ok (.iload_n 3, 1) := by decide +kernel
theorem dm_Re_compare_55 : decode mm_Re_compare.2.1 55 = .ok (.iload 5, 2) := by decide +kernel
theorem dm_Re_compare_57 : decode mm_Re_compare.2.1 57 = .ok (.iadd, 1) := by decide +kernel
theorem dm_Re_compare_58 : decode mm_Re_compare.2.1 58 = .ok (.iaload, 1) := by decide +kernel
theorem dm_Re_compare_59 : decode mm_Re_compare.2.1 59 = .ok (.if_icmp .ge 7, 3) := by decide +kernel
theorem dm_Re_compare_62 : decode mm_Re_compare.2.1 62 = .ok (.iconst (-1), 1) := by decide +kernel
theorem dm_Re_compare_63 : decode mm_Re_compare.2.1 63 = .ok (.goto 4, 3) := by decide +kernel
theorem dm_Re_compare_66 : decode mm_Re_compare.2.1 66 = .ok (.iconst 1, 1) := by decide +kernel
theorem dm_Re_compare_67 : decode mm_Re_compare.2.1 67 = .ok (.ireturn, 1) := by decide +kernel
theorem dm_Re_compare_68 : decode mm_Re_compare.2.1 68 = .ok (.iinc 5 1, 3) := by decide +kernel
theorem dm_Re_compare_71 : decode mm_Re_compare.2.1 71 = .ok (.goto (-68), 3) := by decide +kernel
theorem dm_Re_compare_74 : decode mm_Re_compare.2.1 74 = .ok (.iconst 0, 1) := by decide +kernel
theorem dm_Re_compare_75 : decode mm_Re_compare.2.1 75 = .ok (.ireturn, 1) := by decide +kernel
theorem dm_Re_hypothesis_0 : decode mm_Re_hypothesis.2.1 0 = .ok (.iconst 1, 1) := by decide +kernel
theorem dm_Re_hypothesis_1 : decode mm_Re_hypothesis.2.1 1 = .ok (.istore_n 2, 1) := by decide +kernel
theorem dm_Re_hypothesis_2 : decode mm_Re_hypothesis.2.1 2 = .ok (.iload_n 2, 1) := by decide +kernel
theorem dm_Re_hypothesis_3 : decode mm_Re_hypothesis.2.1 3 = .ok (.aload_n 0, 1) := by decide +kernel
theorem dm_Re_hypothesis_4 : decode mm_Re_hypothesis.2.1 4 = .ok (.getfield 19, 3) := by decide +kernel
theorem dm_Re_hypothesis_7 : decode mm_Re_hypothesis.2.1 7 = .ok (.bipush 28, 2) := by decide +kernel
theorem dm_Re_hypothesis_9 : decode mm_Re_hypothesis.2.1 9 = .ok (.iaload, 1) := by decide +kernel
theorem dm_Re_hypothesis_10 : decode mm_Re_hypothesis.2.1 10 = .ok (.if_icmp .gt 53, 3) := by decide +kernel
theorem dm_Re_hypothesis_13 : decode mm_Re_hypothesis.2.1 13 = .ok (.bipush 28, 2) := by decide +kernel
theorem dm_Re_hypothesis_15 : decode mm_Re_hypothesis.2.1 15 = .ok (.iload_n 2, 1) := by decide +kernel
theorem dm_Re_hypothesis_16 : decode mm_Re_hypothesis.2.1 16 = .ok (.invokestatic 54, 3) := by decide +kernel
theorem dm_Re_hypothesis_19 : decode mm_Re_hypothesis.2.1 19 = .ok (.istore_n 3, 1) := by decide +kernel
theorem dm_Re_hypothesis_20 : decode mm_Re_hypothesis.2.1 20 = .ok (.aload_n 0, 1) := by decide +kernel
theorem dm_Re_hypothesis_21 : decode mm_Re_hypothesis.2.1 21 = .ok (.iload_n 1, 1) := by decide +kernel
theorem dm_Re_hypothesis_22 : decode mm_Re_hypothesis.2.1 22 = .ok (.aload_n 0, 1) := by decide +kernel
theorem dm_Re_hypothesis_23 : decode mm_Re_hypothesis.2.1 23 = .ok (.getfield 28, 3) := by decide +kernel
theorem dm_Re_hypothesis_26 : decode mm_Re_hypothesis.2.1 26 = .ok (.iload_n 3, 1) := by decide +kernel
theorem dm_Re_hypothesis_27 : decode mm_Re_hypothesis.2.1 27 = .ok (.iload_n 3, 1) := by decide +kernel
theorem dm_Re_hypothesis_28 : decode mm_Re_hypothesis.2.1 28 = .ok (.aload_n 0, 1) := by decide +kernel
theorem dm_Re_hypothesis_29 : decode mm_Re_hypothesis.2.1 29 = .ok (.getfield 13, 3) := by decide +kernel
theorem dm_Re_hypothesis_32 : decode mm_Re_hypothesis.2.1 32 = .ok (.bipush 112, 2) := by decide +kernel
theorem dm_Re_hypothesis_34 : decode mm_Re_hypothesis.2.1 34 = .ok (.iload_n 2, 1) := by decide +kernel
theorem dm_Re_hypothesis_35 : decode mm_Re_hypothesis.2.1 35 = .ok (.iadd, 1) := by decide +kernel
theorem dm_Re_hypothesis_36 : decode mm_Re_hypothesis.2.1 36 = .ok (.iaload, 1) := by decide +kernel
theorem dm_Re_hypothesis_37 : decode mm_Re_hypothesis.2.1 37 = .ok (.iadd, 1) := by decide +kernel
theorem dm_Re_hypothesis_38 : decode mm_Re_hypothesis.2.1 38 = .ok (.invokevirtual 58, 3) := by decide +kernel
theorem dm_Re_hypothesis_41 : decode mm_Re_hypothesis.2.1 41 = .ok (.istore 4, 2) := by decide +kernel
theorem dm_Re_hypothesis_43 : decode mm_Re_hypothesis.2.1 43 = .ok (.iload 4, 2) := by decide +kernel
theorem dm_Re_hypothesis_45 : decode mm_Re_hypothesis.2.1 45 = .ok (.ifCond .ne 4, 3) := by decide +kernel
theorem dm_Re_hypothesis_48 : decode mm_Re_hypothesis.2.1 48 = .ok (.return_, 1) := by decide +kernel
theorem dm_Re_hypothesis_49 : decode mm_Re_hypothesis.2.1 49 = .ok (.iload 4, 2) := by decide +kernel
theorem dm_Re_hypothesis_51 : decode mm_Re_hypothesis.2.1 51 = .ok (.ifCond .ge 6, 3) := by decide +kernel
theorem dm_Re_hypothesis_54 : decode mm_Re_hypothesis.2.1 54 = .ok (.goto 9, 3) := by decide +kernel
theorem dm_Re_hypothesis_57 : decode mm_Re_hypothesis.2.1 57 = .ok (.iinc 2 1, 3) := by decide +kernel
theorem dm_Re_hypothesis_60 : decode mm_Re_hypothesis.2.1 60 = .ok (.goto (-58), 3) := by decide +kernel
theorem dm_Re_hypothesis_63 : decode mm_Re_hypothesis.2.1 63 = .ok (.aload_n 0, 1) := by decide +kernel
theorem dm_Re_hypothesis_64 : decode mm_Re_hypothesis.2.1 64 = .ok (.getfield 19, 3) := by decide +kernel
theorem dm_Re_hypothesis_67 : decode mm_Re_hypothesis.2.1 67 = .ok (.bipush 28, 2) := by decide +kernel
theorem dm_Re_hypothesis_69 : decode mm_Re_hypothesis.2.1 69 = .ok (.iaload, 1) := by decide +kernel
theorem dm_Re_hypothesis_70 : decode mm_Re_hypothesis.2.1 70 = .ok (.iconst 3, 1) := by decide +kernel
theorem dm_Re_hypothesis_71 : decode mm_Re_hypothesis.2.1 71 = .ok (.if_icmp .eq 14, 3) := by decide +kernel
theorem dm_Re_hypothesis_74 : decode mm_Re_hypothesis.2.1 74 = .ok (.aload_n 0, 1) := by decide +kernel
theorem dm_Re_hypothesis_75 : decode mm_Re_hypothesis.2.1 75 = .ok (.getfield 28, 3) := by decide +kernel
theorem dm_Re_hypothesis_78 : decode mm_Re_hypothesis.2.1 78 = .ok (.iload_n 1, 1) := by decide +kernel
theorem dm_Re_hypothesis_79 : decode mm_Re_hypothesis.2.1 79 = .ok (.isub, 1) := by decide +kernel
theorem dm_Re_hypothesis_80 : decode mm_Re_hypothesis.2.1 80 = .ok (.bipush 40, 2) := by decide +kernel
theorem dm_Re_hypothesis_82 : decode mm_Re_hypothesis.2.1 82 = .ok (.if_icmp .le 9, 3) := by decide +kernel
theorem dm_Re_hypothesis_85 : decode mm_Re_hypothesis.2.1 85 = .ok (.aload_n 0, 1) := by decide +kernel
theorem dm_Re_hypothesis_86 : decode mm_Re_hypothesis.2.1 86 = .ok (.iconst 1, 1) := by decide +kernel
theorem dm_Re_hypothesis_87 : decode mm_Re_hypothesis.2.1 87 = .ok (.putfield 50, 3) := by decide +kernel
theorem dm_Re_hypothesis_90 : decode mm_Re_hypothesis.2.1 90 = .ok (.return_, 1) := by decide +kernel
theorem dm_Re_hypothesis_91 : decode mm_Re_hypothesis.2.1 91 = .ok (.aload_n 0, 1) := by decide +kernel
theorem dm_Re_hypothesis_92 : decode mm_Re_hypothesis.2.1 92 = .ok (.getfield 19, 3) := by decide +kernel
theorem dm_Re_hypothesis_95 : decode mm_Re_hypothesis.2.1 95 = .ok (.bipush 28, 2) := by decide +kernel
theorem dm_Re_hypothesis_97 : decode mm_Re_hypothesis.2.1 97 = .ok (.iaload, 1) := by decide +kernel
theorem dm_Re_hypothesis_98 : decode mm_Re_hypothesis.2.1 98 = .ok (.istore_n 3, 1) := by decide +kernel
theorem dm_Re_hypothesis_99 : decode mm_Re_hypothesis.2.1 99 = .ok (.iload_n 3, 1) := by decide +kernel
theorem dm_Re_hypothesis_100 : decode mm_Re_hypothesis.2.1 100 = .ok (.iload_n 2, 1) := by decide +kernel
theorem dm_Re_hypothesis_101 : decode mm_Re_hypothesis.2.1 101 = .ok (.if_icmp .lt 21, 3) := by decide +kernel
theorem dm_Re_hypothesis_104 : decode mm_Re_hypothesis.2.1 104 = .ok (.aload_n 0, 1) := by decide +kernel
theorem dm_Re_hypothesis_105 : decode mm_Re_hypothesis.2.1 105 = .ok (.bipush 28, 2) := by decide +kernel
theorem dm_Re_hypothesis_107 : decode mm_Re_hypothesis.2.1 107 = .ok (.iload_n 3, 1) := by decide +kernel
theorem dm_Re_hypothesis_108 : decode mm_Re_hypothesis.2.1 108 = .ok (.bipush 28, 2) := by decide +kernel
theorem dm_Re_hypothesis_110 : decode mm_Re_hypothesis.2.1 110 = .ok (.iload_n 3, 1) := by decide +kernel
theorem dm_Re_hypothesis_111 : decode mm_Re_hypothesis.2.1 111 = .ok (.iconst 1, 1) := by decide +kernel
theorem dm_Re_hypothesis_112 : decode mm_Re_hypothesis.2.1 112 = .ok (.iadd, 1) := by decide +kernel
theorem dm_Re_hypothesis_113 : decode mm_Re_hypothesis.2.1 113 = .ok (.invokevirtual 62, 3) := by decide +kernel
theorem dm_Re_hypothesis_116 : decode mm_Re_hypothesis.2.1 116 = .ok (.iinc 3 (-1), 3) := by decide +kernel
theorem dm_Re_hypothesis_119 : decode mm_Re_hypothesis.2.1 119 = .ok (.goto (-20), 3) := by decide +kernel
theorem dm_Re_hypothesis_122 : decode mm_Re_hypothesis.2.1 122 = .ok (.aload_n 0, 1) := by decide +kernel
theorem dm_Re_hypothesis_123 : decode mm_Re_hypothesis.2.1 123 = .ok (.getfield 19, 3) := by decide +kernel
theorem dm_Re_hypothesis_126 : decode mm_Re_hypothesis.2.1 126 = .ok (.bipush 28, 2) := by decide +kernel
theorem dm_Re_hypothesis_128 : decode mm_Re_hypothesis.2.1 128 = .ok (.dup2, 1) := by decide +kernel
theorem dm_Re_hypothesis_129 : decode mm_Re_hypothesis.2.1 129 = .ok (.iaload, 1) := by decide +kernel
theorem dm_Re_hypothesis_130 : decode mm_Re_hypothesis.2.1 130 = .ok (.iconst 1, 1) := by decide +kernel
theorem dm_Re_hypothesis_131 : decode mm_Re_hypothesis.2.1 131 = .ok (.iadd, 1) := by decide +kernel
theorem dm_Re_hypothesis_132 : decode mm_Re_hypothesis.2.1 132 = .ok (.iastore, 1) := by decide +kernel
theorem dm_Re_hypothesis_133 : decode mm_Re_hypothesis.2.1 133 = .ok (.aload_n 0, 1) := by decide +kernel
theorem dm_Re_hypothesis_134 : decode mm_Re_hypothesis.2.1 134 = .ok (.iload_n 2, 1) := by decide +kernel
theorem dm_Re_hypothesis_135 : decode mm_Re_hypothesis.2.1 135 = .ok (.iload_n 1, 1) := by decide +kernel
theorem dm_Re_hypothesis_136 : decode mm_Re_hypothesis.2.1 136 = .ok (.invokevirtual 66, 3) := by decide +kernel
theorem dm_Re_hypothesis_139 : decode mm_Re_hypothesis.2.1 139 = .ok (.return_, 1) := by decide +kernel
theorem dm_Re_movePart_0 : decode mm_Re_movePart.2.1 0 = .ok (.iload_n 1, 1) := by decide +kernel
theorem dm_Re_movePart_1 : decode mm_Re_movePart.2.1 1 = .ok (.iload_n 2, 1) := by decide +kernel
theorem dm_Re_movePart_2 : decode mm_Re_movePart.2.1 2 = .ok (.invokestatic 54, 3) := by decide +kernel
theorem dm_Re_movePart_5 : decode mm_Re_movePart.2.1 5 = .ok (.istore 5, 2) := by decide +kernel
theorem dm_Re_movePart_7 : decode mm_Re_movePart.2.1 7 = .ok (.iload_n 3, 1) := by decide +kernel
theorem dm_Re_movePart_8 : decode mm_Re_movePart.2.1 8 = .ok (.iload 4, 2) := by decide +kernel
theorem dm_Re_movePart_10 : decode mm_Re_movePart.2.1 10 = .ok (.invokestatic 54, 3) := by decide +kernel
theorem dm_Re_movePart_13 : decode mm_Re_movePart.2.1 13 = .ok (.istore 6, 2) := by decide +kernel
theorem dm_Re_movePart_15 : decode mm_Re_movePart.2.1 15 = .ok (.aload_n 0, 1) := by decide +kernel
theorem dm_Re_movePart_16 : decode mm_Re_movePart.2.1 16 = .ok (.getfield 13, 3) := by decide +kernel
theorem dm_Re_movePart_19 : decode mm_Re_movePart.2.1 19 = .ok (.iconst 4, 1) := by decide +kernel
theorem dm_Re_movePart_20 : decode mm_Re_movePart.2.1 20 = .ok (.iload_n 1, 1) := by decide +kernel
theorem dm_Re_movePart_21 : decode mm_Re_movePart.2.1 21 = .ok (.imul, 1) := by decide +kernel
theorem dm_Re_movePart_22 : decode mm_Re_movePart.2.1 22 = .ok (.iload_n 2, 1) := by decide +kernel
theorem dm_Re_movePart_23 : decode mm_Re_movePart.2.1 23 = .ok (.iadd, 1) := by decide +kernel
theorem dm_Re_movePart_24 : decode mm_Re_movePart.2.1 24 = .ok (.iaload, 1) := by decide +kernel
theorem dm_Re_movePart_25 : decode mm_Re_movePart.2.1 25 = .ok (.istore 7, 2) := by decide +kernel
theorem dm_Re_movePart_27 : decode mm_Re_movePart.2.1 27 = .ok (.iconst 0, 1) := by decide +kernel
theorem dm_Re_movePart_28 : decode mm_Re_movePart.2.1 28 = .ok (.istore 8, 2) := by decide +kernel
theorem dm_Re_movePart_30 : decode mm_Re_movePart.2.1 30 = .ok (.iload 8, 2) := by decide +kernel
theorem dm_Re_movePart_32 : decode mm_Re_movePart.2.1 32 = .ok (.iload 7, 2) := by decide +kernel
theorem dm_Re_movePart_34 : decode mm_Re_movePart.2.1 34 = .ok (.if_icmp .ge 29, 3) := by decide +kernel
theorem dm_Re_movePart_37 : decode mm_Re_movePart.2.1 37 = .ok (.aload_n 0, 1) := by decide +kernel
theorem dm_Re_movePart_38 : decode mm_Re_movePart.2.1 38 = .ok (.getfield 7, 3) := by decide +kernel
theorem dm_Re_movePart_41 : decode mm_Re_movePart.2.1 41 = .ok (.iload 6, 2) := by decide +kernel
theorem dm_Re_movePart_43 : decode mm_Re_movePart.2.1 43 = .ok (.iload 8, 2) := by decide +kernel
theorem dm_Re_movePart_45 : decode mm_Re_movePart.2.1 45 = .ok (.iadd, 1) := by decide +kernel
theorem dm_Re_movePart_46 : decode mm_Re_movePart.2.1 46 = .ok (.aload_n 0, 1) := by decide +kernel
theorem dm_Re_movePart_47 : decode mm_Re_movePart.2.1 47 = .ok (.getfield 7, 3) := by decide +kernel
theorem dm_Re_movePart_50 : decode mm_Re_movePart.2.1 50 = .ok (.iload 5, 2) := by decide +kernel
theorem dm_Re_movePart_52 : decode mm_Re_movePart.2.1 52 = .ok (.iload 8, 2) := by decide +kernel
theorem dm_Re_movePart_54 : decode mm_Re_movePart.2.1 54 = .ok (.iadd, 1) := by decide +kernel
theorem dm_Re_movePart_55 : decode mm_Re_movePart.2.1 55 = .ok (.iaload, 1) := by decide +kernel
theorem dm_Re_movePart_56 : decode mm_Re_movePart.2.1 56 = .ok (.iastore, 1) := by decide +kernel
theorem dm_Re_movePart_57 : decode mm_Re_movePart.2.1 57 = .ok (.iinc 8 1, 3) := by decide +kernel
theorem dm_Re_movePart_60 : decode mm_Re_movePart.2.1 60 = .ok (.goto (-30), 3) := by decide +kernel
theorem dm_Re_movePart_63 : decode mm_Re_movePart.2.1 63 = .ok (.aload_n 0, 1) := by decide +kernel
theorem dm_Re_movePart_64 : decode mm_Re_movePart.2.1 64 = .ok (.getfield 13, 3) := by decide +kernel
theorem dm_Re_movePart_67 : decode mm_Re_movePart.2.1 67 = .ok (.iconst 4, 1) := by decide +kernel
theorem dm_Re_movePart_68 : decode mm_Re_movePart.2.1 68 = .ok (.iload_n 3, 1) := by decide +kernel
theorem dm_Re_movePart_69 : decode mm_Re_movePart.2.1 69 = .ok (.imul, 1) := by decide +kernel
theorem dm_Re_movePart_70 : decode mm_Re_movePart.2.1 70 = .ok (.iload 4, 2) := by decide +kernel
theorem dm_Re_movePart_72 : decode mm_Re_movePart.2.1 72 = .ok (.iadd, 1) := by decide +kernel
theorem dm_Re_movePart_73 : decode mm_Re_movePart.2.1 73 = .ok (.iload 7, 2) := by decide +kernel
theorem dm_Re_movePart_75 : decode mm_Re_movePart.2.1 75 = .ok (.iastore, 1) := by decide +kernel
theorem dm_Re_movePart_76 : decode mm_Re_movePart.2.1 76 = .ok (.return_, 1) := by decide +kernel
theorem dm_Re_copyObject_0 : decode mm_Re_copyObject.2.1 0 = .ok (.aload_n 0, 1) := by decide +kernel
theorem dm_Re_copyObject_1 : decode mm_Re_copyObject.2.1 1 = .ok (.getfield 16, 3) := by decide +kernel
theorem dm_Re_copyObject_4 : decode mm_Re_copyObject.2.1 4 = .ok (.iload_n 2, 1) := by decide +kernel
theorem dm_Re_copyObject_5 : decode mm_Re_copyObject.2.1 5 = .ok (.aload_n 0, 1) := by decide +kernel
theorem dm_Re_copyObject_6 : decode mm_Re_copyObject.2.1 6 = .ok (.getfield 16, 3) := by decide +kernel
theorem dm_Re_copyObject_9 : decode mm_Re_copyObject.2.1 9 = .ok (.iload_n 1, 1) := by decide +kernel
theorem dm_Re_copyObject_10 : decode mm_Re_copyObject.2.1 10 = .ok (.iaload, 1) := by decide +kernel
theorem dm_Re_copyObject_11 : decode mm_Re_copyObject.2.1 11 = .ok (.iastore, 1) := by decide +kernel
theorem dm_Re_copyObject_12 : decode mm_Re_copyObject.2.1 12 = .ok (.aload_n 0, 1) := by decide +kernel
theorem dm_Re_copyObject_13 : decode mm_Re_copyObject.2.1 13 = .ok (.getfield 19, 3) := by decide +kernel
theorem dm_Re_copyObject_16 : decode mm_Re_copyObject.2.1 16 = .ok (.iload_n 2, 1) := by decide +kernel
theorem dm_Re_copyObject_17 : decode mm_Re_copyObject.2.1 17 = .ok (.aload_n 0, 1) := by decide +kernel
theorem dm_Re_copyObject_18 : decode mm_Re_copyObject.2.1 18 = .ok (.getfield 19, 3) := by decide +kernel
theorem dm_Re_copyObject_21 : decode mm_Re_copyObject.2.1 21 = .ok (.iload_n 1, 1) := by decide +kernel
theorem dm_Re_copyObject_22 : decode mm_Re_copyObject.2.1 22 = .ok (.iaload, 1) := by decide +kernel
theorem dm_Re_copyObject_23 : decode mm_Re_copyObject.2.1 23 = .ok (.iastore, 1) := by decide +kernel
theorem dm_Re_copyObject_24 : decode mm_Re_copyObject.2.1 24 = .ok (.iconst 0, 1) := by decide +kernel
theorem dm_Re_copyObject_25 : decode mm_Re_copyObject.2.1 25 = .ok (.istore_n 3, 1) := by decide +kernel
theorem dm_Re_copyObject_26 : decode mm_Re_copyObject.2.1 26 = .ok (.iload_n 3, 1) := by decide +kernel
theorem dm_Re_copyObject_27 : decode mm_Re_copyObject.2.1 27 = .ok (.iconst 4, 1) := by decide +kernel
theorem dm_Re_copyObject_28 : decode mm_Re_copyObject.2.1 28 = .ok (.if_icmp .ge 17, 3) := by decide +kernel
theorem dm_Re_copyObject_31 : decode mm_Re_copyObject.2.1 31 = .ok (.aload_n 0, 1) := by decide +kernel
theorem dm_Re_copyObject_32 : decode mm_Re_copyObject.2.1 32 = .ok (.iload_n 1, 1) := by decide +kernel
theorem dm_Re_copyObject_33 : decode mm_Re_copyObject.2.1 33 = .ok (.iload_n 3, 1) := by decide +kernel
theorem dm_Re_copyObject_34 : decode mm_Re_copyObject.2.1 34 = .ok (.iload_n 2, 1) := by decide +kernel
theorem dm_Re_copyObject_35 : decode mm_Re_copyObject.2.1 35 = .ok (.iload_n 3, 1) := by decide +kernel
theorem dm_Re_copyObject_36 : decode mm_Re_copyObject.2.1 36 = .ok (.invokevirtual 62, 3) := by decide +kernel
theorem dm_Re_copyObject_39 : decode mm_Re_copyObject.2.1 39 = .ok (.iinc 3 1, 3) := by decide +kernel
theorem dm_Re_copyObject_42 : decode mm_Re_copyObject.2.1 42 = .ok (.goto (-16), 3) := by decide +kernel
theorem dm_Re_copyObject_45 : decode mm_Re_copyObject.2.1 45 = .ok (.return_, 1) := by decide +kernel
theorem dm_Re_bring_0 : decode mm_Re_bring.2.1 0 = .ok (.iconst 1, 1) := by decide +kernel
theorem dm_Re_bring_1 : decode mm_Re_bring.2.1 1 = .ok (.istore 4, 2) := by decide +kernel
theorem dm_Re_bring_3 : decode mm_Re_bring.2.1 3 = .ok (.iload 4, 2) := by decide +kernel
theorem dm_Re_bring_5 : decode mm_Re_bring.2.1 5 = .ok (.aload_n 0, 1) := by decide +kernel
theorem dm_Re_bring_6 : decode mm_Re_bring.2.1 6 = .ok (.getfield 19, 3) := by decide +kernel
theorem dm_Re_bring_9 : decode mm_Re_bring.2.1 9 = .ok (.iload_n 1, 1) := by decide +kernel
theorem dm_Re_bring_10 : decode mm_Re_bring.2.1 10 = .ok (.iaload, 1) := by decide +kernel
theorem dm_Re_bring_11 : decode mm_Re_bring.2.1 11 = .ok (.if_icmp .gt 72, 3) := by decide +kernel
theorem dm_Re_bring_14 : decode mm_Re_bring.2.1 14 = .ok (.iload_n 1, 1) := by decide +kernel
theorem dm_Re_bring_15 : decode mm_Re_bring.2.1 15 = .ok (.iload 4, 2) := by decide +kernel
theorem dm_Re_bring_17 : decode mm_Re_bring.2.1 17 = .ok (.invokestatic 54, 3) := by decide +kernel
theorem dm_Re_bring_20 : decode mm_Re_bring.2.1 20 = .ok (.istore 5, 2) := by decide +kernel
theorem dm_Re_bring_22 : decode mm_Re_bring.2.1 22 = .ok (.iload 5, 2) := by decide +kernel
theorem dm_Re_bring_24 : decode mm_Re_bring.2.1 24 = .ok (.aload_n 0, 1) := by decide +kernel
theorem dm_Re_bring_25 : decode mm_Re_bring.2.1 25 = .ok (.getfield 13, 3) := by decide +kernel
theorem dm_Re_bring_28 : decode mm_Re_bring.2.1 28 = .ok (.iconst 4, 1) := by decide +kernel
theorem dm_Re_bring_29 : decode mm_Re_bring.2.1 29 = .ok (.iload_n 1, 1) := by decide +kernel
theorem dm_Re_bring_30 : decode mm_Re_bring.2.1 30 = .ok (.imul, 1) := by decide +kernel
theorem dm_Re_bring_31 : decode mm_Re_bring.2.1 31 = .ok (.iload 4, 2) := by decide +kernel
theorem dm_Re_bring_33 : decode mm_Re_bring.2.1 33 = .ok (.iadd, 1) := by decide +kernel
theorem dm_Re_bring_34 : decode mm_Re_bring.2.1 34 = .ok (.iaload, 1) := by decide +kernel
theorem dm_Re_bring_35 : decode mm_Re_bring.2.1 35 = .ok (.iadd, 1) := by decide +kernel
theorem dm_Re_bring_36 : decode mm_Re_bring.2.1 36 = .ok (.istore 6, 2) := by decide +kernel
theorem dm_Re_bring_38 : decode mm_Re_bring.2.1 38 = .ok (.aload_n 0, 1) := by decide +kernel
theorem dm_Re_bring_39 : decode mm_Re_bring.2.1 39 = .ok (.iload 5, 2) := by decide +kernel
theorem dm_Re_bring_41 : decode mm_Re_bring.2.1 41 = .ok (.iload 6, 2) := by decide +kernel
