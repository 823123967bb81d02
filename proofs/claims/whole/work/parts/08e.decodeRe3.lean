theorem dm_Re_theorem_239 : decode mm_Re_theorem.2.1 239 = .ok (.ireturn, 1) := by decide +kernel
theorem dm_Re_claim_0 : decode mm_Re_claim.2.1 0 = .ok (.aload_n 0, 1) := by decide +kernel
theorem dm_Re_claim_1 : decode mm_Re_claim.2.1 1 = .ok (.getfield 28, 3) := by decide +kernel
theorem dm_Re_claim_4 : decode mm_Re_claim.2.1 4 = .ok (.istore 4, 2) := by decide +kernel
theorem dm_Re_claim_6 : decode mm_Re_claim.2.1 6 = .ok (.aload_n 0, 1) := by decide +kernel
theorem dm_Re_claim_7 : decode mm_Re_claim.2.1 7 = .ok (.iload_n 2, 1) := by decide +kernel
theorem dm_Re_claim_8 : decode mm_Re_claim.2.1 8 = .ok (.iload_n 3, 1) := by decide +kernel
theorem dm_Re_claim_9 : decode mm_Re_claim.2.1 9 = .ok (.invokevirtual 43, 3) := by decide +kernel
theorem dm_Re_claim_12 : decode mm_Re_claim.2.1 12 = .ok (.aload_n 0, 1) := by decide +kernel
theorem dm_Re_claim_13 : decode mm_Re_claim.2.1 13 = .ok (.iconst 0, 1) := by decide +kernel
theorem dm_Re_claim_14 : decode mm_Re_claim.2.1 14 = .ok (.iload 4, 2) := by decide +kernel
theorem dm_Re_claim_16 : decode mm_Re_claim.2.1 16 = .ok (.invokevirtual 66, 3) := by decide +kernel
theorem dm_Re_claim_19 : decode mm_Re_claim.2.1 19 = .ok (.iload_n 1, 1) := by decide +kernel
theorem dm_Re_claim_20 : decode mm_Re_claim.2.1 20 = .ok (.iconst 1, 1) := by decide +kernel
theorem dm_Re_claim_21 : decode mm_Re_claim.2.1 21 = .ok (.if_icmp .ne 15, 3) := by decide +kernel
theorem dm_Re_claim_24 : decode mm_Re_claim.2.1 24 = .ok (.aload_n 0, 1) := by decide +kernel
theorem dm_Re_claim_25 : decode mm_Re_claim.2.1 25 = .ok (.iload 4, 2) := by decide +kernel
theorem dm_Re_claim_27 : decode mm_Re_claim.2.1 27 = .ok (.invokevirtual 73, 3) := by decide +kernel
theorem dm_Re_claim_30 : decode mm_Re_claim.2.1 30 = .ok (.aload_n 0, 1) := by decide +kernel
theorem dm_Re_claim_31 : decode mm_Re_claim.2.1 31 = .ok (.iconst 1, 1) := by decide +kernel
theorem dm_Re_claim_32 : decode mm_Re_claim.2.1 32 = .ok (.invokevirtual 91, 3) := by decide +kernel
theorem dm_Re_claim_35 : decode mm_Re_claim.2.1 35 = .ok (.ireturn, 1) := by decide +kernel
theorem dm_Re_claim_36 : decode mm_Re_claim.2.1 36 = .ok (.aload_n 0, 1) := by decide +kernel
theorem dm_Re_claim_37 : decode mm_Re_claim.2.1 37 = .ok (.getfield 50, 3) := by decide +kernel
theorem dm_Re_claim_40 : decode mm_Re_claim.2.1 40 = .ok (.ifCond .ne 20, 3) := by decide +kernel
theorem dm_Re_claim_43 : decode mm_Re_claim.2.1 43 = .ok (.aload_n 0, 1) := by decide +kernel
theorem dm_Re_claim_44 : decode mm_Re_claim.2.1 44 = .ok (.getfield 152, 3) := by decide +kernel
theorem dm_Re_claim_47 : decode mm_Re_claim.2.1 47 = .ok (.iconst 5, 1) := by decide +kernel
theorem dm_Re_claim_48 : decode mm_Re_claim.2.1 48 = .ok (.if_icmp .eq 12, 3) := by decide +kernel
theorem dm_Re_claim_51 : decode mm_Re_claim.2.1 51 = .ok (.aload_n 0, 1) := by decide +kernel
theorem dm_Re_claim_52 : decode mm_Re_claim.2.1 52 = .ok (.getfield 76, 3) := by decide +kernel
theorem dm_Re_claim_55 : decode mm_Re_claim.2.1 55 = .ok (.bipush 120, 2) := by decide +kernel
theorem dm_Re_claim_57 : decode mm_Re_claim.2.1 57 = .ok (.if_icmp .ne 5, 3) := by decide +kernel
theorem dm_Re_claim_60 : decode mm_Re_claim.2.1 60 = .ok (.iconst 4, 1) := by decide +kernel
theorem dm_Re_claim_61 : decode mm_Re_claim.2.1 61 = .ok (.ireturn, 1) := by decide +kernel
theorem dm_Re_claim_62 : decode mm_Re_claim.2.1 62 = .ok (.aload_n 0, 1) := by decide +kernel
theorem dm_Re_claim_63 : decode mm_Re_claim.2.1 63 = .ok (.bipush 28, 2) := by decide +kernel
theorem dm_Re_claim_65 : decode mm_Re_claim.2.1 65 = .ok (.bipush 18, 2) := by decide +kernel
theorem dm_Re_claim_67 : decode mm_Re_claim.2.1 67 = .ok (.aload_n 0, 1) := by decide +kernel
theorem dm_Re_claim_68 : decode mm_Re_claim.2.1 68 = .ok (.getfield 152, 3) := by decide +kernel
theorem dm_Re_claim_71 : decode mm_Re_claim.2.1 71 = .ok (.iadd, 1) := by decide +kernel
theorem dm_Re_claim_72 : decode mm_Re_claim.2.1 72 = .ok (.invokevirtual 82, 3) := by decide +kernel
theorem dm_Re_claim_75 : decode mm_Re_claim.2.1 75 = .ok (.aload_n 0, 1) := by decide +kernel
theorem dm_Re_claim_76 : decode mm_Re_claim.2.1 76 = .ok (.dup, 1) := by decide +kernel
theorem dm_Re_claim_77 : decode mm_Re_claim.2.1 77 = .ok (.getfield 152, 3) := by decide +kernel
theorem dm_Re_claim_80 : decode mm_Re_claim.2.1 80 = .ok (.iconst 1, 1) := by decide +kernel
theorem dm_Re_claim_81 : decode mm_Re_claim.2.1 81 = .ok (.iadd, 1) := by decide +kernel
theorem dm_Re_claim_82 : decode mm_Re_claim.2.1 82 = .ok (.putfield 152, 3) := by decide +kernel
theorem dm_Re_claim_85 : decode mm_Re_claim.2.1 85 = .ok (.aload_n 0, 1) := by decide +kernel
theorem dm_Re_claim_86 : decode mm_Re_claim.2.1 86 = .ok (.iconst 1, 1) := by decide +kernel
theorem dm_Re_claim_87 : decode mm_Re_claim.2.1 87 = .ok (.invokevirtual 91, 3) := by decide +kernel
theorem dm_Re_claim_90 : decode mm_Re_claim.2.1 90 = .ok (.ireturn, 1) := by decide +kernel
theorem dm_Re_define_0 : decode mm_Re_define.2.1 0 = .ok (.aload_n 0, 1) := by decide +kernel
theorem dm_Re_define_1 : decode mm_Re_define.2.1 1 = .ok (.getfield 50, 3) := by decide +kernel
theorem dm_Re_define_4 : decode mm_Re_define.2.1 4 = .ok (.ifCond .ne 21, 3) := by decide +kernel
theorem dm_Re_define_7 : decode mm_Re_define.2.1 7 = .ok (.aload_n 0, 1) := by decide +kernel
theorem dm_Re_define_8 : decode mm_Re_define.2.1 8 = .ok (.getfield 103, 3) := by decide +kernel
theorem dm_Re_define_11 : decode mm_Re_define.2.1 11 = .ok (.bipush 6, 2) := by decide +kernel
theorem dm_Re_define_13 : decode mm_Re_define.2.1 13 = .ok (.if_icmp .eq 12, 3) := by decide +kernel
theorem dm_Re_define_16 : decode mm_Re_define.2.1 16 = .ok (.aload_n 0, 1) := by decide +kernel
theorem dm_Re_define_17 : decode mm_Re_define.2.1 17 = .ok (.getfield 76, 3) := by decide +kernel
theorem dm_Re_define_20 : decode mm_Re_define.2.1 20 = .ok (.bipush 120, 2) := by decide +kernel
theorem dm_Re_define_22 : decode mm_Re_define.2.1 22 = .ok (.if_icmp .ne 5, 3) := by decide +kernel
theorem dm_Re_define_25 : decode mm_Re_define.2.1 25 = .ok (.iconst 4, 1) := by decide +kernel
theorem dm_Re_define_26 : decode mm_Re_define.2.1 26 = .ok (.ireturn, 1) := by decide +kernel
theorem dm_Re_define_27 : decode mm_Re_define.2.1 27 = .ok (.aload_n 0, 1) := by decide +kernel
theorem dm_Re_define_28 : decode mm_Re_define.2.1 28 = .ok (.dup, 1) := by decide +kernel
theorem dm_Re_define_29 : decode mm_Re_define.2.1 29 = .ok (.getfield 103, 3) := by decide +kernel
theorem dm_Re_define_32 : decode mm_Re_define.2.1 32 = .ok (.iconst 1, 1) := by decide +kernel
theorem dm_Re_define_33 : decode mm_Re_define.2.1 33 = .ok (.iadd, 1) := by decide +kernel
theorem dm_Re_define_34 : decode mm_Re_define.2.1 34 = .ok (.putfield 103, 3) := by decide +kernel
theorem dm_Re_define_37 : decode mm_Re_define.2.1 37 = .ok (.iload_n 1, 1) := by decide +kernel
theorem dm_Re_define_38 : decode mm_Re_define.2.1 38 = .ok (.istore_n 3, 1) := by decide +kernel
theorem dm_Re_define_39 : decode mm_Re_define.2.1 39 = .ok (.iload_n 3, 1) := by decide +kernel
theorem dm_Re_define_40 : decode mm_Re_define.2.1 40 = .ok (.iload_n 2, 1) := by decide +kernel
theorem dm_Re_define_41 : decode mm_Re_define.2.1 41 = .ok (.if_icmp .ge 35, 3) := by decide +kernel
theorem dm_Re_define_44 : decode mm_Re_define.2.1 44 = .ok (.aload_n 0, 1) := by decide +kernel
theorem dm_Re_define_45 : decode mm_Re_define.2.1 45 = .ok (.getfield 7, 3) := by decide +kernel
theorem dm_Re_define_48 : decode mm_Re_define.2.1 48 = .ok (.sipush 4800, 3) := by decide +kernel
theorem dm_Re_define_51 : decode mm_Re_define.2.1 51 = .ok (.bipush 40, 2) := by decide +kernel
theorem dm_Re_define_53 : decode mm_Re_define.2.1 53 = .ok (.aload_n 0, 1) := by decide +kernel
theorem dm_Re_define_54 : decode mm_Re_define.2.1 54 = .ok (.getfield 103, 3) := by decide +kernel
theorem dm_Re_define_57 : decode mm_Re_define.2.1 57 = .ok (.imul, 1) := by decide +kernel
theorem dm_Re_define_58 : decode mm_Re_define.2.1 58 = .ok (.iadd, 1) := by decide +kernel
theorem dm_Re_define_59 : decode mm_Re_define.2.1 59 = .ok (.iload_n 3, 1) := by decide +kernel
theorem dm_Re_define_60 : decode mm_Re_define.2.1 60 = .ok (.iadd, 1) := by decide +kernel
theorem dm_Re_define_61 : decode mm_Re_define.2.1 61 = .ok (.iload_n 1, 1) := by decide +kernel
theorem dm_Re_define_62 : decode mm_Re_define.2.1 62 = .ok (.isub, 1) := by decide +kernel
theorem dm_Re_define_63 : decode mm_Re_define.2.1 63 = .ok (.aload_n 0, 1) := by decide +kernel
theorem dm_Re_define_64 : decode mm_Re_define.2.1 64 = .ok (.getfield 7, 3) := by decide +kernel
theorem dm_Re_define_67 : decode mm_Re_define.2.1 67 = .ok (.iload_n 3, 1) := by decide +kernel
theorem dm_Re_define_68 : decode mm_Re_define.2.1 68 = .ok (.iaload, 1) := by decide +kernel
theorem dm_Re_define_69 : decode mm_Re_define.2.1 69 = .ok (.iastore, 1) := by decide +kernel
theorem dm_Re_define_70 : decode mm_Re_define.2.1 70 = .ok (.iinc 3 1, 3) := by decide +kernel
theorem dm_Re_define_73 : decode mm_Re_define.2.1 73 = .ok (.goto (-34), 3) := by decide +kernel
theorem dm_Re_define_76 : decode mm_Re_define.2.1 76 = .ok (.aload_n 0, 1) := by decide +kernel
theorem dm_Re_define_77 : decode mm_Re_define.2.1 77 = .ok (.getfield 22, 3) := by decide +kernel
theorem dm_Re_define_80 : decode mm_Re_define.2.1 80 = .ok (.aload_n 0, 1) := by decide +kernel
theorem dm_Re_define_81 : decode mm_Re_define.2.1 81 = .ok (.getfield 103, 3) := by decide +kernel
theorem dm_Re_define_84 : decode mm_Re_define.2.1 84 = .ok (.iload_n 2, 1) := by decide +kernel
theorem dm_Re_define_85 : decode mm_Re_define.2.1 85 = .ok (.iload_n 1, 1) := by decide +kernel
theorem dm_Re_define_86 : decode mm_Re_define.2.1 86 = .ok (.isub, 1) := by decide +kernel
theorem dm_Re_define_87 : decode mm_Re_define.2.1 87 = .ok (.iastore, 1) := by decide +kernel
theorem dm_Re_define_88 : decode mm_Re_define.2.1 88 = .ok (.aload_n 0, 1) := by decide +kernel
theorem dm_Re_define_89 : decode mm_Re_define.2.1 89 = .ok (.iconst 1, 1) := by decide +kernel
theorem dm_Re_define_90 : decode mm_Re_define.2.1 90 = .ok (.invokevirtual 91, 3) := by decide +kernel
theorem dm_Re_define_93 : decode mm_Re_define.2.1 93 = .ok (.ireturn, 1) := by decide +kernel
theorem dm_Re_reduce_0 : decode mm_Re_reduce.2.1 0 = .ok (.aload_n 0, 1) := by decide +kernel
theorem dm_Re_reduce_1 : decode mm_Re_reduce.2.1 1 = .ok (.iload_n 1, 1) := by decide +kernel
theorem dm_Re_reduce_2 : decode mm_Re_reduce.2.1 2 = .ok (.invokevirtual 40, 3) := by decide +kernel
theorem dm_Re_reduce_5 : decode mm_Re_reduce.2.1 5 = .ok (.istore_n 3, 1) := by decide +kernel
theorem dm_Re_reduce_6 : decode mm_Re_reduce.2.1 6 = .ok (.iload_n 1, 1) := by decide +kernel
theorem dm_Re_reduce_7 : decode mm_Re_reduce.2.1 7 = .ok (.istore 4, 2) := by decide +kernel
theorem dm_Re_reduce_9 : decode mm_Re_reduce.2.1 9 = .ok (.iload 4, 2) := by decide +kernel
theorem dm_Re_reduce_11 : decode mm_Re_reduce.2.1 11 = .ok (.iload_n 3, 1) := by decide +kernel
theorem dm_Re_reduce_12 : decode mm_Re_reduce.2.1 12 = .ok (.if_icmp .ge 61, 3) := by decide +kernel
theorem dm_Re_reduce_15 : decode mm_Re_reduce.2.1 15 = .ok (.aload_n 0, 1) := by decide +kernel
theorem dm_Re_reduce_16 : decode mm_Re_reduce.2.1 16 = .ok (.getfield 7, 3) := by decide +kernel
theorem dm_Re_reduce_19 : decode mm_Re_reduce.2.1 19 = .ok (.iload 4, 2) := by decide +kernel
theorem dm_Re_reduce_21 : decode mm_Re_reduce.2.1 21 = .ok (.iaload, 1) := by decide +kernel
theorem dm_Re_reduce_22 : decode mm_Re_reduce.2.1 22 = .ok (.bipush 20, 2) := by decide +kernel
theorem dm_Re_reduce_24 : decode mm_Re_reduce.2.1 24 = .ok (.if_icmp .lt 32, 3) := by decide +kernel
theorem dm_Re_reduce_27 : decode mm_Re_reduce.2.1 27 = .ok (.aload_n 0, 1) := by decide +kernel
theorem dm_Re_reduce_28 : decode mm_Re_reduce.2.1 28 = .ok (.getfield 7, 3) := by decide +kernel
theorem dm_Re_reduce_31 : decode mm_Re_reduce.2.1 31 = .ok (.iload 4, 2) := by decide +kernel
theorem dm_Re_reduce_33 : decode mm_Re_reduce.2.1 33 = .ok (.iaload, 1) := by decide +kernel
theorem dm_Re_reduce_34 : decode mm_Re_reduce.2.1 34 = .ok (.bipush 20, 2) := by decide +kernel
theorem dm_Re_reduce_36 : decode mm_Re_reduce.2.1 36 = .ok (.isub, 1) := by decide +kernel
theorem dm_Re_reduce_37 : decode mm_Re_reduce.2.1 37 = .ok (.aload_n 0, 1) := by decide +kernel
theorem dm_Re_reduce_38 : decode mm_Re_reduce.2.1 38 = .ok (.iload_n 1, 1) := by decide +kernel
theorem dm_Re_reduce_39 : decode mm_Re_reduce.2.1 39 = .ok (.iload 4, 2) := by decide +kernel
theorem dm_Re_reduce_41 : decode mm_Re_reduce.2.1 41 = .ok (.invokevirtual 123, 3) := by decide +kernel
theorem dm_Re_reduce_44 : decode mm_Re_reduce.2.1 44 = .ok (.if_icmp .ne 12, 3) := by decide +kernel
theorem dm_Re_reduce_47 : decode mm_Re_reduce.2.1 47 = .ok (.aload_n 0, 1) := by decide +kernel
theorem dm_Re_reduce_48 : decode mm_Re_reduce.2.1 48 = .ok (.iload_n 3, 1) := by decide +kernel
theorem dm_Re_reduce_49 : decode mm_Re_reduce.2.1 49 = .ok (.iload_n 2, 1) := by decide +kernel
theorem dm_Re_reduce_50 : decode mm_Re_reduce.2.1 50 = .ok (.invokevirtual 43, 3) := by decide +kernel
theorem dm_Re_reduce_53 : decode mm_Re_reduce.2.1 53 = .ok (.goto 14, 3) := by decide +kernel
theorem dm_Re_reduce_56 : decode mm_Re_reduce.2.1 56 = .ok (.aload_n 0, 1) := by decide +kernel
theorem dm_Re_reduce_57 : decode mm_Re_reduce.2.1 57 = .ok (.aload_n 0, 1) := by decide +kernel
theorem dm_Re_reduce_58 : decode mm_Re_reduce.2.1 58 = .ok (.getfield 7, 3) := by decide +kernel
theorem dm_Re_reduce_61 : decode mm_Re_reduce.2.1 61 = .ok (.iload 4, 2) := by decide +kernel
theorem dm_Re_reduce_63 : decode mm_Re_reduce.2.1 63 = .ok (.iaload, 1) := by decide +kernel
theorem dm_Re_reduce_64 : decode mm_Re_reduce.2.1 64 = .ok (.invokevirtual 32, 3) := by decide +kernel
theorem dm_Re_reduce_67 : decode mm_Re_reduce.2.1 67 = .ok (.iinc 4 1, 3) := by decide +kernel
theorem dm_Re_reduce_70 : decode mm_Re_reduce.2.1 70 = .ok (.goto (-61), 3) := by decide +kernel
theorem dm_Re_reduce_73 : decode mm_Re_reduce.2.1 73 = .ok (.return_, 1) := by decide +kernel
theorem dm_Re_closed_0 : decode mm_Re_closed.2.1 0 = .ok (.iload_n 1, 1) := by decide +kernel
theorem dm_Re_closed_1 : decode mm_Re_closed.2.1 1 = .ok (.istore 5, 2) := by decide +kernel
theorem dm_Re_closed_3 : decode mm_Re_closed.2.1 3 = .ok (.iload 5, 2) := by decide +kernel
theorem dm_Re_closed_5 : decode mm_Re_closed.2.1 5 = .ok (.iload_n 2, 1) := by decide +kernel
theorem dm_Re_closed_6 : decode mm_Re_closed.2.1 6 = .ok (.if_icmp .ge 120, 3) := by decide +kernel
theorem dm_Re_closed_9 : decode mm_Re_closed.2.1 9 = .ok (.aload_n 0, 1) := by decide +kernel
theorem dm_Re_closed_10 : decode mm_Re_closed.2.1 10 = .ok (.getfield 7, 3) := by decide +kernel
theorem dm_Re_closed_13 : decode mm_Re_closed.2.1 13 = .ok (.iload 5, 2) := by decide +kernel
theorem dm_Re_closed_15 : decode mm_Re_closed.2.1 15 = .ok (.iaload, 1) := by decide +kernel
theorem dm_Re_closed_16 : decode mm_Re_closed.2.1 16 = .ok (.istore 6, 2) := by decide +kernel
theorem dm_Re_closed_18 : decode mm_Re_closed.2.1 18 = .ok (.iload 6, 2) := by decide +kernel
theorem dm_Re_closed_20 : decode mm_Re_closed.2.1 20 = .ok (.bipush 10, 2) := by decide +kernel
theorem dm_Re_closed_22 : decode mm_Re_closed.2.1 22 = .ok (.if_icmp .ne 5, 3) := by decide +kernel
theorem dm_Re_closed_25 : decode mm_Re_closed.2.1 25 = .ok (.iconst 0, 1) := by decide +kernel
theorem dm_Re_closed_26 : decode mm_Re_closed.2.1 26 = .ok (.ireturn, 1) := by decide +kernel
theorem dm_Re_closed_27 : decode mm_Re_closed.2.1 27 = .ok (.iload 6, 2) := by decide +kernel
theorem dm_Re_closed_29 : decode mm_Re_closed.2.1 29 = .ok (.bipush 11, 2) := by decide +kernel
theorem dm_Re_closed_31 : decode mm_Re_closed.2.1 31 = .ok (.if_icmp .ne 10, 3) := by decide +kernel
theorem dm_Re_closed_34 : decode mm_Re_closed.2.1 34 = .ok (.iload 5, 2) := by decide +kernel
theorem dm_Re_closed_36 : decode mm_Re_closed.2.1 36 = .ok (.iconst 2, 1) := by decide +kernel
theorem dm_Re_closed_37 : decode mm_Re_closed.2.1 37 = .ok (.iadd, 1) := by decide +kernel
theorem dm_Re_closed_38 : decode mm_Re_closed.2.1 38 = .ok (.goto 7, 3) := by decide +kernel
theorem dm_Re_closed_41 : decode mm_Re_closed.2.1 41 = .ok (.iload 5, 2) := by decide +kernel
theorem dm_Re_closed_43 : decode mm_Re_closed.2.1 43 = .ok (.iconst 1, 1) := by decide +kernel
theorem dm_Re_closed_44 : decode mm_Re_closed.2.1 44 = .ok (.iadd, 1) := by decide +kernel
theorem dm_Re_closed_45 : decode mm_Re_closed.2.1 45 = .ok (.istore 7, 2) := by decide +kernel
theorem dm_Re_closed_47 : decode mm_Re_closed.2.1 47 = .ok (.iload 6, 2) := by decide +kernel
theorem dm_Re_closed_49 : decode mm_Re_closed.2.1 49 = .ok (.bipush 11, 2) := by decide +kernel
theorem dm_Re_closed_51 : decode mm_Re_closed.2.1 51 = .ok (.if_icmp .eq 10, 3) := by decide +kernel
theorem dm_Re_closed_54 : decode mm_Re_closed.2.1 54 = .ok (.iload 6, 2) := by decide +kernel
theorem dm_Re_closed_56 : decode mm_Re_closed.2.1 56 = .ok (.bipush 13, 2) := by decide +kernel
theorem dm_Re_closed_58 : decode mm_Re_closed.2.1 58 = .ok (.if_icmp .ne 12, 3) := by decide +kernel
theorem dm_Re_closed_61 : decode mm_Re_closed.2.1 61 = .ok (.aload_n 0, 1) := by decide +kernel
theorem dm_Re_closed_62 : decode mm_Re_closed.2.1 62 = .ok (.iload 7, 2) := by decide +kernel
theorem dm_Re_closed_64 : decode mm_Re_closed.2.1 64 = .ok (.invokevirtual 36, 3) := by decide +kernel
theorem dm_Re_closed_67 : decode mm_Re_closed.2.1 67 = .ok (.goto 7, 3) := by decide +kernel
theorem dm_Re_closed_70 : decode mm_Re_closed.2.1 70 = .ok (.iload 5, 2) := by decide +kernel
theorem dm_Re_closed_72 : decode mm_Re_closed.2.1 72 = .ok (.iconst 1, 1) := by decide +kernel
theorem dm_Re_closed_73 : decode mm_Re_closed.2.1 73 = .ok (.iadd, 1) := by decide +kernel
theorem dm_Re_closed_74 : decode mm_Re_closed.2.1 74 = .ok (.istore 5, 2) := by decide +kernel
theorem dm_Re_closed_76 : decode mm_Re_closed.2.1 76 = .ok (.iload 7, 2) := by decide +kernel
theorem dm_Re_closed_78 : decode mm_Re_closed.2.1 78 = .ok (.istore 8, 2) := by decide +kernel
theorem dm_Re_closed_80 : decode mm_Re_closed.2.1 80 = .ok (.iload 8, 2) := by decide +kernel
theorem dm_Re_closed_82 : decode mm_Re_closed.2.1 82 = .ok (.iload 5, 2) := by decide +kernel
theorem dm_Re_closed_84 : decode mm_Re_closed.2.1 84 = .ok (.if_icmp .ge 39, 3) := by decide +kernel
theorem dm_Re_closed_87 : decode mm_Re_closed.2.1 87 = .ok (.aload_n 0, 1) := by decide +kernel
theorem dm_Re_closed_88 : decode mm_Re_closed.2.1 88 = .ok (.getfield 7, 3) := by decide +kernel
theorem dm_Re_closed_91 : decode mm_Re_closed.2.1 91 = .ok (.iload 8, 2) := by decide +kernel
theorem dm_Re_closed_93 : decode mm_Re_closed.2.1 93 = .ok (.iaload, 1) := by decide +kernel
theorem dm_Re_closed_94 : decode mm_Re_closed.2.1 94 = .ok (.iconst 2, 1) := by decide +kernel
theorem dm_Re_closed_95 : decode mm_Re_closed.2.1 95 = .ok (.if_icmp .lt 22, 3) := by decide +kernel
theorem dm_Re_closed_98 : decode mm_Re_closed.2.1 98 = .ok (.aload_n 0, 1) := by decide +kernel
theorem dm_Re_closed_99 : decode mm_Re_closed.2.1 99 = .ok (.aload_n 0, 1) := by decide +kernel
theorem dm_Re_closed_100 : decode mm_Re_closed.2.1 100 = .ok (.getfield 7, 3) := by decide +kernel
theorem dm_Re_closed_103 : decode mm_Re_closed.2.1 103 = .ok (.iload 8, 2) := by decide +kernel
theorem dm_Re_closed_105 : decode mm_Re_closed.2.1 105 = .ok (.iaload, 1) := by decide +kernel
theorem dm_Re_closed_106 : decode mm_Re_closed.2.1 106 = .ok (.iload_n 3, 1) := by decide +kernel
theorem dm_Re_closed_107 : decode mm_Re_closed.2.1 107 = .ok (.iload 4, 2) := by decide +kernel
theorem dm_Re_closed_109 : decode mm_Re_closed.2.1 109 = .ok (.invokevirtual 155, 3) := by decide +kernel
theorem dm_Re_closed_112 : decode mm_Re_closed.2.1 112 = .ok (.ifCond .ne 5, 3) := by decide +kernel
theorem dm_Re_closed_115 : decode mm_Re_closed.2.1 115 = .ok (.iconst 0, 1) := by decide +kernel
theorem dm_Re_closed_116 : decode mm_Re_closed.2.1 116 = .ok (.ireturn, 1) := by decide +kernel
theorem dm_Re_closed_117 : decode mm_Re_closed.2.1 117 = .ok (.iinc 8 1, 3) := by decide +kernel
theorem dm_Re_closed_120 : decode mm_Re_closed.2.1 120 = .ok (.goto (-40), 3) := by decide +kernel
theorem dm_Re_closed_123 : decode mm_Re_closed.2.1 123 = .ok (.goto (-120), 3) := by decide +kernel
theorem dm_Re_closed_126 : decode mm_Re_closed.2.1 126 = .ok (.iconst 1, 1) := by decide +kernel
theorem dm_Re_closed_127 : decode mm_Re_closed.2.1 127 = .ok (.ireturn, 1) := by decide +kernel
theorem dm_Re_occurs_0 : decode mm_Re_occurs.2.1 0 = .ok (.iconst 0, 1) := by decide +kernel
theorem dm_Re_occurs_1 : decode mm_Re_occurs.2.1 1 = .ok (.istore 4, 2) := by decide +kernel
theorem dm_Re_occurs_3 : decode mm_Re_occurs.2.1 3 = .ok (.iload_n 2, 1) := by decide +kernel
theorem dm_Re_occurs_4 : decode mm_Re_occurs.2.1 4 = .ok (.istore 5, 2) := by decide +kernel
theorem dm_Re_occurs_6 : decode mm_Re_occurs.2.1 6 = .ok (.iload 5, 2) := by decide +kernel
theorem dm_Re_occurs_8 : decode mm_Re_occurs.2.1 8 = .ok (.iload_n 3, 1) := by decide +kernel
theorem dm_Re_occurs_9 : decode mm_Re_occurs.2.1 9 = .ok (.if_icmp .ge 32, 3) := by decide +kernel
theorem dm_Re_occurs_12 : decode mm_Re_occurs.2.1 12 = .ok (.iload 4, 2) := by decide +kernel
theorem dm_Re_occurs_14 : decode mm_Re_occurs.2.1 14 = .ok (.ifCond .ne 14, 3) := by decide +kernel
theorem dm_Re_occurs_17 : decode mm_Re_occurs.2.1 17 = .ok (.aload_n 0, 1) := by decide +kernel
theorem dm_Re_occurs_18 : decode mm_Re_occurs.2.1 18 = .ok (.getfield 7, 3) := by decide +kernel
theorem dm_Re_occurs_21 : decode mm_Re_occurs.2.1 21 = .ok (.iload 5, 2) := by decide +kernel
theorem dm_Re_occurs_23 : decode mm_Re_occurs.2.1 23 = .ok (.iaload, 1) := by decide +kernel
theorem dm_Re_occurs_24 : decode mm_Re_occurs.2.1 24 = .ok (.iload_n 1, 1) := by decide +kernel
theorem dm_Re_occurs_25 : decode mm_Re_occurs.2.1 25 = .ok (.if_icmp .ne 7, 3) := by decide +kernel
theorem dm_Re_occurs_28 : decode mm_Re_occurs.2.1 28 = .ok (.iconst 1, 1) := by decide +kernel
theorem dm_Re_occurs_29 : decode mm_Re_occurs.2.1 29 = .ok (.goto 4, 3) := by decide +kernel
theorem dm_Re_occurs_32 : decode mm_Re_occurs.2.1 32 = .ok (.iconst 0, 1) := by decide +kernel
theorem dm_Re_occurs_33 : decode mm_Re_occurs.2.1 33 = .ok (.istore 4, 2) := by decide +kernel
theorem dm_Re_occurs_35 : decode mm_Re_occurs.2.1 35 = .ok (.iinc 5 1, 3) := by decide +kernel
theorem dm_Re_occurs_38 : decode mm_Re_occurs.2.1 38 = .ok (.goto (-32), 3) := by decide +kernel
theorem dm_Re_occurs_41 : decode mm_Re_occurs.2.1 41 = .ok (.iload 4, 2) := by decide +kernel
theorem dm_Re_occurs_43 : decode mm_Re_occurs.2.1 43 = .ok (.ireturn, 1) := by decide +kernel
theorem dm_Re_join_0 : decode mm_Re_join.2.1 0 = .ok (.aload_n 0, 1) := by decide +kernel
theorem dm_Re_join_1 : decode mm_Re_join.2.1 1 = .ok (.iconst 0, 1) := by decide +kernel
theorem dm_Re_join_2 : decode mm_Re_join.2.1 2 = .ok (.invokevirtual 85, 3) := by decide +kernel
theorem dm_Re_join_5 : decode mm_Re_join.2.1 5 = .ok (.iconst 2, 1) := by decide +kernel
theorem dm_Re_join_6 : decode mm_Re_join.2.1 6 = .ok (.if_icmp .ne 12, 3) := by decide +kernel
theorem dm_Re_join_9 : decode mm_Re_join.2.1 9 = .ok (.aload_n 0, 1) := by decide +kernel
theorem dm_Re_join_10 : decode mm_Re_join.2.1 10 = .ok (.iconst 1, 1) := by decide +kernel
theorem dm_Re_join_11 : decode mm_Re_join.2.1 11 = .ok (.invokevirtual 85, 3) := by decide +kernel
theorem dm_Re_join_14 : decode mm_Re_join.2.1 14 = .ok (.iconst 2, 1) := by decide +kernel
theorem dm_Re_join_15 : decode mm_Re_join.2.1 15 = .ok (.if_icmp .eq 5, 3) := by decide +kernel
theorem dm_Re_join_18 : decode mm_Re_join.2.1 18 = .ok (.iconst 1, 1) := by decide +kernel
theorem dm_Re_join_19 : decode mm_Re_join.2.1 19 = .ok (.ireturn, 1) := by decide +kernel
theorem dm_Re_join_20 : decode mm_Re_join.2.1 20 = .ok (.iload_n 1, 1) := by decide +kernel
theorem dm_Re_join_21 : decode mm_Re_join.2.1 21 = .ok (.ifCond .lt 8, 3) := by decide +kernel
theorem dm_Re_join_24 : decode mm_Re_join.2.1 24 = .ok (.iload_n 1, 1) := by decide +kernel
theorem dm_Re_join_25 : decode mm_Re_join.2.1 25 = .ok (.iconst 2, 1) := by decide +kernel
theorem dm_Re_join_26 : decode mm_Re_join.2.1 26 = .ok (.if_icmp .le 5, 3) := by decide +kernel
theorem dm_Re_join_29 : decode mm_Re_join.2.1 29 = .ok (.iconst 2, 1) := by decide +kernel
theorem dm_Re_join_30 : decode mm_Re_join.2.1 30 = .ok (.ireturn, 1) := by decide +kernel
theorem dm_Re_join_31 : decode mm_Re_join.2.1 31 = .ok (.aload_n 0, 1) := by decide +kernel
theorem dm_Re_join_32 : decode mm_Re_join.2.1 32 = .ok (.invokevirtual 88, 3) := by decide +kernel
theorem dm_Re_join_35 : decode mm_Re_join.2.1 35 = .ok (.aload_n 0, 1) := by decide +kernel
theorem dm_Re_join_36 : decode mm_Re_join.2.1 36 = .ok (.iconst 1, 1) := by decide +kernel
theorem dm_Re_join_37 : decode mm_Re_join.2.1 37 = .ok (.invokevirtual 94, 3) := by decide +kernel
theorem dm_Re_join_40 : decode mm_Re_join.2.1 40 = .ok (.istore_n 2, 1) := by decide +kernel
theorem dm_Re_join_41 : decode mm_Re_join.2.1 41 = .ok (.aload_n 0, 1) := by decide +kernel
theorem dm_Re_join_42 : decode mm_Re_join.2.1 42 = .ok (.iconst 1, 1) := by decide +kernel
theorem dm_Re_join_43 : decode mm_Re_join.2.1 43 = .ok (.invokevirtual 97, 3) := by decide +kernel
theorem dm_Re_join_46 : decode mm_Re_join.2.1 46 = .ok (.istore_n 3, 1) := by decide +kernel
theorem dm_Re_join_47 : decode mm_Re_join.2.1 47 = .ok (.aload_n 0, 1) := by decide +kernel
theorem dm_Re_join_48 : decode mm_Re_join.2.1 48 = .ok (.iconst 0, 1) := by decide +kernel
theorem dm_Re_join_49 : decode mm_Re_join.2.1 49 = .ok (.invokevirtual 94, 3) := by decide +kernel
theorem dm_Re_join_52 : decode mm_Re_join.2.1 52 = .ok (.istore 4, 2) := by decide +kernel
theorem dm_Re_join_54 : decode mm_Re_join.2.1 54 = .ok (.aload_n 0, 1) := by decide +kernel
theorem dm_Re_join_55 : decode mm_Re_join.2.1 55 = .ok (.iconst 0, 1) := by decide +kernel
theorem dm_Re_join_56 : decode mm_Re_join.2.1 56 = .ok (.invokevirtual 97, 3) := by decide +kernel
theorem dm_Re_join_59 : decode mm_Re_join.2.1 59 = .ok (.istore 5, 2) := by decide +kernel
theorem dm_Re_join_61 : decode mm_Re_join.2.1 61 = .ok (.iload_n 1, 1) := by decide +kernel
theorem dm_Re_join_62 : decode mm_Re_join.2.1 62 = .ok (.iconst 2, 1) := by decide +kernel
theorem dm_Re_join_63 : decode mm_Re_join.2.1 63 = .ok (.if_icmp .ne 72, 3) := by decide +kernel
theorem dm_Re_join_66 : decode mm_Re_join.2.1 66 = .ok (.aload_n 0, 1) := by decide +kernel
theorem dm_Re_join_67 : decode mm_Re_join.2.1 67 = .ok (.aload_n 0, 1) := by decide +kernel
theorem dm_Re_join_68 : decode mm_Re_join.2.1 68 = .ok (.getfield 79, 3) := by decide +kernel
theorem dm_Re_join_71 : decode mm_Re_join.2.1 71 = .ok (.iconst 2, 1) := by decide +kernel
theorem dm_Re_join_72 : decode mm_Re_join.2.1 72 = .ok (.isub, 1) := by decide +kernel
theorem dm_Re_join_73 : decode mm_Re_join.2.1 73 = .ok (.iload 4, 2) := by decide +kernel
theorem dm_Re_join_75 : decode mm_Re_join.2.1 75 = .ok (.iload 5, 2) := by decide +kernel
theorem dm_Re_join_77 : decode mm_Re_join.2.1 77 = .ok (.invokevirtual 158, 3) := by decide +kernel
theorem dm_Re_join_80 : decode mm_Re_join.2.1 80 = .ok (.aload_n 0, 1) := by decide +kernel
theorem dm_Re_join_81 : decode mm_Re_join.2.1 81 = .ok (.aload_n 0, 1) := by decide +kernel
theorem dm_Re_join_82 : decode mm_Re_join.2.1 82 = .ok (.getfield 79, 3) := by decide +kernel
theorem dm_Re_join_85 : decode mm_Re_join.2.1 85 = .ok (.iconst 1, 1) := by decide +kernel
theorem dm_Re_join_86 : decode mm_Re_join.2.1 86 = .ok (.isub, 1) := by decide +kernel
theorem dm_Re_join_87 : decode mm_Re_join.2.1 87 = .ok (.iload_n 2, 1) := by decide +kernel
theorem dm_Re_join_88 : decode mm_Re_join.2.1 88 = .ok (.iload_n 3, 1) := by decide +kernel
theorem dm_Re_join_89 : decode mm_Re_join.2.1 89 = .ok (.invokevirtual 158, 3) := by decide +kernel
theorem dm_Re_join_92 : decode mm_Re_join.2.1 92 = .ok (.aload_n 0, 1) := by decide +kernel
theorem dm_Re_join_93 : decode mm_Re_join.2.1 93 = .ok (.iconst 1, 1) := by decide +kernel
theorem dm_Re_join_94 : decode mm_Re_join.2.1 94 = .ok (.invokevirtual 32, 3) := by decide +kernel
theorem dm_Re_join_97 : decode mm_Re_join.2.1 97 = .ok (.aload_n 0, 1) := by decide +kernel
theorem dm_Re_join_98 : decode mm_Re_join.2.1 98 = .ok (.sipush 5200, 3) := by decide +kernel
theorem dm_Re_join_101 : decode mm_Re_join.2.1 101 = .ok (.sipush 5201, 3) := by decide +kernel
theorem dm_Re_join_104 : decode mm_Re_join.2.1 104 = .ok (.invokevirtual 143, 3) := by decide +kernel
theorem dm_Re_join_107 : decode mm_Re_join.2.1 107 = .ok (.aload_n 0, 1) := by decide +kernel
theorem dm_Re_join_108 : decode mm_Re_join.2.1 108 = .ok (.iload_n 2, 1) := by decide +kernel
theorem dm_Re_join_109 : decode mm_Re_join.2.1 109 = .ok (.iload_n 3, 1) := by decide +kernel
theorem dm_Re_join_110 : decode mm_Re_join.2.1 110 = .ok (.invokevirtual 43, 3) := by decide +kernel
theorem dm_Re_join_113 : decode mm_Re_join.2.1 113 = .ok (.aload_n 0, 1) := by decide +kernel
theorem dm_Re_join_114 : decode mm_Re_join.2.1 114 = .ok (.iload 4, 2) := by decide +kernel
theorem dm_Re_join_116 : decode mm_Re_join.2.1 116 = .ok (.iload 5, 2) := by decide +kernel
theorem dm_Re_join_118 : decode mm_Re_join.2.1 118 = .ok (.invokevirtual 43, 3) := by decide +kernel
theorem dm_Re_join_121 : decode mm_Re_join.2.1 121 = .ok (.aload_n 0, 1) := by decide +kernel
theorem dm_Re_join_122 : decode mm_Re_join.2.1 122 = .ok (.iconst 0, 1) := by decide +kernel
theorem dm_Re_join_123 : decode mm_Re_join.2.1 123 = .ok (.sipush 5201, 3) := by decide +kernel
theorem dm_Re_join_126 : decode mm_Re_join.2.1 126 = .ok (.invokevirtual 66, 3) := by decide +kernel
theorem dm_Re_join_129 : decode mm_Re_join.2.1 129 = .ok (.aload_n 0, 1) := by decide +kernel
theorem dm_Re_join_130 : decode mm_Re_join.2.1 130 = .ok (.iconst 2, 1) := by decide +kernel
theorem dm_Re_join_131 : decode mm_Re_join.2.1 131 = .ok (.invokevirtual 91, 3) := by decide +kernel
theorem dm_Re_join_134 : decode mm_Re_join.2.1 134 = .ok (.ireturn, 1) := by decide +kernel
theorem dm_Re_join_135 : decode mm_Re_join.2.1 135 = .ok (.aload_n 0, 1) := by decide +kernel
theorem dm_Re_join_136 : decode mm_Re_join.2.1 136 = .ok (.iload_n 2, 1) := by decide +kernel
theorem dm_Re_join_137 : decode mm_Re_join.2.1 137 = .ok (.invokevirtual 162, 3) := by decide +kernel
theorem dm_Re_join_140 : decode mm_Re_join.2.1 140 = .ok (.ifCond .eq 17, 3) := by decide +kernel
theorem dm_Re_join_143 : decode mm_Re_join.2.1 143 = .ok (.iload_n 1, 1) := by decide +kernel
theorem dm_Re_join_144 : decode mm_Re_join.2.1 144 = .ok (.iconst 1, 1) := by decide +kernel
theorem dm_Re_join_145 : decode mm_Re_join.2.1 145 = .ok (.if_icmp .ne 14, 3) := by decide +kernel
theorem dm_Re_join_148 : decode mm_Re_join.2.1 148 = .ok (.aload_n 0, 1) := by decide +kernel
theorem dm_Re_join_149 : decode mm_Re_join.2.1 149 = .ok (.iload 4, 2) := by decide +kernel
theorem dm_Re_join_151 : decode mm_Re_join.2.1 151 = .ok (.invokevirtual 162, 3) := by decide +kernel
theorem dm_Re_join_154 : decode mm_Re_join.2.1 154 = .ok (.ifCond .ne 5, 3) := by decide +kernel
theorem dm_Re_join_157 : decode mm_Re_join.2.1 157 = .ok (.iconst 2, 1) := by decide +kernel
theorem dm_Re_join_158 : decode mm_Re_join.2.1 158 = .ok (.ireturn, 1) := by decide +kernel
theorem dm_Re_join_159 : decode mm_Re_join.2.1 159 = .ok (.aload_n 0, 1) := by decide +kernel
theorem dm_Re_join_160 : decode mm_Re_join.2.1 160 = .ok (.iload_n 2, 1) := by decide +kernel
theorem dm_Re_join_161 : decode mm_Re_join.2.1 161 = .ok (.invokevirtual 165, 3) := by decide +kernel
theorem dm_Re_join_164 : decode mm_Re_join.2.1 164 = .ok (.istore 6, 2) := by decide +kernel
theorem dm_Re_join_166 : decode mm_Re_join.2.1 166 = .ok (.aload_n 0, 1) := by decide +kernel
theorem dm_Re_join_167 : decode mm_Re_join.2.1 167 = .ok (.iload 6, 2) := by decide +kernel
theorem dm_Re_join_169 : decode mm_Re_join.2.1 169 = .ok (.invokevirtual 40, 3) := by decide +kernel
theorem dm_Re_join_172 : decode mm_Re_join.2.1 172 = .ok (.istore 7, 2) := by decide +kernel
theorem dm_Re_join_174 : decode mm_Re_join.2.1 174 = .ok (.iload_n 1, 1) := by decide +kernel
theorem dm_Re_join_175 : decode mm_Re_join.2.1 175 = .ok (.ifCond .ne 20, 3) := by decide +kernel
theorem dm_Re_join_178 : decode mm_Re_join.2.1 178 = .ok (.aload_n 0, 1) := by decide +kernel
theorem dm_Re_join_179 : decode mm_Re_join.2.1 179 = .ok (.iload 6, 2) := by decide +kernel
theorem dm_Re_join_181 : decode mm_Re_join.2.1 181 = .ok (.iload 7, 2) := by decide +kernel
theorem dm_Re_join_183 : decode mm_Re_join.2.1 183 = .ok (.iload 4, 2) := by decide +kernel
theorem dm_Re_join_185 : decode mm_Re_join.2.1 185 = .ok (.iload 5, 2) := by decide +kernel
theorem dm_Re_join_187 : decode mm_Re_join.2.1 187 = .ok (.invokevirtual 69, 3) := by decide +kernel
theorem dm_Re_join_190 : decode mm_Re_join.2.1 190 = .ok (.ifCond .ne 5, 3) := by decide +kernel
theorem dm_Re_join_193 : decode mm_Re_join.2.1 193 = .ok (.iconst 2, 1) := by decide +kernel
theorem dm_Re_join_194 : decode mm_Re_join.2.1 194 = .ok (.ireturn, 1) := by decide +kernel
theorem dm_Re_join_195 : decode mm_Re_join.2.1 195 = .ok (.iload_n 1, 1) := by decide +kernel
theorem dm_Re_join_196 : decode mm_Re_join.2.1 196 = .ok (.iconst 1, 1) := by decide +kernel
theorem dm_Re_join_197 : decode mm_Re_join.2.1 197 = .ok (.if_icmp .ne 20, 3) := by decide +kernel
theorem dm_Re_join_200 : decode mm_Re_join.2.1 200 = .ok (.aload_n 0, 1) := by decide +kernel
theorem dm_Re_join_201 : decode mm_Re_join.2.1 201 = .ok (.iload 6, 2) := by decide +kernel
theorem dm_Re_join_203 : decode mm_Re_join.2.1 203 = .ok (.aload_n 0, 1) := by decide +kernel
theorem dm_Re_join_204 : decode mm_Re_join.2.1 204 = .ok (.iload 4, 2) := by decide +kernel
theorem dm_Re_join_206 : decode mm_Re_join.2.1 206 = .ok (.invokevirtual 165, 3) := by decide +kernel
theorem dm_Re_join_209 : decode mm_Re_join.2.1 209 = .ok (.invokevirtual 115, 3) := by decide +kernel
theorem dm_Re_join_212 : decode mm_Re_join.2.1 212 = .ok (.ifCond .ne 5, 3) := by decide +kernel
theorem dm_Re_join_215 : decode mm_Re_join.2.1 215 = .ok (.iconst 2, 1) := by decide +kernel
theorem dm_Re_join_216 : decode mm_Re_join.2.1 216 = .ok (.ireturn, 1) := by decide +kernel
theorem dm_Re_join_217 : decode mm_Re_join.2.1 217 = .ok (.aload_n 0, 1) := by decide +kernel
theorem dm_Re_join_218 : decode mm_Re_join.2.1 218 = .ok (.getfield 28, 3) := by decide +kernel
theorem dm_Re_join_221 : decode mm_Re_join.2.1 221 = .ok (.istore 8, 2) := by decide +kernel
theorem dm_Re_join_223 : decode mm_Re_join.2.1 223 = .ok (.iload_n 1, 1) := by decide +kernel
theorem dm_Re_join_224 : decode mm_Re_join.2.1 224 = .ok (.ifCond .ne 13, 3) := by decide +kernel
theorem dm_Re_join_227 : decode mm_Re_join.2.1 227 = .ok (.aload_n 0, 1) := by decide +kernel
theorem dm_Re_join_228 : decode mm_Re_join.2.1 228 = .ok (.iload 7, 2) := by decide +kernel
theorem dm_Re_join_230 : decode mm_Re_join.2.1 230 = .ok (.iload_n 3, 1) := by decide +kernel
theorem dm_Re_join_231 : decode mm_Re_join.2.1 231 = .ok (.invokevirtual 43, 3) := by decide +kernel
theorem dm_Re_join_234 : decode mm_Re_join.2.1 234 = .ok (.goto 20, 3) := by decide +kernel
theorem dm_Re_join_237 : decode mm_Re_join.2.1 237 = .ok (.aload_n 0, 1) := by decide +kernel
theorem dm_Re_join_238 : decode mm_Re_join.2.1 238 = .ok (.iload 6, 2) := by decide +kernel
theorem dm_Re_join_240 : decode mm_Re_join.2.1 240 = .ok (.iload 7, 2) := by decide +kernel
theorem dm_Re_join_242 : decode mm_Re_join.2.1 242 = .ok (.iload_n 3, 1) := by decide +kernel
theorem dm_Re_join_243 : decode mm_Re_join.2.1 243 = .ok (.aload_n 0, 1) := by decide +kernel
theorem dm_Re_join_244 : decode mm_Re_join.2.1 244 = .ok (.iload 4, 2) := by decide +kernel
theorem dm_Re_join_246 : decode mm_Re_join.2.1 246 = .ok (.invokevirtual 165, 3) := by decide +kernel
theorem dm_Re_join_249 : decode mm_Re_join.2.1 249 = .ok (.iload 5, 2) := by decide +kernel
theorem dm_Re_join_251 : decode mm_Re_join.2.1 251 = .ok (.invokevirtual 168, 3) := by decide +kernel
theorem dm_Re_join_254 : decode mm_Re_join.2.1 254 = .ok (.aload_n 0, 1) := by decide +kernel
theorem dm_Re_join_255 : decode mm_Re_join.2.1 255 = .ok (.iconst 0, 1) := by decide +kernel
theorem dm_Re_join_256 : decode mm_Re_join.2.1 256 = .ok (.iload 8, 2) := by decide +kernel
theorem dm_Re_join_258 : decode mm_Re_join.2.1 258 = .ok (.invokevirtual 66, 3) := by decide +kernel
theorem dm_Re_join_261 : decode mm_Re_join.2.1 261 = .ok (.aload_n 0, 1) := by decide +kernel
theorem dm_Re_join_262 : decode mm_Re_join.2.1 262 = .ok (.iload 8, 2) := by decide +kernel
theorem dm_Re_join_264 : decode mm_Re_join.2.1 264 = .ok (.putfield 28, 3) := by decide +kernel
theorem dm_Re_join_267 : decode mm_Re_join.2.1 267 = .ok (.aload_n 0, 1) := by decide +kernel
theorem dm_Re_join_268 : decode mm_Re_join.2.1 268 = .ok (.aload_n 0, 1) := by decide +kernel
theorem dm_Re_join_269 : decode mm_Re_join.2.1 269 = .ok (.getfield 79, 3) := by decide +kernel
theorem dm_Re_join_272 : decode mm_Re_join.2.1 272 = .ok (.iconst 2, 1) := by decide +kernel
theorem dm_Re_join_273 : decode mm_Re_join.2.1 273 = .ok (.isub, 1) := by decide +kernel
theorem dm_Re_join_274 : decode mm_Re_join.2.1 274 = .ok (.iconst 0, 1) := by decide +kernel
theorem dm_Re_join_275 : decode mm_Re_join.2.1 275 = .ok (.iconst 0, 1) := by decide +kernel
theorem dm_Re_join_276 : decode mm_Re_join.2.1 276 = .ok (.invokevirtual 158, 3) := by decide +kernel
theorem dm_Re_join_279 : decode mm_Re_join.2.1 279 = .ok (.aload_n 0, 1) := by decide +kernel
theorem dm_Re_join_280 : decode mm_Re_join.2.1 280 = .ok (.aload_n 0, 1) := by decide +kernel
theorem dm_Re_join_281 : decode mm_Re_join.2.1 281 = .ok (.getfield 79, 3) := by decide +kernel
theorem dm_Re_join_284 : decode mm_Re_join.2.1 284 = .ok (.iconst 1, 1) := by decide +kernel
theorem dm_Re_join_285 : decode mm_Re_join.2.1 285 = .ok (.isub, 1) := by decide +kernel
theorem dm_Re_join_286 : decode mm_Re_join.2.1 286 = .ok (.iconst 0, 1) := by decide +kernel
theorem dm_Re_join_287 : decode mm_Re_join.2.1 287 = .ok (.iconst 0, 1) := by decide +kernel
theorem dm_Re_join_288 : decode mm_Re_join.2.1 288 = .ok (.invokevirtual 158, 3) := by decide +kernel
theorem dm_Re_join_291 : decode mm_Re_join.2.1 291 = .ok (.aload_n 0, 1) := by decide +kernel
theorem dm_Re_join_292 : decode mm_Re_join.2.1 292 = .ok (.iconst 2, 1) := by decide +kernel
theorem dm_Re_join_293 : decode mm_Re_join.2.1 293 = .ok (.invokevirtual 91, 3) := by decide +kernel
theorem dm_Re_join_296 : decode mm_Re_join.2.1 296 = .ok (.ireturn, 1) := by decide +kernel
theorem dm_Re_applied_0 : decode mm_Re_applied.2.1 0 = .ok (.aload_n 0, 1) := by decide +kernel
theorem dm_Re_applied_1 : decode mm_Re_applied.2.1 1 = .ok (.iload 4, 2) := by decide +kernel
theorem dm_Re_applied_3 : decode mm_Re_applied.2.1 3 = .ok (.invokevirtual 40, 3) := by decide +kernel
theorem dm_Re_applied_6 : decode mm_Re_applied.2.1 6 = .ok (.istore 6, 2) := by decide +kernel
theorem dm_Re_applied_8 : decode mm_Re_applied.2.1 8 = .ok (.aload_n 0, 1) := by decide +kernel
theorem dm_Re_applied_9 : decode mm_Re_applied.2.1 9 = .ok (.aload_n 0, 1) := by decide +kernel
theorem dm_Re_applied_10 : decode mm_Re_applied.2.1 10 = .ok (.getfield 109, 3) := by decide +kernel
theorem dm_Re_applied_13 : decode mm_Re_applied.2.1 13 = .ok (.aload_n 0, 1) := by decide +kernel
theorem dm_Re_applied_14 : decode mm_Re_applied.2.1 14 = .ok (.getfield 112, 3) := by decide +kernel
theorem dm_Re_applied_17 : decode mm_Re_applied.2.1 17 = .ok (.invokevirtual 143, 3) := by decide +kernel
theorem dm_Re_applied_20 : decode mm_Re_applied.2.1 20 = .ok (.aload_n 0, 1) := by decide +kernel
theorem dm_Re_applied_21 : decode mm_Re_applied.2.1 21 = .ok (.bipush 12, 2) := by decide +kernel
theorem dm_Re_applied_23 : decode mm_Re_applied.2.1 23 = .ok (.invokevirtual 32, 3) := by decide +kernel
theorem dm_Re_applied_26 : decode mm_Re_applied.2.1 26 = .ok (.aload_n 0, 1) := by decide +kernel
theorem dm_Re_applied_27 : decode mm_Re_applied.2.1 27 = .ok (.iload_n 1, 1) := by decide +kernel
theorem dm_Re_applied_28 : decode mm_Re_applied.2.1 28 = .ok (.iload_n 2, 1) := by decide +kernel
theorem dm_Re_applied_29 : decode mm_Re_applied.2.1 29 = .ok (.invokevirtual 43, 3) := by decide +kernel
theorem dm_Re_applied_32 : decode mm_Re_applied.2.1 32 = .ok (.aload_n 0, 1) := by decide +kernel
theorem dm_Re_applied_33 : decode mm_Re_applied.2.1 33 = .ok (.iload 4, 2) := by decide +kernel
theorem dm_Re_applied_35 : decode mm_Re_applied.2.1 35 = .ok (.iload 6, 2) := by decide +kernel
theorem dm_Re_applied_37 : decode mm_Re_applied.2.1 37 = .ok (.invokevirtual 43, 3) := by decide +kernel
theorem dm_Re_applied_40 : decode mm_Re_applied.2.1 40 = .ok (.aload_n 0, 1) := by decide +kernel
theorem dm_Re_applied_41 : decode mm_Re_applied.2.1 41 = .ok (.bipush 12, 2) := by decide +kernel
theorem dm_Re_applied_43 : decode mm_Re_applied.2.1 43 = .ok (.invokevirtual 32, 3) := by decide +kernel
theorem dm_Re_applied_46 : decode mm_Re_applied.2.1 46 = .ok (.aload_n 0, 1) := by decide +kernel
theorem dm_Re_applied_47 : decode mm_Re_applied.2.1 47 = .ok (.iload_n 2, 1) := by decide +kernel
theorem dm_Re_applied_48 : decode mm_Re_applied.2.1 48 = .ok (.iload_n 3, 1) := by decide +kernel
theorem dm_Re_applied_49 : decode mm_Re_applied.2.1 49 = .ok (.invokevirtual 43, 3) := by decide +kernel
theorem dm_Re_applied_52 : decode mm_Re_applied.2.1 52 = .ok (.aload_n 0, 1) := by decide +kernel
theorem dm_Re_applied_53 : decode mm_Re_applied.2.1 53 = .ok (.iload 6, 2) := by decide +kernel
theorem dm_Re_applied_55 : decode mm_Re_applied.2.1 55 = .ok (.iload 5, 2) := by decide +kernel
theorem dm_Re_applied_57 : decode mm_Re_applied.2.1 57 = .ok (.invokevirtual 43, 3) := by decide +kernel
theorem dm_Re_applied_60 : decode mm_Re_applied.2.1 60 = .ok (.return_, 1) := by decide +kernel
theorem dm_Re_free_0 : decode mm_Re_free.2.1 0 = .ok (.iload_n 3, 1) := by decide +kernel
theorem dm_Re_free_1 : decode mm_Re_free.2.1 1 = .ok (.istore 5, 2) := by decide +kernel
theorem dm_Re_free_3 : decode mm_Re_free.2.1 3 = .ok (.iload 5, 2) := by decide +kernel
theorem dm_Re_free_5 : decode mm_Re_free.2.1 5 = .ok (.iload 4, 2) := by decide +kernel
theorem dm_Re_free_7 : decode mm_Re_free.2.1 7 = .ok (.if_icmp .ge 22, 3) := by decide +kernel
theorem dm_Re_free_10 : decode mm_Re_free.2.1 10 = .ok (.aload_n 0, 1) := by decide +kernel
theorem dm_Re_free_11 : decode mm_Re_free.2.1 11 = .ok (.iload 5, 2) := by decide +kernel
theorem dm_Re_free_13 : decode mm_Re_free.2.1 13 = .ok (.iload_n 1, 1) := by decide +kernel
theorem dm_Re_free_14 : decode mm_Re_free.2.1 14 = .ok (.iload_n 2, 1) := by decide +kernel
theorem dm_Re_free_15 : decode mm_Re_free.2.1 15 = .ok (.invokevirtual 119, 3) := by decide +kernel
theorem dm_Re_free_18 : decode mm_Re_free.2.1 18 = .ok (.ifCond .eq 5, 3) := by decide +kernel
theorem dm_Re_free_21 : decode mm_Re_free.2.1 21 = .ok (.iconst 1, 1) := by decide +kernel
theorem dm_Re_free_22 : decode mm_Re_free.2.1 22 = .ok (.ireturn, 1) := by decide +kernel
theorem dm_Re_free_23 : decode mm_Re_free.2.1 23 = .ok (.iinc 5 1, 3) := by decide +kernel
theorem dm_Re_free_26 : decode mm_Re_free.2.1 26 = .ok (.goto (-23), 3) := by decide +kernel
theorem dm_Re_free_29 : decode mm_Re_free.2.1 29 = .ok (.iconst 0, 1) := by decide +kernel
theorem dm_Re_free_30 : decode mm_Re_free.2.1 30 = .ok (.ireturn, 1) := by decide +kernel
theorem dm_Re_absThm_0 : decode mm_Re_absThm.2.1 0 = .ok (.aload_n 0, 1) := by decide +kernel
theorem dm_Re_absThm_1 : decode mm_Re_absThm.2.1 1 = .ok (.iconst 1, 1) := by decide +kernel
theorem dm_Re_absThm_2 : decode mm_Re_absThm.2.1 2 = .ok (.invokevirtual 126, 3) := by decide +kernel
theorem dm_Re_absThm_5 : decode mm_Re_absThm.2.1 5 = .ok (.ifCond .eq 12, 3) := by decide +kernel
theorem dm_Re_absThm_8 : decode mm_Re_absThm.2.1 8 = .ok (.aload_n 0, 1) := by decide +kernel
theorem dm_Re_absThm_9 : decode mm_Re_absThm.2.1 9 = .ok (.iconst 0, 1) := by decide +kernel
theorem dm_Re_absThm_10 : decode mm_Re_absThm.2.1 10 = .ok (.invokevirtual 85, 3) := by decide +kernel
theorem dm_Re_absThm_13 : decode mm_Re_absThm.2.1 13 = .ok (.iconst 2, 1) := by decide +kernel
theorem dm_Re_absThm_14 : decode mm_Re_absThm.2.1 14 = .ok (.if_icmp .eq 5, 3) := by decide +kernel
theorem dm_Re_absThm_17 : decode mm_Re_absThm.2.1 17 = .ok (.iconst 1, 1) := by decide +kernel
theorem dm_Re_absThm_18 : decode mm_Re_absThm.2.1 18 = .ok (.ireturn, 1) := by decide +kernel
theorem dm_Re_absThm_19 : decode mm_Re_absThm.2.1 19 = .ok (.aload_n 0, 1) := by decide +kernel
theorem dm_Re_absThm_20 : decode mm_Re_absThm.2.1 20 = .ok (.iconst 1, 1) := by decide +kernel
theorem dm_Re_absThm_21 : decode mm_Re_absThm.2.1 21 = .ok (.invokevirtual 94, 3) := by decide +kernel
theorem dm_Re_absThm_24 : decode mm_Re_absThm.2.1 24 = .ok (.istore_n 1, 1) := by decide +kernel
theorem dm_Re_absThm_25 : decode mm_Re_absThm.2.1 25 = .ok (.aload_n 0, 1) := by decide +kernel
theorem dm_Re_absThm_26 : decode mm_Re_absThm.2.1 26 = .ok (.iconst 1, 1) := by decide +kernel
theorem dm_Re_absThm_27 : decode mm_Re_absThm.2.1 27 = .ok (.invokevirtual 97, 3) := by decide +kernel
theorem dm_Re_absThm_30 : decode mm_Re_absThm.2.1 30 = .ok (.istore_n 2, 1) := by decide +kernel
theorem dm_Re_absThm_31 : decode mm_Re_absThm.2.1 31 = .ok (.aload_n 0, 1) := by decide +kernel
theorem dm_Re_absThm_32 : decode mm_Re_absThm.2.1 32 = .ok (.iconst 0, 1) := by decide +kernel
theorem dm_Re_absThm_33 : decode mm_Re_absThm.2.1 33 = .ok (.invokevirtual 94, 3) := by decide +kernel
theorem dm_Re_absThm_36 : decode mm_Re_absThm.2.1 36 = .ok (.istore_n 3, 1) := by decide +kernel
theorem dm_Re_absThm_37 : decode mm_Re_absThm.2.1 37 = .ok (.aload_n 0, 1) := by decide +kernel
theorem dm_Re_absThm_38 : decode mm_Re_absThm.2.1 38 = .ok (.iload_n 3, 1) := by decide +kernel
theorem dm_Re_absThm_39 : decode mm_Re_absThm.2.1 39 = .ok (.invokevirtual 162, 3) := by decide +kernel
theorem dm_Re_absThm_42 : decode mm_Re_absThm.2.1 42 = .ok (.ifCond .ne 5, 3) := by decide +kernel
theorem dm_Re_absThm_45 : decode mm_Re_absThm.2.1 45 = .ok (.iconst 2, 1) := by decide +kernel
theorem dm_Re_absThm_46 : decode mm_Re_absThm.2.1 46 = .ok (.ireturn, 1) := by decide +kernel
theorem dm_Re_absThm_47 : decode mm_Re_absThm.2.1 47 = .ok (.aload_n 0, 1) := by decide +kernel
theorem dm_Re_absThm_48 : decode mm_Re_absThm.2.1 48 = .ok (.getfield 79, 3) := by decide +kernel
theorem dm_Re_absThm_51 : decode mm_Re_absThm.2.1 51 = .ok (.iconst 1, 1) := by decide +kernel
theorem dm_Re_absThm_52 : decode mm_Re_absThm.2.1 52 = .ok (.isub, 1) := by decide +kernel
theorem dm_Re_absThm_53 : decode mm_Re_absThm.2.1 53 = .ok (.istore 4, 2) := by decide +kernel
theorem dm_Re_absThm_55 : decode mm_Re_absThm.2.1 55 = .ok (.iconst 1, 1) := by decide +kernel
theorem dm_Re_absThm_56 : decode mm_Re_absThm.2.1 56 = .ok (.istore 5, 2) := by decide +kernel
theorem dm_Re_absThm_58 : decode mm_Re_absThm.2.1 58 = .ok (.iload 5, 2) := by decide +kernel
theorem dm_Re_absThm_60 : decode mm_Re_absThm.2.1 60 = .ok (.aload_n 0, 1) := by decide +kernel
theorem dm_Re_absThm_61 : decode mm_Re_absThm.2.1 61 = .ok (.getfield 19, 3) := by decide +kernel
theorem dm_Re_absThm_64 : decode mm_Re_absThm.2.1 64 = .ok (.iload 4, 2) := by decide +kernel
theorem dm_Re_absThm_66 : decode mm_Re_absThm.2.1 66 = .ok (.iaload, 1) := by decide +kernel
theorem dm_Re_absThm_67 : decode mm_Re_absThm.2.1 67 = .ok (.if_icmp .gt 47, 3) := by decide +kernel
theorem dm_Re_absThm_70 : decode mm_Re_absThm.2.1 70 = .ok (.aload_n 0, 1) := by decide +kernel
theorem dm_Re_absThm_71 : decode mm_Re_absThm.2.1 71 = .ok (.iload_n 1, 1) := by decide +kernel
theorem dm_Re_absThm_72 : decode mm_Re_absThm.2.1 72 = .ok (.iload_n 2, 1) := by decide +kernel
theorem dm_Re_absThm_73 : decode mm_Re_absThm.2.1 73 = .ok (.iload 4, 2) := by decide +kernel
theorem dm_Re_absThm_75 : decode mm_Re_absThm.2.1 75 = .ok (.iload 5, 2) := by decide +kernel
theorem dm_Re_absThm_77 : decode mm_Re_absThm.2.1 77 = .ok (.invokestatic 54, 3) := by decide +kernel
theorem dm_Re_absThm_80 : decode mm_Re_absThm.2.1 80 = .ok (.iload 4, 2) := by decide +kernel
theorem dm_Re_absThm_82 : decode mm_Re_absThm.2.1 82 = .ok (.iload 5, 2) := by decide +kernel
theorem dm_Re_absThm_84 : decode mm_Re_absThm.2.1 84 = .ok (.invokestatic 54, 3) := by decide +kernel
theorem dm_Re_absThm_87 : decode mm_Re_absThm.2.1 87 = .ok (.aload_n 0, 1) := by decide +kernel
theorem dm_Re_absThm_88 : decode mm_Re_absThm.2.1 88 = .ok (.getfield 13, 3) := by decide +kernel
theorem dm_Re_absThm_91 : decode mm_Re_absThm.2.1 91 = .ok (.iconst 4, 1) := by decide +kernel
theorem dm_Re_absThm_92 : decode mm_Re_absThm.2.1 92 = .ok (.iload 4, 2) := by decide +kernel
theorem dm_Re_absThm_94 : decode mm_Re_absThm.2.1 94 = .ok (.imul, 1) := by decide +kernel
theorem dm_Re_absThm_95 : decode mm_Re_absThm.2.1 95 = .ok (.iload 5, 2) := by decide +kernel
theorem dm_Re_absThm_97 : decode mm_Re_absThm.2.1 97 = .ok (.iadd, 1) := by decide +kernel
theorem dm_Re_absThm_98 : decode mm_Re_absThm.2.1 98 = .ok (.iaload, 1) := by decide +kernel
theorem dm_Re_absThm_99 : decode mm_Re_absThm.2.1 99 = .ok (.iadd, 1) := by decide +kernel
theorem dm_Re_absThm_100 : decode mm_Re_absThm.2.1 100 = .ok (.invokevirtual 172, 3) := by decide +kernel
theorem dm_Re_absThm_103 : decode mm_Re_absThm.2.1 103 = .ok (.ifCond .eq 5, 3) := by decide +kernel
theorem dm_Re_absThm_106 : decode mm_Re_absThm.2.1 106 = .ok (.iconst 3, 1) := by decide +kernel
theorem dm_Re_absThm_107 : decode mm_Re_absThm.2.1 107 = .ok (.ireturn, 1) := by decide +kernel
theorem dm_Re_absThm_108 : decode mm_Re_absThm.2.1 108 = .ok (.iinc 5 1, 3) := by decide +kernel
theorem dm_Re_absThm_111 : decode mm_Re_absThm.2.1 111 = .ok (.goto (-53), 3) := by decide +kernel
theorem dm_Re_absThm_114 : decode mm_Re_absThm.2.1 114 = .ok (.aload_n 0, 1) := by decide +kernel
theorem dm_Re_absThm_115 : decode mm_Re_absThm.2.1 115 = .ok (.invokevirtual 88, 3) := by decide +kernel
theorem dm_Re_absThm_118 : decode mm_Re_absThm.2.1 118 = .ok (.aload_n 0, 1) := by decide +kernel
theorem dm_Re_absThm_119 : decode mm_Re_absThm.2.1 119 = .ok (.iconst 0, 1) := by decide +kernel
theorem dm_Re_absThm_120 : decode mm_Re_absThm.2.1 120 = .ok (.invokevirtual 32, 3) := by decide +kernel
theorem dm_Re_absThm_123 : decode mm_Re_absThm.2.1 123 = .ok (.aload_n 0, 1) := by decide +kernel
theorem dm_Re_absThm_124 : decode mm_Re_absThm.2.1 124 = .ok (.iload_n 1, 1) := by decide +kernel
theorem dm_Re_absThm_125 : decode mm_Re_absThm.2.1 125 = .ok (.iconst 2, 1) := by decide +kernel
theorem dm_Re_absThm_126 : decode mm_Re_absThm.2.1 126 = .ok (.iadd, 1) := by decide +kernel
theorem dm_Re_absThm_127 : decode mm_Re_absThm.2.1 127 = .ok (.iload_n 2, 1) := by decide +kernel
theorem dm_Re_absThm_128 : decode mm_Re_absThm.2.1 128 = .ok (.invokevirtual 43, 3) := by decide +kernel
theorem dm_Re_absThm_131 : decode mm_Re_absThm.2.1 131 = .ok (.aload_n 0, 1) := by decide +kernel
theorem dm_Re_absThm_132 : decode mm_Re_absThm.2.1 132 = .ok (.iload_n 3, 1) := by decide +kernel
theorem dm_Re_absThm_133 : decode mm_Re_absThm.2.1 133 = .ok (.iconst 4, 1) := by decide +kernel
theorem dm_Re_absThm_134 : decode mm_Re_absThm.2.1 134 = .ok (.iadd, 1) := by decide +kernel
theorem dm_Re_absThm_135 : decode mm_Re_absThm.2.1 135 = .ok (.aload_n 0, 1) := by decide +kernel
theorem dm_Re_absThm_136 : decode mm_Re_absThm.2.1 136 = .ok (.iload_n 3, 1) := by decide +kernel
theorem dm_Re_absThm_137 : decode mm_Re_absThm.2.1 137 = .ok (.invokevirtual 165, 3) := by decide +kernel
theorem dm_Re_absThm_140 : decode mm_Re_absThm.2.1 140 = .ok (.invokevirtual 43, 3) := by decide +kernel
theorem dm_Re_absThm_143 : decode mm_Re_absThm.2.1 143 = .ok (.aload_n 0, 1) := by decide +kernel
theorem dm_Re_absThm_144 : decode mm_Re_absThm.2.1 144 = .ok (.getfield 28, 3) := by decide +kernel
theorem dm_Re_absThm_147 : decode mm_Re_absThm.2.1 147 = .ok (.istore 5, 2) := by decide +kernel
theorem dm_Re_absThm_149 : decode mm_Re_absThm.2.1 149 = .ok (.aload_n 0, 1) := by decide +kernel
theorem dm_Re_absThm_150 : decode mm_Re_absThm.2.1 150 = .ok (.iload_n 3, 1) := by decide +kernel
theorem dm_Re_absThm_151 : decode mm_Re_absThm.2.1 151 = .ok (.invokevirtual 165, 3) := by decide +kernel
theorem dm_Re_absThm_154 : decode mm_Re_absThm.2.1 154 = .ok (.istore 6, 2) := by decide +kernel
theorem dm_Re_absThm_156 : decode mm_Re_absThm.2.1 156 = .ok (.aload_n 0, 1) := by decide +kernel
theorem dm_Re_absThm_157 : decode mm_Re_absThm.2.1 157 = .ok (.iload 6, 2) := by decide +kernel
theorem dm_Re_absThm_159 : decode mm_Re_absThm.2.1 159 = .ok (.invokevirtual 40, 3) := by decide +kernel
theorem dm_Re_absThm_162 : decode mm_Re_absThm.2.1 162 = .ok (.istore 7, 2) := by decide +kernel
theorem dm_Re_absThm_164 : decode mm_Re_absThm.2.1 164 = .ok (.aload_n 0, 1) := by decide +kernel
theorem dm_Re_absThm_165 : decode mm_Re_absThm.2.1 165 = .ok (.sipush 5200, 3) := by decide +kernel
theorem dm_Re_absThm_168 : decode mm_Re_absThm.2.1 168 = .ok (.iload 5, 2) := by decide +kernel
theorem dm_Re_absThm_170 : decode mm_Re_absThm.2.1 170 = .ok (.invokevirtual 143, 3) := by decide +kernel
theorem dm_Re_absThm_173 : decode mm_Re_absThm.2.1 173 = .ok (.aload_n 0, 1) := by decide +kernel
theorem dm_Re_absThm_174 : decode mm_Re_absThm.2.1 174 = .ok (.iload_n 1, 1) := by decide +kernel
theorem dm_Re_absThm_175 : decode mm_Re_absThm.2.1 175 = .ok (.iload_n 2, 1) := by decide +kernel
theorem dm_Re_absThm_176 : decode mm_Re_absThm.2.1 176 = .ok (.iload 6, 2) := by decide +kernel
theorem dm_Re_absThm_178 : decode mm_Re_absThm.2.1 178 = .ok (.iload 7, 2) := by decide +kernel
theorem dm_Re_absThm_180 : decode mm_Re_absThm.2.1 180 = .ok (.invokevirtual 130, 3) := by decide +kernel
theorem dm_Re_absThm_183 : decode mm_Re_absThm.2.1 183 = .ok (.aload_n 0, 1) := by decide +kernel
theorem dm_Re_absThm_184 : decode mm_Re_absThm.2.1 184 = .ok (.iload_n 1, 1) := by decide +kernel
theorem dm_Re_absThm_185 : decode mm_Re_absThm.2.1 185 = .ok (.iload_n 2, 1) := by decide +kernel
theorem dm_Re_absThm_186 : decode mm_Re_absThm.2.1 186 = .ok (.iload 7, 2) := by decide +kernel
theorem dm_Re_absThm_188 : decode mm_Re_absThm.2.1 188 = .ok (.aload_n 0, 1) := by decide +kernel
theorem dm_Re_absThm_189 : decode mm_Re_absThm.2.1 189 = .ok (.iconst 0, 1) := by decide +kernel
theorem dm_Re_absThm_190 : decode mm_Re_absThm.2.1 190 = .ok (.invokevirtual 97, 3) := by decide +kernel
theorem dm_Re_absThm_193 : decode mm_Re_absThm.2.1 193 = .ok (.invokevirtual 130, 3) := by decide +kernel
theorem dm_Re_absThm_196 : decode mm_Re_absThm.2.1 196 = .ok (.aload_n 0, 1) := by decide +kernel
theorem dm_Re_absThm_197 : decode mm_Re_absThm.2.1 197 = .ok (.iconst 0, 1) := by decide +kernel
theorem dm_Re_absThm_198 : decode mm_Re_absThm.2.1 198 = .ok (.iload 5, 2) := by decide +kernel
theorem dm_Re_absThm_200 : decode mm_Re_absThm.2.1 200 = .ok (.invokevirtual 66, 3) := by decide +kernel
theorem dm_Re_absThm_203 : decode mm_Re_absThm.2.1 203 = .ok (.aload_n 0, 1) := by decide +kernel
theorem dm_Re_absThm_204 : decode mm_Re_absThm.2.1 204 = .ok (.iload 5, 2) := by decide +kernel
theorem dm_Re_absThm_206 : decode mm_Re_absThm.2.1 206 = .ok (.putfield 28, 3) := by decide +kernel
theorem dm_Re_absThm_209 : decode mm_Re_absThm.2.1 209 = .ok (.aload_n 0, 1) := by decide +kernel
theorem dm_Re_absThm_210 : decode mm_Re_absThm.2.1 210 = .ok (.iload 4, 2) := by decide +kernel
theorem dm_Re_absThm_212 : decode mm_Re_absThm.2.1 212 = .ok (.iconst 0, 1) := by decide +kernel
theorem dm_Re_absThm_213 : decode mm_Re_absThm.2.1 213 = .ok (.iconst 0, 1) := by decide +kernel
theorem dm_Re_absThm_214 : decode mm_Re_absThm.2.1 214 = .ok (.invokevirtual 158, 3) := by decide +kernel
theorem dm_Re_absThm_217 : decode mm_Re_absThm.2.1 217 = .ok (.aload_n 0, 1) := by decide +kernel
theorem dm_Re_absThm_218 : decode mm_Re_absThm.2.1 218 = .ok (.iconst 2, 1) := by decide +kernel
theorem dm_Re_absThm_219 : decode mm_Re_absThm.2.1 219 = .ok (.invokevirtual 91, 3) := by decide +kernel
theorem dm_Re_absThm_222 : decode mm_Re_absThm.2.1 222 = .ok (.ireturn, 1) := by decide +kernel
theorem dm_Re_replaced_0 : decode mm_Re_replaced.2.1 0 = .ok (.iload_n 1, 1) := by decide +kernel
theorem dm_Re_replaced_1 : decode mm_Re_replaced.2.1 1 = .ok (.istore 7, 2) := by decide +kernel
theorem dm_Re_replaced_3 : decode mm_Re_replaced.2.1 3 = .ok (.iload 7, 2) := by decide +kernel
theorem dm_Re_replaced_5 : decode mm_Re_replaced.2.1 5 = .ok (.iload_n 2, 1) := by decide +kernel
theorem dm_Re_replaced_6 : decode mm_Re_replaced.2.1 6 = .ok (.if_icmp .ge 52, 3) := by decide +kernel
theorem dm_Re_replaced_9 : decode mm_Re_replaced.2.1 9 = .ok (.aload_n 0, 1) := by decide +kernel
theorem dm_Re_replaced_10 : decode mm_Re_replaced.2.1 10 = .ok (.iload 7, 2) := by decide +kernel
theorem dm_Re_replaced_12 : decode mm_Re_replaced.2.1 12 = .ok (.iload_n 3, 1) := by decide +kernel
theorem dm_Re_replaced_13 : decode mm_Re_replaced.2.1 13 = .ok (.iload 4, 2) := by decide +kernel
theorem dm_Re_replaced_15 : decode mm_Re_replaced.2.1 15 = .ok (.invokevirtual 119, 3) := by decide +kernel
theorem dm_Re_replaced_18 : decode mm_Re_replaced.2.1 18 = .ok (.ifCond .eq 23, 3) := by decide +kernel
theorem dm_Re_replaced_21 : decode mm_Re_replaced.2.1 21 = .ok (.aload_n 0, 1) := by decide +kernel
theorem dm_Re_replaced_22 : decode mm_Re_replaced.2.1 22 = .ok (.iload 5, 2) := by decide +kernel
theorem dm_Re_replaced_24 : decode mm_Re_replaced.2.1 24 = .ok (.iload 6, 2) := by decide +kernel
theorem dm_Re_replaced_26 : decode mm_Re_replaced.2.1 26 = .ok (.invokevirtual 43, 3) := by decide +kernel
theorem dm_Re_replaced_29 : decode mm_Re_replaced.2.1 29 = .ok (.iload 7, 2) := by decide +kernel
theorem dm_Re_replaced_31 : decode mm_Re_replaced.2.1 31 = .ok (.iload 4, 2) := by decide +kernel
theorem dm_Re_replaced_33 : decode mm_Re_replaced.2.1 33 = .ok (.iload_n 3, 1) := by decide +kernel
theorem dm_Re_replaced_34 : decode mm_Re_replaced.2.1 34 = .ok (.isub, 1) := by decide +kernel
theorem dm_Re_replaced_35 : decode mm_Re_replaced.2.1 35 = .ok (.iadd, 1) := by decide +kernel
theorem dm_Re_replaced_36 : decode mm_Re_replaced.2.1 36 = .ok (.istore 7, 2) := by decide +kernel
theorem dm_Re_replaced_38 : decode mm_Re_replaced.2.1 38 = .ok (.goto (-35), 3) := by decide +kernel
theorem dm_Re_replaced_41 : decode mm_Re_replaced.2.1 41 = .ok (.aload_n 0, 1) := by decide +kernel
theorem dm_Re_replaced_42 : decode mm_Re_replaced.2.1 42 = .ok (.aload_n 0, 1) := by decide +kernel
theorem dm_Re_replaced_43 : decode mm_Re_replaced.2.1 43 = .ok (.getfield 7, 3) := by decide +kernel
theorem dm_Re_replaced_46 : decode mm_Re_replaced.2.1 46 = .ok (.iload 7, 2) := by decide +kernel
theorem dm_Re_replaced_48 : decode mm_Re_replaced.2.1 48 = .ok (.iaload, 1) := by decide +kernel
theorem dm_Re_replaced_49 : decode mm_Re_replaced.2.1 49 = .ok (.invokevirtual 32, 3) := by decide +kernel
theorem dm_Re_replaced_52 : decode mm_Re_replaced.2.1 52 = .ok (.iinc 7 1, 3) := by decide +kernel
theorem dm_Re_replaced_55 : decode mm_Re_replaced.2.1 55 = .ok (.goto (-52), 3) := by decide +kernel
theorem dm_Re_replaced_58 : decode mm_Re_replaced.2.1 58 = .ok (.return_, 1) := by decide +kernel
theorem dm_Re_inst_0 : decode mm_Re_inst.2.1 0 = .ok (.aload_n 0, 1) := by decide +kernel
theorem dm_Re_inst_1 : decode mm_Re_inst.2.1 1 = .ok (.iconst 2, 1) := by decide +kernel
theorem dm_Re_inst_2 : decode mm_Re_inst.2.1 2 = .ok (.invokevirtual 126, 3) := by decide +kernel
theorem dm_Re_inst_5 : decode mm_Re_inst.2.1 5 = .ok (.ifCond .eq 21, 3) := by decide +kernel
theorem dm_Re_inst_8 : decode mm_Re_inst.2.1 8 = .ok (.aload_n 0, 1) := by decide +kernel
theorem dm_Re_inst_9 : decode mm_Re_inst.2.1 9 = .ok (.iconst 1, 1) := by decide +kernel
theorem dm_Re_inst_10 : decode mm_Re_inst.2.1 10 = .ok (.invokevirtual 85, 3) := by decide +kernel
theorem dm_Re_inst_13 : decode mm_Re_inst.2.1 13 = .ok (.iconst 1, 1) := by decide +kernel
theorem dm_Re_inst_14 : decode mm_Re_inst.2.1 14 = .ok (.if_icmp .ne 12, 3) := by decide +kernel
theorem dm_Re_inst_17 : decode mm_Re_inst.2.1 17 = .ok (.aload_n 0, 1) := by decide +kernel
theorem dm_Re_inst_18 : decode mm_Re_inst.2.1 18 = .ok (.iconst 0, 1) := by decide +kernel
theorem dm_Re_inst_19 : decode mm_Re_inst.2.1 19 = .ok (.invokevirtual 85, 3) := by decide +kernel
theorem dm_Re_inst_22 : decode mm_Re_inst.2.1 22 = .ok (.iconst 2, 1) := by decide +kernel
theorem dm_Re_inst_23 : decode mm_Re_inst.2.1 23 = .ok (.if_icmp .eq 5, 3) := by decide +kernel
theorem dm_Re_inst_26 : decode mm_Re_inst.2.1 26 = .ok (.iconst 1, 1) := by decide +kernel
theorem dm_Re_inst_27 : decode mm_Re_inst.2.1 27 = .ok (.ireturn, 1) := by decide +kernel
theorem dm_Re_inst_28 : decode mm_Re_inst.2.1 28 = .ok (.aload_n 0, 1) := by decide +kernel
theorem dm_Re_inst_29 : decode mm_Re_inst.2.1 29 = .ok (.invokevirtual 88, 3) := by decide +kernel
theorem dm_Re_inst_32 : decode mm_Re_inst.2.1 32 = .ok (.aload_n 0, 1) := by decide +kernel
theorem dm_Re_inst_33 : decode mm_Re_inst.2.1 33 = .ok (.iconst 2, 1) := by decide +kernel
theorem dm_Re_inst_34 : decode mm_Re_inst.2.1 34 = .ok (.invokevirtual 94, 3) := by decide +kernel
theorem dm_Re_inst_37 : decode mm_Re_inst.2.1 37 = .ok (.istore_n 1, 1) := by decide +kernel
theorem dm_Re_inst_38 : decode mm_Re_inst.2.1 38 = .ok (.aload_n 0, 1) := by decide +kernel
theorem dm_Re_inst_39 : decode mm_Re_inst.2.1 39 = .ok (.iconst 2, 1) := by decide +kernel
theorem dm_Re_inst_40 : decode mm_Re_inst.2.1 40 = .ok (.invokevirtual 97, 3) := by decide +kernel
theorem dm_Re_inst_43 : decode mm_Re_inst.2.1 43 = .ok (.istore_n 2, 1) := by decide +kernel
theorem dm_Re_inst_44 : decode mm_Re_inst.2.1 44 = .ok (.aload_n 0, 1) := by decide +kernel
theorem dm_Re_inst_45 : decode mm_Re_inst.2.1 45 = .ok (.aload_n 0, 1) := by decide +kernel
theorem dm_Re_inst_46 : decode mm_Re_inst.2.1 46 = .ok (.iconst 1, 1) := by decide +kernel
theorem dm_Re_inst_47 : decode mm_Re_inst.2.1 47 = .ok (.invokevirtual 94, 3) := by decide +kernel
theorem dm_Re_inst_50 : decode mm_Re_inst.2.1 50 = .ok (.invokevirtual 106, 3) := by decide +kernel
theorem dm_Re_inst_53 : decode mm_Re_inst.2.1 53 = .ok (.istore_n 3, 1) := by decide +kernel
theorem dm_Re_inst_54 : decode mm_Re_inst.2.1 54 = .ok (.aload_n 0, 1) := by decide +kernel
theorem dm_Re_inst_55 : decode mm_Re_inst.2.1 55 = .ok (.iload_n 1, 1) := by decide +kernel
theorem dm_Re_inst_56 : decode mm_Re_inst.2.1 56 = .ok (.iconst 2, 1) := by decide +kernel
theorem dm_Re_inst_57 : decode mm_Re_inst.2.1 57 = .ok (.iadd, 1) := by decide +kernel
theorem dm_Re_inst_58 : decode mm_Re_inst.2.1 58 = .ok (.iload_n 2, 1) := by decide +kernel
theorem dm_Re_inst_59 : decode mm_Re_inst.2.1 59 = .ok (.iload_n 3, 1) := by decide +kernel
theorem dm_Re_inst_60 : decode mm_Re_inst.2.1 60 = .ok (.aload_n 0, 1) := by decide +kernel
theorem dm_Re_inst_61 : decode mm_Re_inst.2.1 61 = .ok (.getfield 28, 3) := by decide +kernel
theorem dm_Re_inst_64 : decode mm_Re_inst.2.1 64 = .ok (.invokevirtual 69, 3) := by decide +kernel
theorem dm_Re_inst_67 : decode mm_Re_inst.2.1 67 = .ok (.ifCond .ne 5, 3) := by decide +kernel
theorem dm_Re_inst_70 : decode mm_Re_inst.2.1 70 = .ok (.iconst 2, 1) := by decide +kernel
theorem dm_Re_inst_71 : decode mm_Re_inst.2.1 71 = .ok (.ireturn, 1) := by decide +kernel
theorem dm_Re_inst_72 : decode mm_Re_inst.2.1 72 = .ok (.aload_n 0, 1) := by decide +kernel
theorem dm_Re_inst_73 : decode mm_Re_inst.2.1 73 = .ok (.getfield 79, 3) := by decide +kernel
theorem dm_Re_inst_76 : decode mm_Re_inst.2.1 76 = .ok (.iconst 1, 1) := by decide +kernel
theorem dm_Re_inst_77 : decode mm_Re_inst.2.1 77 = .ok (.isub, 1) := by decide +kernel
theorem dm_Re_inst_78 : decode mm_Re_inst.2.1 78 = .ok (.istore 4, 2) := by decide +kernel
theorem dm_Re_inst_80 : decode mm_Re_inst.2.1 80 = .ok (.iconst 0, 1) := by decide +kernel
theorem dm_Re_inst_81 : decode mm_Re_inst.2.1 81 = .ok (.istore 5, 2) := by decide +kernel
theorem dm_Re_inst_83 : decode mm_Re_inst.2.1 83 = .ok (.iload 5, 2) := by decide +kernel
theorem dm_Re_inst_85 : decode mm_Re_inst.2.1 85 = .ok (.aload_n 0, 1) := by decide +kernel
theorem dm_Re_inst_86 : decode mm_Re_inst.2.1 86 = .ok (.getfield 19, 3) := by decide +kernel
theorem dm_Re_inst_89 : decode mm_Re_inst.2.1 89 = .ok (.iload 4, 2) := by decide +kernel
theorem dm_Re_inst_91 : decode mm_Re_inst.2.1 91 = .ok (.iaload, 1) := by decide +kernel
theorem dm_Re_inst_92 : decode mm_Re_inst.2.1 92 = .ok (.if_icmp .gt 84, 3) := by decide +kernel
theorem dm_Re_inst_95 : decode mm_Re_inst.2.1 95 = .ok (.aload_n 0, 1) := by decide +kernel
theorem dm_Re_inst_96 : decode mm_Re_inst.2.1 96 = .ok (.getfield 28, 3) := by decide +kernel
theorem dm_Re_inst_99 : decode mm_Re_inst.2.1 99 = .ok (.istore 6, 2) := by decide +kernel
theorem dm_Re_inst_101 : decode mm_Re_inst.2.1 101 = .ok (.iload 4, 2) := by decide +kernel
theorem dm_Re_inst_103 : decode mm_Re_inst.2.1 103 = .ok (.iload 5, 2) := by decide +kernel
theorem dm_Re_inst_105 : decode mm_Re_inst.2.1 105 = .ok (.invokestatic 54, 3) := by decide +kernel
theorem dm_Re_inst_108 : decode mm_Re_inst.2.1 108 = .ok (.istore 7, 2) := by decide +kernel
theorem dm_Re_inst_110 : decode mm_Re_inst.2.1 110 = .ok (.aload_n 0, 1) := by decide +kernel
theorem dm_Re_inst_111 : decode mm_Re_inst.2.1 111 = .ok (.iload 7, 2) := by decide +kernel
theorem dm_Re_inst_113 : decode mm_Re_inst.2.1 113 = .ok (.iload 7, 2) := by decide +kernel
theorem dm_Re_inst_115 : decode mm_Re_inst.2.1 115 = .ok (.aload_n 0, 1) := by decide +kernel
theorem dm_Re_inst_116 : decode mm_Re_inst.2.1 116 = .ok (.getfield 13, 3) := by decide +kernel
theorem dm_Re_inst_119 : decode mm_Re_inst.2.1 119 = .ok (.iconst 4, 1) := by decide +kernel
theorem dm_Re_inst_120 : decode mm_Re_inst.2.1 120 = .ok (.iload 4, 2) := by decide +kernel
theorem dm_Re_inst_122 : decode mm_Re_inst.2.1 122 = .ok (.imul, 1) := by decide +kernel
theorem dm_Re_inst_123 : decode mm_Re_inst.2.1 123 = .ok (.iload 5, 2) := by decide +kernel
theorem dm_Re_inst_125 : decode mm_Re_inst.2.1 125 = .ok (.iadd, 1) := by decide +kernel
theorem dm_Re_inst_126 : decode mm_Re_inst.2.1 126 = .ok (.iaload, 1) := by decide +kernel
theorem dm_Re_inst_127 : decode mm_Re_inst.2.1 127 = .ok (.iadd, 1) := by decide +kernel
theorem dm_Re_inst_128 : decode mm_Re_inst.2.1 128 = .ok (.iload_n 1, 1) := by decide +kernel
theorem dm_Re_inst_129 : decode mm_Re_inst.2.1 129 = .ok (.iload_n 2, 1) := by decide +kernel
theorem dm_Re_inst_130 : decode mm_Re_inst.2.1 130 = .ok (.aload_n 0, 1) := by decide +kernel
theorem dm_Re_inst_131 : decode mm_Re_inst.2.1 131 = .ok (.iconst 1, 1) := by decide +kernel
theorem dm_Re_inst_132 : decode mm_Re_inst.2.1 132 = .ok (.invokevirtual 94, 3) := by decide +kernel
theorem dm_Re_inst_135 : decode mm_Re_inst.2.1 135 = .ok (.aload_n 0, 1) := by decide +kernel
theorem dm_Re_inst_136 : decode mm_Re_inst.2.1 136 = .ok (.iconst 1, 1) := by decide +kernel
