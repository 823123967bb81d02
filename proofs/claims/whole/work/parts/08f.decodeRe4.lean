theorem dm_Re_inst_137 : decode mm_Re_inst.2.1 137 = .ok (.invokevirtual 97, 3) := by decide +kernel
theorem dm_Re_inst_140 : decode mm_Re_inst.2.1 140 = .ok (.invokevirtual 175, 3) := by decide +kernel
theorem dm_Re_inst_143 : decode mm_Re_inst.2.1 143 = .ok (.iload 5, 2) := by decide +kernel
theorem dm_Re_inst_145 : decode mm_Re_inst.2.1 145 = .ok (.ifCond .ne 13, 3) := by decide +kernel
theorem dm_Re_inst_148 : decode mm_Re_inst.2.1 148 = .ok (.aload_n 0, 1) := by decide +kernel
theorem dm_Re_inst_149 : decode mm_Re_inst.2.1 149 = .ok (.iconst 0, 1) := by decide +kernel
theorem dm_Re_inst_150 : decode mm_Re_inst.2.1 150 = .ok (.iload 6, 2) := by decide +kernel
theorem dm_Re_inst_152 : decode mm_Re_inst.2.1 152 = .ok (.invokevirtual 66, 3) := by decide +kernel
theorem dm_Re_inst_155 : decode mm_Re_inst.2.1 155 = .ok (.goto 9, 3) := by decide +kernel
theorem dm_Re_inst_158 : decode mm_Re_inst.2.1 158 = .ok (.aload_n 0, 1) := by decide +kernel
theorem dm_Re_inst_159 : decode mm_Re_inst.2.1 159 = .ok (.iload 6, 2) := by decide +kernel
theorem dm_Re_inst_161 : decode mm_Re_inst.2.1 161 = .ok (.invokevirtual 73, 3) := by decide +kernel
theorem dm_Re_inst_164 : decode mm_Re_inst.2.1 164 = .ok (.aload_n 0, 1) := by decide +kernel
theorem dm_Re_inst_165 : decode mm_Re_inst.2.1 165 = .ok (.iload 6, 2) := by decide +kernel
theorem dm_Re_inst_167 : decode mm_Re_inst.2.1 167 = .ok (.putfield 28, 3) := by decide +kernel
theorem dm_Re_inst_170 : decode mm_Re_inst.2.1 170 = .ok (.iinc 5 1, 3) := by decide +kernel
theorem dm_Re_inst_173 : decode mm_Re_inst.2.1 173 = .ok (.goto (-90), 3) := by decide +kernel
theorem dm_Re_inst_176 : decode mm_Re_inst.2.1 176 = .ok (.aload_n 0, 1) := by decide +kernel
theorem dm_Re_inst_177 : decode mm_Re_inst.2.1 177 = .ok (.iconst 3, 1) := by decide +kernel
theorem dm_Re_inst_178 : decode mm_Re_inst.2.1 178 = .ok (.invokevirtual 91, 3) := by decide +kernel
theorem dm_Re_inst_181 : decode mm_Re_inst.2.1 181 = .ok (.ireturn, 1) := by decide +kernel
theorem dm_Re_retyped_0 : decode mm_Re_retyped.2.1 0 = .ok (.iload_n 1, 1) := by decide +kernel
theorem dm_Re_retyped_1 : decode mm_Re_retyped.2.1 1 = .ok (.istore 6, 2) := by decide +kernel
theorem dm_Re_retyped_3 : decode mm_Re_retyped.2.1 3 = .ok (.iload 6, 2) := by decide +kernel
theorem dm_Re_retyped_5 : decode mm_Re_retyped.2.1 5 = .ok (.iload_n 2, 1) := by decide +kernel
theorem dm_Re_retyped_6 : decode mm_Re_retyped.2.1 6 = .ok (.if_icmp .ge 138, 3) := by decide +kernel
theorem dm_Re_retyped_9 : decode mm_Re_retyped.2.1 9 = .ok (.aload_n 0, 1) := by decide +kernel
theorem dm_Re_retyped_10 : decode mm_Re_retyped.2.1 10 = .ok (.getfield 7, 3) := by decide +kernel
theorem dm_Re_retyped_13 : decode mm_Re_retyped.2.1 13 = .ok (.iload 6, 2) := by decide +kernel
theorem dm_Re_retyped_15 : decode mm_Re_retyped.2.1 15 = .ok (.iaload, 1) := by decide +kernel
theorem dm_Re_retyped_16 : decode mm_Re_retyped.2.1 16 = .ok (.istore 7, 2) := by decide +kernel
theorem dm_Re_retyped_18 : decode mm_Re_retyped.2.1 18 = .ok (.iload 7, 2) := by decide +kernel
theorem dm_Re_retyped_20 : decode mm_Re_retyped.2.1 20 = .ok (.bipush 10, 2) := by decide +kernel
theorem dm_Re_retyped_22 : decode mm_Re_retyped.2.1 22 = .ok (.if_icmp .eq 10, 3) := by decide +kernel
theorem dm_Re_retyped_25 : decode mm_Re_retyped.2.1 25 = .ok (.iload 7, 2) := by decide +kernel
theorem dm_Re_retyped_27 : decode mm_Re_retyped.2.1 27 = .ok (.bipush 11, 2) := by decide +kernel
theorem dm_Re_retyped_29 : decode mm_Re_retyped.2.1 29 = .ok (.if_icmp .ne 10, 3) := by decide +kernel
theorem dm_Re_retyped_32 : decode mm_Re_retyped.2.1 32 = .ok (.iload 6, 2) := by decide +kernel
theorem dm_Re_retyped_34 : decode mm_Re_retyped.2.1 34 = .ok (.iconst 2, 1) := by decide +kernel
theorem dm_Re_retyped_35 : decode mm_Re_retyped.2.1 35 = .ok (.iadd, 1) := by decide +kernel
theorem dm_Re_retyped_36 : decode mm_Re_retyped.2.1 36 = .ok (.goto 7, 3) := by decide +kernel
theorem dm_Re_retyped_39 : decode mm_Re_retyped.2.1 39 = .ok (.iload 6, 2) := by decide +kernel
theorem dm_Re_retyped_41 : decode mm_Re_retyped.2.1 41 = .ok (.iconst 1, 1) := by decide +kernel
theorem dm_Re_retyped_42 : decode mm_Re_retyped.2.1 42 = .ok (.iadd, 1) := by decide +kernel
theorem dm_Re_retyped_43 : decode mm_Re_retyped.2.1 43 = .ok (.istore 8, 2) := by decide +kernel
theorem dm_Re_retyped_45 : decode mm_Re_retyped.2.1 45 = .ok (.iload 7, 2) := by decide +kernel
theorem dm_Re_retyped_47 : decode mm_Re_retyped.2.1 47 = .ok (.bipush 10, 2) := by decide +kernel
theorem dm_Re_retyped_49 : decode mm_Re_retyped.2.1 49 = .ok (.if_icmp .eq 17, 3) := by decide +kernel
theorem dm_Re_retyped_52 : decode mm_Re_retyped.2.1 52 = .ok (.iload 7, 2) := by decide +kernel
theorem dm_Re_retyped_54 : decode mm_Re_retyped.2.1 54 = .ok (.bipush 11, 2) := by decide +kernel
theorem dm_Re_retyped_56 : decode mm_Re_retyped.2.1 56 = .ok (.if_icmp .eq 10, 3) := by decide +kernel
theorem dm_Re_retyped_59 : decode mm_Re_retyped.2.1 59 = .ok (.iload 7, 2) := by decide +kernel
theorem dm_Re_retyped_61 : decode mm_Re_retyped.2.1 61 = .ok (.bipush 13, 2) := by decide +kernel
theorem dm_Re_retyped_63 : decode mm_Re_retyped.2.1 63 = .ok (.if_icmp .ne 12, 3) := by decide +kernel
theorem dm_Re_retyped_66 : decode mm_Re_retyped.2.1 66 = .ok (.aload_n 0, 1) := by decide +kernel
theorem dm_Re_retyped_67 : decode mm_Re_retyped.2.1 67 = .ok (.iload 8, 2) := by decide +kernel
theorem dm_Re_retyped_69 : decode mm_Re_retyped.2.1 69 = .ok (.invokevirtual 36, 3) := by decide +kernel
theorem dm_Re_retyped_72 : decode mm_Re_retyped.2.1 72 = .ok (.goto 5, 3) := by decide +kernel
theorem dm_Re_retyped_75 : decode mm_Re_retyped.2.1 75 = .ok (.iload 8, 2) := by decide +kernel
theorem dm_Re_retyped_77 : decode mm_Re_retyped.2.1 77 = .ok (.istore 9, 2) := by decide +kernel
theorem dm_Re_retyped_79 : decode mm_Re_retyped.2.1 79 = .ok (.aload_n 0, 1) := by decide +kernel
theorem dm_Re_retyped_80 : decode mm_Re_retyped.2.1 80 = .ok (.iload 6, 2) := by decide +kernel
theorem dm_Re_retyped_82 : decode mm_Re_retyped.2.1 82 = .ok (.iload 8, 2) := by decide +kernel
theorem dm_Re_retyped_84 : decode mm_Re_retyped.2.1 84 = .ok (.invokevirtual 43, 3) := by decide +kernel
theorem dm_Re_retyped_87 : decode mm_Re_retyped.2.1 87 = .ok (.iload 8, 2) := by decide +kernel
theorem dm_Re_retyped_89 : decode mm_Re_retyped.2.1 89 = .ok (.istore 10, 2) := by decide +kernel
theorem dm_Re_retyped_91 : decode mm_Re_retyped.2.1 91 = .ok (.iload 10, 2) := by decide +kernel
theorem dm_Re_retyped_93 : decode mm_Re_retyped.2.1 93 = .ok (.iload 9, 2) := by decide +kernel
theorem dm_Re_retyped_95 : decode mm_Re_retyped.2.1 95 = .ok (.if_icmp .ge 42, 3) := by decide +kernel
theorem dm_Re_retyped_98 : decode mm_Re_retyped.2.1 98 = .ok (.aload_n 0, 1) := by decide +kernel
theorem dm_Re_retyped_99 : decode mm_Re_retyped.2.1 99 = .ok (.getfield 7, 3) := by decide +kernel
theorem dm_Re_retyped_102 : decode mm_Re_retyped.2.1 102 = .ok (.iload 10, 2) := by decide +kernel
theorem dm_Re_retyped_104 : decode mm_Re_retyped.2.1 104 = .ok (.iaload, 1) := by decide +kernel
theorem dm_Re_retyped_105 : decode mm_Re_retyped.2.1 105 = .ok (.iload_n 3, 1) := by decide +kernel
theorem dm_Re_retyped_106 : decode mm_Re_retyped.2.1 106 = .ok (.if_icmp .ne 14, 3) := by decide +kernel
theorem dm_Re_retyped_109 : decode mm_Re_retyped.2.1 109 = .ok (.aload_n 0, 1) := by decide +kernel
theorem dm_Re_retyped_110 : decode mm_Re_retyped.2.1 110 = .ok (.iload 4, 2) := by decide +kernel
theorem dm_Re_retyped_112 : decode mm_Re_retyped.2.1 112 = .ok (.iload 5, 2) := by decide +kernel
theorem dm_Re_retyped_114 : decode mm_Re_retyped.2.1 114 = .ok (.invokevirtual 43, 3) := by decide +kernel
theorem dm_Re_retyped_117 : decode mm_Re_retyped.2.1 117 = .ok (.goto 14, 3) := by decide +kernel
theorem dm_Re_retyped_120 : decode mm_Re_retyped.2.1 120 = .ok (.aload_n 0, 1) := by decide +kernel
theorem dm_Re_retyped_121 : decode mm_Re_retyped.2.1 121 = .ok (.aload_n 0, 1) := by decide +kernel
theorem dm_Re_retyped_122 : decode mm_Re_retyped.2.1 122 = .ok (.getfield 7, 3) := by decide +kernel
theorem dm_Re_retyped_125 : decode mm_Re_retyped.2.1 125 = .ok (.iload 10, 2) := by decide +kernel
theorem dm_Re_retyped_127 : decode mm_Re_retyped.2.1 127 = .ok (.iaload, 1) := by decide +kernel
theorem dm_Re_retyped_128 : decode mm_Re_retyped.2.1 128 = .ok (.invokevirtual 32, 3) := by decide +kernel
theorem dm_Re_retyped_131 : decode mm_Re_retyped.2.1 131 = .ok (.iinc 10 1, 3) := by decide +kernel
theorem dm_Re_retyped_134 : decode mm_Re_retyped.2.1 134 = .ok (.goto (-43), 3) := by decide +kernel
theorem dm_Re_retyped_137 : decode mm_Re_retyped.2.1 137 = .ok (.iload 9, 2) := by decide +kernel
theorem dm_Re_retyped_139 : decode mm_Re_retyped.2.1 139 = .ok (.istore 6, 2) := by decide +kernel
theorem dm_Re_retyped_141 : decode mm_Re_retyped.2.1 141 = .ok (.goto (-138), 3) := by decide +kernel
theorem dm_Re_retyped_144 : decode mm_Re_retyped.2.1 144 = .ok (.return_, 1) := by decide +kernel
theorem dm_Re_instType_0 : decode mm_Re_instType.2.1 0 = .ok (.aload_n 0, 1) := by decide +kernel
theorem dm_Re_instType_1 : decode mm_Re_instType.2.1 1 = .ok (.iconst 1, 1) := by decide +kernel
theorem dm_Re_instType_2 : decode mm_Re_instType.2.1 2 = .ok (.invokevirtual 85, 3) := by decide +kernel
theorem dm_Re_instType_5 : decode mm_Re_instType.2.1 5 = .ok (.ifCond .ne 12, 3) := by decide +kernel
theorem dm_Re_instType_8 : decode mm_Re_instType.2.1 8 = .ok (.aload_n 0, 1) := by decide +kernel
theorem dm_Re_instType_9 : decode mm_Re_instType.2.1 9 = .ok (.iconst 0, 1) := by decide +kernel
theorem dm_Re_instType_10 : decode mm_Re_instType.2.1 10 = .ok (.invokevirtual 85, 3) := by decide +kernel
theorem dm_Re_instType_13 : decode mm_Re_instType.2.1 13 = .ok (.iconst 2, 1) := by decide +kernel
theorem dm_Re_instType_14 : decode mm_Re_instType.2.1 14 = .ok (.if_icmp .eq 5, 3) := by decide +kernel
theorem dm_Re_instType_17 : decode mm_Re_instType.2.1 17 = .ok (.iconst 1, 1) := by decide +kernel
theorem dm_Re_instType_18 : decode mm_Re_instType.2.1 18 = .ok (.ireturn, 1) := by decide +kernel
theorem dm_Re_instType_19 : decode mm_Re_instType.2.1 19 = .ok (.iload_n 1, 1) := by decide +kernel
theorem dm_Re_instType_20 : decode mm_Re_instType.2.1 20 = .ok (.ifCond .lt 8, 3) := by decide +kernel
theorem dm_Re_instType_23 : decode mm_Re_instType.2.1 23 = .ok (.iload_n 1, 1) := by decide +kernel
theorem dm_Re_instType_24 : decode mm_Re_instType.2.1 24 = .ok (.iconst 3, 1) := by decide +kernel
theorem dm_Re_instType_25 : decode mm_Re_instType.2.1 25 = .ok (.if_icmp .le 5, 3) := by decide +kernel
theorem dm_Re_instType_28 : decode mm_Re_instType.2.1 28 = .ok (.iconst 2, 1) := by decide +kernel
theorem dm_Re_instType_29 : decode mm_Re_instType.2.1 29 = .ok (.ireturn, 1) := by decide +kernel
theorem dm_Re_instType_30 : decode mm_Re_instType.2.1 30 = .ok (.aload_n 0, 1) := by decide +kernel
theorem dm_Re_instType_31 : decode mm_Re_instType.2.1 31 = .ok (.invokevirtual 88, 3) := by decide +kernel
theorem dm_Re_instType_34 : decode mm_Re_instType.2.1 34 = .ok (.aload_n 0, 1) := by decide +kernel
theorem dm_Re_instType_35 : decode mm_Re_instType.2.1 35 = .ok (.getfield 79, 3) := by decide +kernel
theorem dm_Re_instType_38 : decode mm_Re_instType.2.1 38 = .ok (.iconst 1, 1) := by decide +kernel
theorem dm_Re_instType_39 : decode mm_Re_instType.2.1 39 = .ok (.isub, 1) := by decide +kernel
theorem dm_Re_instType_40 : decode mm_Re_instType.2.1 40 = .ok (.istore_n 2, 1) := by decide +kernel
theorem dm_Re_instType_41 : decode mm_Re_instType.2.1 41 = .ok (.iconst 0, 1) := by decide +kernel
theorem dm_Re_instType_42 : decode mm_Re_instType.2.1 42 = .ok (.istore_n 3, 1) := by decide +kernel
theorem dm_Re_instType_43 : decode mm_Re_instType.2.1 43 = .ok (.iload_n 3, 1) := by decide +kernel
theorem dm_Re_instType_44 : decode mm_Re_instType.2.1 44 = .ok (.aload_n 0, 1) := by decide +kernel
theorem dm_Re_instType_45 : decode mm_Re_instType.2.1 45 = .ok (.getfield 19, 3) := by decide +kernel
theorem dm_Re_instType_48 : decode mm_Re_instType.2.1 48 = .ok (.iload_n 2, 1) := by decide +kernel
theorem dm_Re_instType_49 : decode mm_Re_instType.2.1 49 = .ok (.iaload, 1) := by decide +kernel
theorem dm_Re_instType_50 : decode mm_Re_instType.2.1 50 = .ok (.if_icmp .gt 80, 3) := by decide +kernel
theorem dm_Re_instType_53 : decode mm_Re_instType.2.1 53 = .ok (.aload_n 0, 1) := by decide +kernel
theorem dm_Re_instType_54 : decode mm_Re_instType.2.1 54 = .ok (.getfield 28, 3) := by decide +kernel
theorem dm_Re_instType_57 : decode mm_Re_instType.2.1 57 = .ok (.istore 4, 2) := by decide +kernel
theorem dm_Re_instType_59 : decode mm_Re_instType.2.1 59 = .ok (.iload_n 2, 1) := by decide +kernel
theorem dm_Re_instType_60 : decode mm_Re_instType.2.1 60 = .ok (.iload_n 3, 1) := by decide +kernel
theorem dm_Re_instType_61 : decode mm_Re_instType.2.1 61 = .ok (.invokestatic 54, 3) := by decide +kernel
theorem dm_Re_instType_64 : decode mm_Re_instType.2.1 64 = .ok (.istore 5, 2) := by decide +kernel
theorem dm_Re_instType_66 : decode mm_Re_instType.2.1 66 = .ok (.aload_n 0, 1) := by decide +kernel
theorem dm_Re_instType_67 : decode mm_Re_instType.2.1 67 = .ok (.iload 5, 2) := by decide +kernel
theorem dm_Re_instType_69 : decode mm_Re_instType.2.1 69 = .ok (.iload 5, 2) := by decide +kernel
theorem dm_Re_instType_71 : decode mm_Re_instType.2.1 71 = .ok (.aload_n 0, 1) := by decide +kernel
theorem dm_Re_instType_72 : decode mm_Re_instType.2.1 72 = .ok (.getfield 13, 3) := by decide +kernel
theorem dm_Re_instType_75 : decode mm_Re_instType.2.1 75 = .ok (.iconst 4, 1) := by decide +kernel
theorem dm_Re_instType_76 : decode mm_Re_instType.2.1 76 = .ok (.iload_n 2, 1) := by decide +kernel
theorem dm_Re_instType_77 : decode mm_Re_instType.2.1 77 = .ok (.imul, 1) := by decide +kernel
theorem dm_Re_instType_78 : decode mm_Re_instType.2.1 78 = .ok (.iload_n 3, 1) := by decide +kernel
theorem dm_Re_instType_79 : decode mm_Re_instType.2.1 79 = .ok (.iadd, 1) := by decide +kernel
theorem dm_Re_instType_80 : decode mm_Re_instType.2.1 80 = .ok (.iaload, 1) := by decide +kernel
theorem dm_Re_instType_81 : decode mm_Re_instType.2.1 81 = .ok (.iadd, 1) := by decide +kernel
theorem dm_Re_instType_82 : decode mm_Re_instType.2.1 82 = .ok (.iconst 2, 1) := by decide +kernel
theorem dm_Re_instType_83 : decode mm_Re_instType.2.1 83 = .ok (.iload_n 1, 1) := by decide +kernel
theorem dm_Re_instType_84 : decode mm_Re_instType.2.1 84 = .ok (.iadd, 1) := by decide +kernel
theorem dm_Re_instType_85 : decode mm_Re_instType.2.1 85 = .ok (.aload_n 0, 1) := by decide +kernel
theorem dm_Re_instType_86 : decode mm_Re_instType.2.1 86 = .ok (.iconst 1, 1) := by decide +kernel
theorem dm_Re_instType_87 : decode mm_Re_instType.2.1 87 = .ok (.invokevirtual 94, 3) := by decide +kernel
theorem dm_Re_instType_90 : decode mm_Re_instType.2.1 90 = .ok (.aload_n 0, 1) := by decide +kernel
theorem dm_Re_instType_91 : decode mm_Re_instType.2.1 91 = .ok (.iconst 1, 1) := by decide +kernel
theorem dm_Re_instType_92 : decode mm_Re_instType.2.1 92 = .ok (.invokevirtual 97, 3) := by decide +kernel
theorem dm_Re_instType_95 : decode mm_Re_instType.2.1 95 = .ok (.invokevirtual 179, 3) := by decide +kernel
theorem dm_Re_instType_98 : decode mm_Re_instType.2.1 98 = .ok (.iload_n 3, 1) := by decide +kernel
theorem dm_Re_instType_99 : decode mm_Re_instType.2.1 99 = .ok (.ifCond .ne 13, 3) := by decide +kernel
theorem dm_Re_instType_102 : decode mm_Re_instType.2.1 102 = .ok (.aload_n 0, 1) := by decide +kernel
theorem dm_Re_instType_103 : decode mm_Re_instType.2.1 103 = .ok (.iconst 0, 1) := by decide +kernel
theorem dm_Re_instType_104 : decode mm_Re_instType.2.1 104 = .ok (.iload 4, 2) := by decide +kernel
theorem dm_Re_instType_106 : decode mm_Re_instType.2.1 106 = .ok (.invokevirtual 66, 3) := by decide +kernel
theorem dm_Re_instType_109 : decode mm_Re_instType.2.1 109 = .ok (.goto 9, 3) := by decide +kernel
theorem dm_Re_instType_112 : decode mm_Re_instType.2.1 112 = .ok (.aload_n 0, 1) := by decide +kernel
theorem dm_Re_instType_113 : decode mm_Re_instType.2.1 113 = .ok (.iload 4, 2) := by decide +kernel
theorem dm_Re_instType_115 : decode mm_Re_instType.2.1 115 = .ok (.invokevirtual 73, 3) := by decide +kernel
theorem dm_Re_instType_118 : decode mm_Re_instType.2.1 118 = .ok (.aload_n 0, 1) := by decide +kernel
theorem dm_Re_instType_119 : decode mm_Re_instType.2.1 119 = .ok (.iload 4, 2) := by decide +kernel
theorem dm_Re_instType_121 : decode mm_Re_instType.2.1 121 = .ok (.putfield 28, 3) := by decide +kernel
theorem dm_Re_instType_124 : decode mm_Re_instType.2.1 124 = .ok (.iinc 3 1, 3) := by decide +kernel
theorem dm_Re_instType_127 : decode mm_Re_instType.2.1 127 = .ok (.goto (-84), 3) := by decide +kernel
theorem dm_Re_instType_130 : decode mm_Re_instType.2.1 130 = .ok (.aload_n 0, 1) := by decide +kernel
theorem dm_Re_instType_131 : decode mm_Re_instType.2.1 131 = .ok (.iconst 2, 1) := by decide +kernel
theorem dm_Re_instType_132 : decode mm_Re_instType.2.1 132 = .ok (.invokevirtual 91, 3) := by decide +kernel
theorem dm_Re_instType_135 : decode mm_Re_instType.2.1 135 = .ok (.ireturn, 1) := by decide +kernel
theorem dm_Re_keep_0 : decode mm_Re_keep.2.1 0 = .ok (.aload_n 0, 1) := by decide +kernel
theorem dm_Re_keep_1 : decode mm_Re_keep.2.1 1 = .ok (.getfield 79, 3) := by decide +kernel
theorem dm_Re_keep_4 : decode mm_Re_keep.2.1 4 = .ok (.ifCond .ne 5, 3) := by decide +kernel
theorem dm_Re_keep_7 : decode mm_Re_keep.2.1 7 = .ok (.iconst 1, 1) := by decide +kernel
theorem dm_Re_keep_8 : decode mm_Re_keep.2.1 8 = .ok (.ireturn, 1) := by decide +kernel
theorem dm_Re_keep_9 : decode mm_Re_keep.2.1 9 = .ok (.iload_n 1, 1) := by decide +kernel
theorem dm_Re_keep_10 : decode mm_Re_keep.2.1 10 = .ok (.ifCond .lt 8, 3) := by decide +kernel
theorem dm_Re_keep_13 : decode mm_Re_keep.2.1 13 = .ok (.iload_n 1, 1) := by decide +kernel
theorem dm_Re_keep_14 : decode mm_Re_keep.2.1 14 = .ok (.iconst 5, 1) := by decide +kernel
theorem dm_Re_keep_15 : decode mm_Re_keep.2.1 15 = .ok (.if_icmp .le 5, 3) := by decide +kernel
theorem dm_Re_keep_18 : decode mm_Re_keep.2.1 18 = .ok (.iconst 2, 1) := by decide +kernel
theorem dm_Re_keep_19 : decode mm_Re_keep.2.1 19 = .ok (.ireturn, 1) := by decide +kernel
theorem dm_Re_keep_20 : decode mm_Re_keep.2.1 20 = .ok (.aload_n 0, 1) := by decide +kernel
theorem dm_Re_keep_21 : decode mm_Re_keep.2.1 21 = .ok (.getfield 76, 3) := by decide +kernel
theorem dm_Re_keep_24 : decode mm_Re_keep.2.1 24 = .ok (.bipush 120, 2) := by decide +kernel
theorem dm_Re_keep_26 : decode mm_Re_keep.2.1 26 = .ok (.if_icmp .ne 5, 3) := by decide +kernel
theorem dm_Re_keep_29 : decode mm_Re_keep.2.1 29 = .ok (.iconst 4, 1) := by decide +kernel
theorem dm_Re_keep_30 : decode mm_Re_keep.2.1 30 = .ok (.ireturn, 1) := by decide +kernel
theorem dm_Re_keep_31 : decode mm_Re_keep.2.1 31 = .ok (.aload_n 0, 1) := by decide +kernel
theorem dm_Re_keep_32 : decode mm_Re_keep.2.1 32 = .ok (.dup, 1) := by decide +kernel
theorem dm_Re_keep_33 : decode mm_Re_keep.2.1 33 = .ok (.getfield 76, 3) := by decide +kernel
theorem dm_Re_keep_36 : decode mm_Re_keep.2.1 36 = .ok (.iconst 1, 1) := by decide +kernel
theorem dm_Re_keep_37 : decode mm_Re_keep.2.1 37 = .ok (.iadd, 1) := by decide +kernel
theorem dm_Re_keep_38 : decode mm_Re_keep.2.1 38 = .ok (.putfield 76, 3) := by decide +kernel
theorem dm_Re_keep_41 : decode mm_Re_keep.2.1 41 = .ok (.aload_n 0, 1) := by decide +kernel
theorem dm_Re_keep_42 : decode mm_Re_keep.2.1 42 = .ok (.aload_n 0, 1) := by decide +kernel
theorem dm_Re_keep_43 : decode mm_Re_keep.2.1 43 = .ok (.getfield 79, 3) := by decide +kernel
theorem dm_Re_keep_46 : decode mm_Re_keep.2.1 46 = .ok (.iconst 1, 1) := by decide +kernel
theorem dm_Re_keep_47 : decode mm_Re_keep.2.1 47 = .ok (.isub, 1) := by decide +kernel
theorem dm_Re_keep_48 : decode mm_Re_keep.2.1 48 = .ok (.bipush 12, 2) := by decide +kernel
theorem dm_Re_keep_50 : decode mm_Re_keep.2.1 50 = .ok (.iload_n 1, 1) := by decide +kernel
theorem dm_Re_keep_51 : decode mm_Re_keep.2.1 51 = .ok (.iadd, 1) := by decide +kernel
theorem dm_Re_keep_52 : decode mm_Re_keep.2.1 52 = .ok (.invokevirtual 82, 3) := by decide +kernel
theorem dm_Re_keep_55 : decode mm_Re_keep.2.1 55 = .ok (.iconst 0, 1) := by decide +kernel
theorem dm_Re_keep_56 : decode mm_Re_keep.2.1 56 = .ok (.ireturn, 1) := by decide +kernel
theorem dm_Re_fetch_0 : decode mm_Re_fetch.2.1 0 = .ok (.iload_n 1, 1) := by decide +kernel
theorem dm_Re_fetch_1 : decode mm_Re_fetch.2.1 1 = .ok (.ifCond .lt 20, 3) := by decide +kernel
theorem dm_Re_fetch_4 : decode mm_Re_fetch.2.1 4 = .ok (.iload_n 1, 1) := by decide +kernel
theorem dm_Re_fetch_5 : decode mm_Re_fetch.2.1 5 = .ok (.iconst 5, 1) := by decide +kernel
theorem dm_Re_fetch_6 : decode mm_Re_fetch.2.1 6 = .ok (.if_icmp .gt 15, 3) := by decide +kernel
theorem dm_Re_fetch_9 : decode mm_Re_fetch.2.1 9 = .ok (.aload_n 0, 1) := by decide +kernel
theorem dm_Re_fetch_10 : decode mm_Re_fetch.2.1 10 = .ok (.getfield 16, 3) := by decide +kernel
theorem dm_Re_fetch_13 : decode mm_Re_fetch.2.1 13 = .ok (.bipush 12, 2) := by decide +kernel
theorem dm_Re_fetch_15 : decode mm_Re_fetch.2.1 15 = .ok (.iload_n 1, 1) := by decide +kernel
theorem dm_Re_fetch_16 : decode mm_Re_fetch.2.1 16 = .ok (.iadd, 1) := by decide +kernel
theorem dm_Re_fetch_17 : decode mm_Re_fetch.2.1 17 = .ok (.iaload, 1) := by decide +kernel
theorem dm_Re_fetch_18 : decode mm_Re_fetch.2.1 18 = .ok (.ifCond .ge 5, 3) := by decide +kernel
theorem dm_Re_fetch_21 : decode mm_Re_fetch.2.1 21 = .ok (.iconst 2, 1) := by decide +kernel
theorem dm_Re_fetch_22 : decode mm_Re_fetch.2.1 22 = .ok (.ireturn, 1) := by decide +kernel
theorem dm_Re_fetch_23 : decode mm_Re_fetch.2.1 23 = .ok (.aload_n 0, 1) := by decide +kernel
theorem dm_Re_fetch_24 : decode mm_Re_fetch.2.1 24 = .ok (.getfield 79, 3) := by decide +kernel
theorem dm_Re_fetch_27 : decode mm_Re_fetch.2.1 27 = .ok (.bipush 12, 2) := by decide +kernel
theorem dm_Re_fetch_29 : decode mm_Re_fetch.2.1 29 = .ok (.if_icmp .eq 12, 3) := by decide +kernel
theorem dm_Re_fetch_32 : decode mm_Re_fetch.2.1 32 = .ok (.aload_n 0, 1) := by decide +kernel
theorem dm_Re_fetch_33 : decode mm_Re_fetch.2.1 33 = .ok (.getfield 76, 3) := by decide +kernel
theorem dm_Re_fetch_36 : decode mm_Re_fetch.2.1 36 = .ok (.bipush 120, 2) := by decide +kernel
theorem dm_Re_fetch_38 : decode mm_Re_fetch.2.1 38 = .ok (.if_icmp .ne 5, 3) := by decide +kernel
theorem dm_Re_fetch_41 : decode mm_Re_fetch.2.1 41 = .ok (.iconst 4, 1) := by decide +kernel
theorem dm_Re_fetch_42 : decode mm_Re_fetch.2.1 42 = .ok (.ireturn, 1) := by decide +kernel
theorem dm_Re_fetch_43 : decode mm_Re_fetch.2.1 43 = .ok (.aload_n 0, 1) := by decide +kernel
theorem dm_Re_fetch_44 : decode mm_Re_fetch.2.1 44 = .ok (.dup, 1) := by decide +kernel
theorem dm_Re_fetch_45 : decode mm_Re_fetch.2.1 45 = .ok (.getfield 76, 3) := by decide +kernel
theorem dm_Re_fetch_48 : decode mm_Re_fetch.2.1 48 = .ok (.iconst 1, 1) := by decide +kernel
theorem dm_Re_fetch_49 : decode mm_Re_fetch.2.1 49 = .ok (.iadd, 1) := by decide +kernel
theorem dm_Re_fetch_50 : decode mm_Re_fetch.2.1 50 = .ok (.putfield 76, 3) := by decide +kernel
theorem dm_Re_fetch_53 : decode mm_Re_fetch.2.1 53 = .ok (.aload_n 0, 1) := by decide +kernel
theorem dm_Re_fetch_54 : decode mm_Re_fetch.2.1 54 = .ok (.bipush 12, 2) := by decide +kernel
theorem dm_Re_fetch_56 : decode mm_Re_fetch.2.1 56 = .ok (.iload_n 1, 1) := by decide +kernel
theorem dm_Re_fetch_57 : decode mm_Re_fetch.2.1 57 = .ok (.iadd, 1) := by decide +kernel
theorem dm_Re_fetch_58 : decode mm_Re_fetch.2.1 58 = .ok (.aload_n 0, 1) := by decide +kernel
theorem dm_Re_fetch_59 : decode mm_Re_fetch.2.1 59 = .ok (.getfield 79, 3) := by decide +kernel
theorem dm_Re_fetch_62 : decode mm_Re_fetch.2.1 62 = .ok (.invokevirtual 82, 3) := by decide +kernel
theorem dm_Re_fetch_65 : decode mm_Re_fetch.2.1 65 = .ok (.aload_n 0, 1) := by decide +kernel
theorem dm_Re_fetch_66 : decode mm_Re_fetch.2.1 66 = .ok (.dup, 1) := by decide +kernel
theorem dm_Re_fetch_67 : decode mm_Re_fetch.2.1 67 = .ok (.getfield 79, 3) := by decide +kernel
theorem dm_Re_fetch_70 : decode mm_Re_fetch.2.1 70 = .ok (.iconst 1, 1) := by decide +kernel
theorem dm_Re_fetch_71 : decode mm_Re_fetch.2.1 71 = .ok (.iadd, 1) := by decide +kernel
theorem dm_Re_fetch_72 : decode mm_Re_fetch.2.1 72 = .ok (.putfield 79, 3) := by decide +kernel
theorem dm_Re_fetch_75 : decode mm_Re_fetch.2.1 75 = .ok (.iconst 0, 1) := by decide +kernel
theorem dm_Re_fetch_76 : decode mm_Re_fetch.2.1 76 = .ok (.ireturn, 1) := by decide +kernel
theorem dm_Re_pop_0 : decode mm_Re_pop.2.1 0 = .ok (.aload_n 0, 1) := by decide +kernel
theorem dm_Re_pop_1 : decode mm_Re_pop.2.1 1 = .ok (.getfield 79, 3) := by decide +kernel
theorem dm_Re_pop_4 : decode mm_Re_pop.2.1 4 = .ok (.ifCond .ne 5, 3) := by decide +kernel
theorem dm_Re_pop_7 : decode mm_Re_pop.2.1 7 = .ok (.iconst 1, 1) := by decide +kernel
theorem dm_Re_pop_8 : decode mm_Re_pop.2.1 8 = .ok (.ireturn, 1) := by decide +kernel
theorem dm_Re_pop_9 : decode mm_Re_pop.2.1 9 = .ok (.aload_n 0, 1) := by decide +kernel
theorem dm_Re_pop_10 : decode mm_Re_pop.2.1 10 = .ok (.getfield 76, 3) := by decide +kernel
theorem dm_Re_pop_13 : decode mm_Re_pop.2.1 13 = .ok (.bipush 120, 2) := by decide +kernel
theorem dm_Re_pop_15 : decode mm_Re_pop.2.1 15 = .ok (.if_icmp .ne 5, 3) := by decide +kernel
theorem dm_Re_pop_18 : decode mm_Re_pop.2.1 18 = .ok (.iconst 4, 1) := by decide +kernel
theorem dm_Re_pop_19 : decode mm_Re_pop.2.1 19 = .ok (.ireturn, 1) := by decide +kernel
theorem dm_Re_pop_20 : decode mm_Re_pop.2.1 20 = .ok (.aload_n 0, 1) := by decide +kernel
theorem dm_Re_pop_21 : decode mm_Re_pop.2.1 21 = .ok (.dup, 1) := by decide +kernel
theorem dm_Re_pop_22 : decode mm_Re_pop.2.1 22 = .ok (.getfield 76, 3) := by decide +kernel
theorem dm_Re_pop_25 : decode mm_Re_pop.2.1 25 = .ok (.iconst 1, 1) := by decide +kernel
theorem dm_Re_pop_26 : decode mm_Re_pop.2.1 26 = .ok (.iadd, 1) := by decide +kernel
theorem dm_Re_pop_27 : decode mm_Re_pop.2.1 27 = .ok (.putfield 76, 3) := by decide +kernel
theorem dm_Re_pop_30 : decode mm_Re_pop.2.1 30 = .ok (.aload_n 0, 1) := by decide +kernel
theorem dm_Re_pop_31 : decode mm_Re_pop.2.1 31 = .ok (.dup, 1) := by decide +kernel
theorem dm_Re_pop_32 : decode mm_Re_pop.2.1 32 = .ok (.getfield 79, 3) := by decide +kernel
theorem dm_Re_pop_35 : decode mm_Re_pop.2.1 35 = .ok (.iconst 1, 1) := by decide +kernel
theorem dm_Re_pop_36 : decode mm_Re_pop.2.1 36 = .ok (.isub, 1) := by decide +kernel
theorem dm_Re_pop_37 : decode mm_Re_pop.2.1 37 = .ok (.putfield 79, 3) := by decide +kernel
theorem dm_Re_pop_40 : decode mm_Re_pop.2.1 40 = .ok (.iconst 0, 1) := by decide +kernel
theorem dm_Re_pop_41 : decode mm_Re_pop.2.1 41 = .ok (.ireturn, 1) := by decide +kernel
theorem dm_Re_export_0 : decode mm_Re_export.2.1 0 = .ok (.aload_n 0, 1) := by decide +kernel
theorem dm_Re_export_1 : decode mm_Re_export.2.1 1 = .ok (.iconst 0, 1) := by decide +kernel
theorem dm_Re_export_2 : decode mm_Re_export.2.1 2 = .ok (.invokevirtual 85, 3) := by decide +kernel
theorem dm_Re_export_5 : decode mm_Re_export.2.1 5 = .ok (.iconst 2, 1) := by decide +kernel
theorem dm_Re_export_6 : decode mm_Re_export.2.1 6 = .ok (.if_icmp .eq 5, 3) := by decide +kernel
theorem dm_Re_export_9 : decode mm_Re_export.2.1 9 = .ok (.iconst 1, 1) := by decide +kernel
theorem dm_Re_export_10 : decode mm_Re_export.2.1 10 = .ok (.ireturn, 1) := by decide +kernel
theorem dm_Re_export_11 : decode mm_Re_export.2.1 11 = .ok (.aload_n 0, 1) := by decide +kernel
theorem dm_Re_export_12 : decode mm_Re_export.2.1 12 = .ok (.getfield 182, 3) := by decide +kernel
theorem dm_Re_export_15 : decode mm_Re_export.2.1 15 = .ok (.iconst 5, 1) := by decide +kernel
theorem dm_Re_export_16 : decode mm_Re_export.2.1 16 = .ok (.if_icmp .eq 12, 3) := by decide +kernel
theorem dm_Re_export_19 : decode mm_Re_export.2.1 19 = .ok (.aload_n 0, 1) := by decide +kernel
theorem dm_Re_export_20 : decode mm_Re_export.2.1 20 = .ok (.getfield 76, 3) := by decide +kernel
theorem dm_Re_export_23 : decode mm_Re_export.2.1 23 = .ok (.bipush 120, 2) := by decide +kernel
theorem dm_Re_export_25 : decode mm_Re_export.2.1 25 = .ok (.if_icmp .ne 5, 3) := by decide +kernel
theorem dm_Re_export_28 : decode mm_Re_export.2.1 28 = .ok (.iconst 4, 1) := by decide +kernel
theorem dm_Re_export_29 : decode mm_Re_export.2.1 29 = .ok (.ireturn, 1) := by decide +kernel
theorem dm_Re_export_30 : decode mm_Re_export.2.1 30 = .ok (.aload_n 0, 1) := by decide +kernel
theorem dm_Re_export_31 : decode mm_Re_export.2.1 31 = .ok (.dup, 1) := by decide +kernel
theorem dm_Re_export_32 : decode mm_Re_export.2.1 32 = .ok (.getfield 76, 3) := by decide +kernel
theorem dm_Re_export_35 : decode mm_Re_export.2.1 35 = .ok (.iconst 1, 1) := by decide +kernel
theorem dm_Re_export_36 : decode mm_Re_export.2.1 36 = .ok (.iadd, 1) := by decide +kernel
theorem dm_Re_export_37 : decode mm_Re_export.2.1 37 = .ok (.putfield 76, 3) := by decide +kernel
theorem dm_Re_export_40 : decode mm_Re_export.2.1 40 = .ok (.aload_n 0, 1) := by decide +kernel
theorem dm_Re_export_41 : decode mm_Re_export.2.1 41 = .ok (.aload_n 0, 1) := by decide +kernel
theorem dm_Re_export_42 : decode mm_Re_export.2.1 42 = .ok (.getfield 79, 3) := by decide +kernel
theorem dm_Re_export_45 : decode mm_Re_export.2.1 45 = .ok (.iconst 1, 1) := by decide +kernel
theorem dm_Re_export_46 : decode mm_Re_export.2.1 46 = .ok (.isub, 1) := by decide +kernel
theorem dm_Re_export_47 : decode mm_Re_export.2.1 47 = .ok (.bipush 23, 2) := by decide +kernel
theorem dm_Re_export_49 : decode mm_Re_export.2.1 49 = .ok (.aload_n 0, 1) := by decide +kernel
theorem dm_Re_export_50 : decode mm_Re_export.2.1 50 = .ok (.getfield 182, 3) := by decide +kernel
theorem dm_Re_export_53 : decode mm_Re_export.2.1 53 = .ok (.iadd, 1) := by decide +kernel
theorem dm_Re_export_54 : decode mm_Re_export.2.1 54 = .ok (.invokevirtual 82, 3) := by decide +kernel
theorem dm_Re_export_57 : decode mm_Re_export.2.1 57 = .ok (.aload_n 0, 1) := by decide +kernel
theorem dm_Re_export_58 : decode mm_Re_export.2.1 58 = .ok (.dup, 1) := by decide +kernel
theorem dm_Re_export_59 : decode mm_Re_export.2.1 59 = .ok (.getfield 182, 3) := by decide +kernel
theorem dm_Re_export_62 : decode mm_Re_export.2.1 62 = .ok (.iconst 1, 1) := by decide +kernel
theorem dm_Re_export_63 : decode mm_Re_export.2.1 63 = .ok (.iadd, 1) := by decide +kernel
theorem dm_Re_export_64 : decode mm_Re_export.2.1 64 = .ok (.putfield 182, 3) := by decide +kernel
theorem dm_Re_export_67 : decode mm_Re_export.2.1 67 = .ok (.aload_n 0, 1) := by decide +kernel
theorem dm_Re_export_68 : decode mm_Re_export.2.1 68 = .ok (.dup, 1) := by decide +kernel
theorem dm_Re_export_69 : decode mm_Re_export.2.1 69 = .ok (.getfield 79, 3) := by decide +kernel
theorem dm_Re_export_72 : decode mm_Re_export.2.1 72 = .ok (.iconst 1, 1) := by decide +kernel
theorem dm_Re_export_73 : decode mm_Re_export.2.1 73 = .ok (.isub, 1) := by decide +kernel
theorem dm_Re_export_74 : decode mm_Re_export.2.1 74 = .ok (.putfield 79, 3) := by decide +kernel
theorem dm_Re_export_77 : decode mm_Re_export.2.1 77 = .ok (.iconst 0, 1) := by decide +kernel
theorem dm_Re_export_78 : decode mm_Re_export.2.1 78 = .ok (.ireturn, 1) := by decide +kernel
theorem dm_Re_count_0 : decode mm_Re_count.2.1 0 = .ok (.iload_n 1, 1) := by decide +kernel
theorem dm_Re_count_1 : decode mm_Re_count.2.1 1 = .ok (.tableswitch 60 0 4 #[35, 40, 45, 50, 55], 35) := by decide +kernel
theorem dm_Re_count_36 : decode mm_Re_count.2.1 36 = .ok (.aload_n 0, 1) := by decide +kernel
theorem dm_Re_count_37 : decode mm_Re_count.2.1 37 = .ok (.getfield 79, 3) := by decide +kernel
theorem dm_Re_count_40 : decode mm_Re_count.2.1 40 = .ok (.ireturn, 1) := by decide +kernel
theorem dm_Re_count_41 : decode mm_Re_count.2.1 41 = .ok (.aload_n 0, 1) := by decide +kernel
theorem dm_Re_count_42 : decode mm_Re_count.2.1 42 = .ok (.getfield 152, 3) := by decide +kernel
theorem dm_Re_count_45 : decode mm_Re_count.2.1 45 = .ok (.ireturn, 1) := by decide +kernel
theorem dm_Re_count_46 : decode mm_Re_count.2.1 46 = .ok (.aload_n 0, 1) := by decide +kernel
theorem dm_Re_count_47 : decode mm_Re_count.2.1 47 = .ok (.getfield 182, 3) := by decide +kernel
theorem dm_Re_count_50 : decode mm_Re_count.2.1 50 = .ok (.ireturn, 1) := by decide +kernel
theorem dm_Re_count_51 : decode mm_Re_count.2.1 51 = .ok (.aload_n 0, 1) := by decide +kernel
theorem dm_Re_count_52 : decode mm_Re_count.2.1 52 = .ok (.getfield 103, 3) := by decide +kernel
theorem dm_Re_count_55 : decode mm_Re_count.2.1 55 = .ok (.ireturn, 1) := by decide +kernel
theorem dm_Re_count_56 : decode mm_Re_count.2.1 56 = .ok (.aload_n 0, 1) := by decide +kernel
theorem dm_Re_count_57 : decode mm_Re_count.2.1 57 = .ok (.getfield 76, 3) := by decide +kernel
theorem dm_Re_count_60 : decode mm_Re_count.2.1 60 = .ok (.ireturn, 1) := by decide +kernel
theorem dm_Re_count_61 : decode mm_Re_count.2.1 61 = .ok (.iconst (-1), 1) := by decide +kernel
theorem dm_Re_count_62 : decode mm_Re_count.2.1 62 = .ok (.ireturn, 1) := by decide +kernel
theorem dm_Re_at_0 : decode mm_Re_at.2.1 0 = .ok (.iload_n 1, 1) := by decide +kernel
theorem dm_Re_at_1 : decode mm_Re_at.2.1 1 = .ok (.ifCond .lt 20, 3) := by decide +kernel
theorem dm_Re_at_4 : decode mm_Re_at.2.1 4 = .ok (.iload_n 1, 1) := by decide +kernel
theorem dm_Re_at_5 : decode mm_Re_at.2.1 5 = .ok (.aload_n 0, 1) := by decide +kernel
theorem dm_Re_at_6 : decode mm_Re_at.2.1 6 = .ok (.getfield 79, 3) := by decide +kernel
theorem dm_Re_at_9 : decode mm_Re_at.2.1 9 = .ok (.if_icmp .ge 12, 3) := by decide +kernel
theorem dm_Re_at_12 : decode mm_Re_at.2.1 12 = .ok (.aload_n 0, 1) := by decide +kernel
theorem dm_Re_at_13 : decode mm_Re_at.2.1 13 = .ok (.getfield 79, 3) := by decide +kernel
theorem dm_Re_at_16 : decode mm_Re_at.2.1 16 = .ok (.iconst 1, 1) := by decide +kernel
theorem dm_Re_at_17 : decode mm_Re_at.2.1 17 = .ok (.isub, 1) := by decide +kernel
theorem dm_Re_at_18 : decode mm_Re_at.2.1 18 = .ok (.iload_n 1, 1) := by decide +kernel
theorem dm_Re_at_19 : decode mm_Re_at.2.1 19 = .ok (.isub, 1) := by decide +kernel
theorem dm_Re_at_20 : decode mm_Re_at.2.1 20 = .ok (.ireturn, 1) := by decide +kernel
theorem dm_Re_at_21 : decode mm_Re_at.2.1 21 = .ok (.iload_n 1, 1) := by decide +kernel
theorem dm_Re_at_22 : decode mm_Re_at.2.1 22 = .ok (.bipush 100, 2) := by decide +kernel
theorem dm_Re_at_24 : decode mm_Re_at.2.1 24 = .ok (.if_icmp .lt 30, 3) := by decide +kernel
theorem dm_Re_at_27 : decode mm_Re_at.2.1 27 = .ok (.iload_n 1, 1) := by decide +kernel
theorem dm_Re_at_28 : decode mm_Re_at.2.1 28 = .ok (.bipush 106, 2) := by decide +kernel
theorem dm_Re_at_30 : decode mm_Re_at.2.1 30 = .ok (.if_icmp .ge 24, 3) := by decide +kernel
theorem dm_Re_at_33 : decode mm_Re_at.2.1 33 = .ok (.aload_n 0, 1) := by decide +kernel
theorem dm_Re_at_34 : decode mm_Re_at.2.1 34 = .ok (.getfield 16, 3) := by decide +kernel
theorem dm_Re_at_37 : decode mm_Re_at.2.1 37 = .ok (.iload_n 1, 1) := by decide +kernel
theorem dm_Re_at_38 : decode mm_Re_at.2.1 38 = .ok (.bipush 88, 2) := by decide +kernel
theorem dm_Re_at_40 : decode mm_Re_at.2.1 40 = .ok (.isub, 1) := by decide +kernel
theorem dm_Re_at_41 : decode mm_Re_at.2.1 41 = .ok (.iaload, 1) := by decide +kernel
theorem dm_Re_at_42 : decode mm_Re_at.2.1 42 = .ok (.ifCond .ge 7, 3) := by decide +kernel
theorem dm_Re_at_45 : decode mm_Re_at.2.1 45 = .ok (.iconst (-1), 1) := by decide +kernel
theorem dm_Re_at_46 : decode mm_Re_at.2.1 46 = .ok (.goto 7, 3) := by decide +kernel
theorem dm_Re_at_49 : decode mm_Re_at.2.1 49 = .ok (.iload_n 1, 1) := by decide +kernel
theorem dm_Re_at_50 : decode mm_Re_at.2.1 50 = .ok (.bipush 88, 2) := by decide +kernel
theorem dm_Re_at_52 : decode mm_Re_at.2.1 52 = .ok (.isub, 1) := by decide +kernel
theorem dm_Re_at_53 : decode mm_Re_at.2.1 53 = .ok (.ireturn, 1) := by decide +kernel
theorem dm_Re_at_54 : decode mm_Re_at.2.1 54 = .ok (.iload_n 1, 1) := by decide +kernel
theorem dm_Re_at_55 : decode mm_Re_at.2.1 55 = .ok (.sipush 200, 3) := by decide +kernel
theorem dm_Re_at_58 : decode mm_Re_at.2.1 58 = .ok (.if_icmp .lt 21, 3) := by decide +kernel
theorem dm_Re_at_61 : decode mm_Re_at.2.1 61 = .ok (.iload_n 1, 1) := by decide +kernel
theorem dm_Re_at_62 : decode mm_Re_at.2.1 62 = .ok (.sipush 200, 3) := by decide +kernel
theorem dm_Re_at_65 : decode mm_Re_at.2.1 65 = .ok (.aload_n 0, 1) := by decide +kernel
theorem dm_Re_at_66 : decode mm_Re_at.2.1 66 = .ok (.getfield 152, 3) := by decide +kernel
theorem dm_Re_at_69 : decode mm_Re_at.2.1 69 = .ok (.iadd, 1) := by decide +kernel
theorem dm_Re_at_70 : decode mm_Re_at.2.1 70 = .ok (.if_icmp .ge 9, 3) := by decide +kernel
theorem dm_Re_at_73 : decode mm_Re_at.2.1 73 = .ok (.iload_n 1, 1) := by decide +kernel
theorem dm_Re_at_74 : decode mm_Re_at.2.1 74 = .ok (.sipush 182, 3) := by decide +kernel
theorem dm_Re_at_77 : decode mm_Re_at.2.1 77 = .ok (.isub, 1) := by decide +kernel
theorem dm_Re_at_78 : decode mm_Re_at.2.1 78 = .ok (.ireturn, 1) := by decide +kernel
theorem dm_Re_at_79 : decode mm_Re_at.2.1 79 = .ok (.iload_n 1, 1) := by decide +kernel
theorem dm_Re_at_80 : decode mm_Re_at.2.1 80 = .ok (.sipush 300, 3) := by decide +kernel
theorem dm_Re_at_83 : decode mm_Re_at.2.1 83 = .ok (.if_icmp .lt 23, 3) := by decide +kernel
theorem dm_Re_at_86 : decode mm_Re_at.2.1 86 = .ok (.iload_n 1, 1) := by decide +kernel
theorem dm_Re_at_87 : decode mm_Re_at.2.1 87 = .ok (.sipush 300, 3) := by decide +kernel
theorem dm_Re_at_90 : decode mm_Re_at.2.1 90 = .ok (.aload_n 0, 1) := by decide +kernel
theorem dm_Re_at_91 : decode mm_Re_at.2.1 91 = .ok (.getfield 182, 3) := by decide +kernel
theorem dm_Re_at_94 : decode mm_Re_at.2.1 94 = .ok (.iadd, 1) := by decide +kernel
theorem dm_Re_at_95 : decode mm_Re_at.2.1 95 = .ok (.if_icmp .ge 11, 3) := by decide +kernel
theorem dm_Re_at_98 : decode mm_Re_at.2.1 98 = .ok (.iload_n 1, 1) := by decide +kernel
theorem dm_Re_at_99 : decode mm_Re_at.2.1 99 = .ok (.sipush 277, 3) := by decide +kernel
theorem dm_Re_at_102 : decode mm_Re_at.2.1 102 = .ok (.isub, 1) := by decide +kernel
theorem dm_Re_at_103 : decode mm_Re_at.2.1 103 = .ok (.goto 4, 3) := by decide +kernel
theorem dm_Re_at_106 : decode mm_Re_at.2.1 106 = .ok (.iconst (-1), 1) := by decide +kernel
theorem dm_Re_at_107 : decode mm_Re_at.2.1 107 = .ok (.ireturn, 1) := by decide +kernel
theorem dm_Re_kind_0 : decode mm_Re_kind.2.1 0 = .ok (.aload_n 0, 1) := by decide +kernel
theorem dm_Re_kind_1 : decode mm_Re_kind.2.1 1 = .ok (.iload_n 1, 1) := by decide +kernel
theorem dm_Re_kind_2 : decode mm_Re_kind.2.1 2 = .ok (.invokevirtual 185, 3) := by decide +kernel
theorem dm_Re_kind_5 : decode mm_Re_kind.2.1 5 = .ok (.istore_n 2, 1) := by decide +kernel
theorem dm_Re_kind_6 : decode mm_Re_kind.2.1 6 = .ok (.iload_n 2, 1) := by decide +kernel
theorem dm_Re_kind_7 : decode mm_Re_kind.2.1 7 = .ok (.ifCond .ge 7, 3) := by decide +kernel
theorem dm_Re_kind_10 : decode mm_Re_kind.2.1 10 = .ok (.iconst (-1), 1) := by decide +kernel
theorem dm_Re_kind_11 : decode mm_Re_kind.2.1 11 = .ok (.goto 9, 3) := by decide +kernel
theorem dm_Re_kind_14 : decode mm_Re_kind.2.1 14 = .ok (.aload_n 0, 1) := by decide +kernel
theorem dm_Re_kind_15 : decode mm_Re_kind.2.1 15 = .ok (.getfield 16, 3) := by decide +kernel
theorem dm_Re_kind_18 : decode mm_Re_kind.2.1 18 = .ok (.iload_n 2, 1) := by decide +kernel
theorem dm_Re_kind_19 : decode mm_Re_kind.2.1 19 = .ok (.iaload, 1) := by decide +kernel
theorem dm_Re_kind_20 : decode mm_Re_kind.2.1 20 = .ok (.ireturn, 1) := by decide +kernel
theorem dm_Re_hypotheses_0 : decode mm_Re_hypotheses.2.1 0 = .ok (.aload_n 0, 1) := by decide +kernel
theorem dm_Re_hypotheses_1 : decode mm_Re_hypotheses.2.1 1 = .ok (.iload_n 1, 1) := by decide +kernel
theorem dm_Re_hypotheses_2 : decode mm_Re_hypotheses.2.1 2 = .ok (.invokevirtual 185, 3) := by decide +kernel
theorem dm_Re_hypotheses_5 : decode mm_Re_hypotheses.2.1 5 = .ok (.istore_n 2, 1) := by decide +kernel
theorem dm_Re_hypotheses_6 : decode mm_Re_hypotheses.2.1 6 = .ok (.iload_n 2, 1) := by decide +kernel
theorem dm_Re_hypotheses_7 : decode mm_Re_hypotheses.2.1 7 = .ok (.ifCond .lt 13, 3) := by decide +kernel
theorem dm_Re_hypotheses_10 : decode mm_Re_hypotheses.2.1 10 = .ok (.aload_n 0, 1) := by decide +kernel
theorem dm_Re_hypotheses_11 : decode mm_Re_hypotheses.2.1 11 = .ok (.getfield 16, 3) := by decide +kernel
theorem dm_Re_hypotheses_14 : decode mm_Re_hypotheses.2.1 14 = .ok (.iload_n 2, 1) := by decide +kernel
theorem dm_Re_hypotheses_15 : decode mm_Re_hypotheses.2.1 15 = .ok (.iaload, 1) := by decide +kernel
theorem dm_Re_hypotheses_16 : decode mm_Re_hypotheses.2.1 16 = .ok (.iconst 2, 1) := by decide +kernel
theorem dm_Re_hypotheses_17 : decode mm_Re_hypotheses.2.1 17 = .ok (.if_icmp .eq 7, 3) := by decide +kernel
theorem dm_Re_hypotheses_20 : decode mm_Re_hypotheses.2.1 20 = .ok (.iconst (-1), 1) := by decide +kernel
theorem dm_Re_hypotheses_21 : decode mm_Re_hypotheses.2.1 21 = .ok (.goto 9, 3) := by decide +kernel
theorem dm_Re_hypotheses_24 : decode mm_Re_hypotheses.2.1 24 = .ok (.aload_n 0, 1) := by decide +kernel
theorem dm_Re_hypotheses_25 : decode mm_Re_hypotheses.2.1 25 = .ok (.getfield 19, 3) := by decide +kernel
theorem dm_Re_hypotheses_28 : decode mm_Re_hypotheses.2.1 28 = .ok (.iload_n 2, 1) := by decide +kernel
theorem dm_Re_hypotheses_29 : decode mm_Re_hypotheses.2.1 29 = .ok (.iaload, 1) := by decide +kernel
theorem dm_Re_hypotheses_30 : decode mm_Re_hypotheses.2.1 30 = .ok (.ireturn, 1) := by decide +kernel
theorem dm_Re_length_0 : decode mm_Re_length.2.1 0 = .ok (.aload_n 0, 1) := by decide +kernel
theorem dm_Re_length_1 : decode mm_Re_length.2.1 1 = .ok (.iload_n 1, 1) := by decide +kernel
theorem dm_Re_length_2 : decode mm_Re_length.2.1 2 = .ok (.invokevirtual 185, 3) := by decide +kernel
theorem dm_Re_length_5 : decode mm_Re_length.2.1 5 = .ok (.istore_n 3, 1) := by decide +kernel
theorem dm_Re_length_6 : decode mm_Re_length.2.1 6 = .ok (.iload_n 3, 1) := by decide +kernel
theorem dm_Re_length_7 : decode mm_Re_length.2.1 7 = .ok (.ifCond .lt 17, 3) := by decide +kernel
theorem dm_Re_length_10 : decode mm_Re_length.2.1 10 = .ok (.iload_n 2, 1) := by decide +kernel
theorem dm_Re_length_11 : decode mm_Re_length.2.1 11 = .ok (.ifCond .lt 13, 3) := by decide +kernel
theorem dm_Re_length_14 : decode mm_Re_length.2.1 14 = .ok (.iload_n 2, 1) := by decide +kernel
theorem dm_Re_length_15 : decode mm_Re_length.2.1 15 = .ok (.aload_n 0, 1) := by decide +kernel
theorem dm_Re_length_16 : decode mm_Re_length.2.1 16 = .ok (.getfield 19, 3) := by decide +kernel
theorem dm_Re_length_19 : decode mm_Re_length.2.1 19 = .ok (.iload_n 3, 1) := by decide +kernel
theorem dm_Re_length_20 : decode mm_Re_length.2.1 20 = .ok (.iaload, 1) := by decide +kernel
theorem dm_Re_length_21 : decode mm_Re_length.2.1 21 = .ok (.if_icmp .le 7, 3) := by decide +kernel
theorem dm_Re_length_24 : decode mm_Re_length.2.1 24 = .ok (.iconst (-1), 1) := by decide +kernel
theorem dm_Re_length_25 : decode mm_Re_length.2.1 25 = .ok (.goto 13, 3) := by decide +kernel
theorem dm_Re_length_28 : decode mm_Re_length.2.1 28 = .ok (.aload_n 0, 1) := by decide +kernel
theorem dm_Re_length_29 : decode mm_Re_length.2.1 29 = .ok (.getfield 13, 3) := by decide +kernel
theorem dm_Re_length_32 : decode mm_Re_length.2.1 32 = .ok (.iconst 4, 1) := by decide +kernel
theorem dm_Re_length_33 : decode mm_Re_length.2.1 33 = .ok (.iload_n 3, 1) := by decide +kernel
theorem dm_Re_length_34 : decode mm_Re_length.2.1 34 = .ok (.imul, 1) := by decide +kernel
theorem dm_Re_length_35 : decode mm_Re_length.2.1 35 = .ok (.iload_n 2, 1) := by decide +kernel
theorem dm_Re_length_36 : decode mm_Re_length.2.1 36 = .ok (.iadd, 1) := by decide +kernel
theorem dm_Re_length_37 : decode mm_Re_length.2.1 37 = .ok (.iaload, 1) := by decide +kernel
theorem dm_Re_length_38 : decode mm_Re_length.2.1 38 = .ok (.ireturn, 1) := by decide +kernel
theorem dm_Re_symbol_0 : decode mm_Re_symbol.2.1 0 = .ok (.aload_n 0, 1) := by decide +kernel
theorem dm_Re_symbol_1 : decode mm_Re_symbol.2.1 1 = .ok (.iload_n 1, 1) := by decide +kernel
theorem dm_Re_symbol_2 : decode mm_Re_symbol.2.1 2 = .ok (.iload_n 2, 1) := by decide +kernel
theorem dm_Re_symbol_3 : decode mm_Re_symbol.2.1 3 = .ok (.invokevirtual 188, 3) := by decide +kernel
theorem dm_Re_symbol_6 : decode mm_Re_symbol.2.1 6 = .ok (.istore 4, 2) := by decide +kernel
theorem dm_Re_symbol_8 : decode mm_Re_symbol.2.1 8 = .ok (.aload_n 0, 1) := by decide +kernel
theorem dm_Re_symbol_9 : decode mm_Re_symbol.2.1 9 = .ok (.iload_n 1, 1) := by decide +kernel
theorem dm_Re_symbol_10 : decode mm_Re_symbol.2.1 10 = .ok (.invokevirtual 185, 3) := by decide +kernel
theorem dm_Re_symbol_13 : decode mm_Re_symbol.2.1 13 = .ok (.istore 5, 2) := by decide +kernel
theorem dm_Re_symbol_15 : decode mm_Re_symbol.2.1 15 = .ok (.iload_n 3, 1) := by decide +kernel
theorem dm_Re_symbol_16 : decode mm_Re_symbol.2.1 16 = .ok (.ifCond .lt 9, 3) := by decide +kernel
theorem dm_Re_symbol_19 : decode mm_Re_symbol.2.1 19 = .ok (.iload_n 3, 1) := by decide +kernel
theorem dm_Re_symbol_20 : decode mm_Re_symbol.2.1 20 = .ok (.iload 4, 2) := by decide +kernel
theorem dm_Re_symbol_22 : decode mm_Re_symbol.2.1 22 = .ok (.if_icmp .lt 7, 3) := by decide +kernel
theorem dm_Re_symbol_25 : decode mm_Re_symbol.2.1 25 = .ok (.iconst (-1), 1) := by decide +kernel
theorem dm_Re_symbol_26 : decode mm_Re_symbol.2.1 26 = .ok (.goto 16, 3) := by decide +kernel
theorem dm_Re_symbol_29 : decode mm_Re_symbol.2.1 29 = .ok (.aload_n 0, 1) := by decide +kernel
theorem dm_Re_symbol_30 : decode mm_Re_symbol.2.1 30 = .ok (.getfield 7, 3) := by decide +kernel
theorem dm_Re_symbol_33 : decode mm_Re_symbol.2.1 33 = .ok (.iload 5, 2) := by decide +kernel
theorem dm_Re_symbol_35 : decode mm_Re_symbol.2.1 35 = .ok (.iload_n 2, 1) := by decide +kernel
theorem dm_Re_symbol_36 : decode mm_Re_symbol.2.1 36 = .ok (.invokestatic 54, 3) := by decide +kernel
theorem dm_Re_symbol_39 : decode mm_Re_symbol.2.1 39 = .ok (.iload_n 3, 1) := by decide +kernel
theorem dm_Re_symbol_40 : decode mm_Re_symbol.2.1 40 = .ok (.iadd, 1) := by decide +kernel
theorem dm_Re_symbol_41 : decode mm_Re_symbol.2.1 41 = .ok (.iaload, 1) := by decide +kernel
theorem dm_Re_symbol_42 : decode mm_Re_symbol.2.1 42 = .ok (.ireturn, 1) := by decide +kernel
