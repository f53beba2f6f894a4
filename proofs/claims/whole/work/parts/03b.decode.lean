theorem dX9_init_0 : decode cX9_init 0 = .ok (.aload_n 0, 1) := by decide +kernel
theorem dX9_init_1 : decode cX9_init 1 = .ok (.invokespecial 1, 3) := by decide +kernel
theorem dX9_init_4 : decode cX9_init 4 = .ok (.aload_n 0, 1) := by decide +kernel
theorem dX9_init_5 : decode cX9_init 5 = .ok (.new 7, 3) := by decide +kernel
theorem dX9_init_8 : decode cX9_init 8 = .ok (.dup, 1) := by decide +kernel
theorem dX9_init_9 : decode cX9_init 9 = .ok (.invokespecial 9, 3) := by decide +kernel
theorem dX9_init_12 : decode cX9_init 12 = .ok (.putfield 10, 3) := by decide +kernel
theorem dX9_init_15 : decode cX9_init 15 = .ok (.aload_n 0, 1) := by decide +kernel
theorem dX9_init_16 : decode cX9_init 16 = .ok (.new 7, 3) := by decide +kernel
theorem dX9_init_19 : decode cX9_init 19 = .ok (.dup, 1) := by decide +kernel
theorem dX9_init_20 : decode cX9_init 20 = .ok (.invokespecial 9, 3) := by decide +kernel
theorem dX9_init_23 : decode cX9_init 23 = .ok (.putfield 16, 3) := by decide +kernel
theorem dX9_init_26 : decode cX9_init 26 = .ok (.aload_n 0, 1) := by decide +kernel
theorem dX9_init_27 : decode cX9_init 27 = .ok (.new 7, 3) := by decide +kernel
theorem dX9_init_30 : decode cX9_init 30 = .ok (.dup, 1) := by decide +kernel
theorem dX9_init_31 : decode cX9_init 31 = .ok (.invokespecial 9, 3) := by decide +kernel
theorem dX9_init_34 : decode cX9_init 34 = .ok (.putfield 19, 3) := by decide +kernel
theorem dX9_init_37 : decode cX9_init 37 = .ok (.aload_n 0, 1) := by decide +kernel
theorem dX9_init_38 : decode cX9_init 38 = .ok (.iconst 0, 1) := by decide +kernel
theorem dX9_init_39 : decode cX9_init 39 = .ok (.putfield 22, 3) := by decide +kernel
theorem dX9_init_42 : decode cX9_init 42 = .ok (.aload_n 0, 1) := by decide +kernel
theorem dX9_init_43 : decode cX9_init 43 = .ok (.new 26, 3) := by decide +kernel
theorem dX9_init_46 : decode cX9_init 46 = .ok (.dup, 1) := by decide +kernel
theorem dX9_init_47 : decode cX9_init 47 = .ok (.invokespecial 28, 3) := by decide +kernel
theorem dX9_init_50 : decode cX9_init 50 = .ok (.putfield 29, 3) := by decide +kernel
theorem dX9_init_53 : decode cX9_init 53 = .ok (.aload_n 0, 1) := by decide +kernel
theorem dX9_init_54 : decode cX9_init 54 = .ok (.new 33, 3) := by decide +kernel
theorem dX9_init_57 : decode cX9_init 57 = .ok (.dup, 1) := by decide +kernel
theorem dX9_init_58 : decode cX9_init 58 = .ok (.invokespecial 35, 3) := by decide +kernel
theorem dX9_init_61 : decode cX9_init 61 = .ok (.putfield 36, 3) := by decide +kernel
theorem dX9_init_64 : decode cX9_init 64 = .ok (.aload_n 0, 1) := by decide +kernel
theorem dX9_init_65 : decode cX9_init 65 = .ok (.new 40, 3) := by decide +kernel
theorem dX9_init_68 : decode cX9_init 68 = .ok (.dup, 1) := by decide +kernel
theorem dX9_init_69 : decode cX9_init 69 = .ok (.invokespecial 42, 3) := by decide +kernel
theorem dX9_init_72 : decode cX9_init 72 = .ok (.putfield 43, 3) := by decide +kernel
theorem dX9_init_75 : decode cX9_init 75 = .ok (.aload_n 0, 1) := by decide +kernel
theorem dX9_init_76 : decode cX9_init 76 = .ok (.bipush 10, 2) := by decide +kernel
theorem dX9_init_78 : decode cX9_init 78 = .ok (.newarray .int, 2) := by decide +kernel
theorem dX9_init_80 : decode cX9_init 80 = .ok (.putfield 47, 3) := by decide +kernel
theorem dX9_init_83 : decode cX9_init 83 = .ok (.aload_n 0, 1) := by decide +kernel
theorem dX9_init_84 : decode cX9_init 84 = .ok (.iconst 4, 1) := by decide +kernel
theorem dX9_init_85 : decode cX9_init 85 = .ok (.anewarray 51, 3) := by decide +kernel
theorem dX9_init_88 : decode cX9_init 88 = .ok (.putfield 53, 3) := by decide +kernel
theorem dX9_init_91 : decode cX9_init 91 = .ok (.iconst 0, 1) := by decide +kernel
theorem dX9_init_92 : decode cX9_init 92 = .ok (.istore_n 1, 1) := by decide +kernel
theorem dX9_init_93 : decode cX9_init 93 = .ok (.iload_n 1, 1) := by decide +kernel
theorem dX9_init_94 : decode cX9_init 94 = .ok (.iconst 4, 1) := by decide +kernel
theorem dX9_init_95 : decode cX9_init 95 = .ok (.if_icmp .ge 22, 3) := by decide +kernel
theorem dX9_init_98 : decode cX9_init 98 = .ok (.aload_n 0, 1) := by decide +kernel
theorem dX9_init_99 : decode cX9_init 99 = .ok (.getfield 53, 3) := by decide +kernel
theorem dX9_init_102 : decode cX9_init 102 = .ok (.iload_n 1, 1) := by decide +kernel
theorem dX9_init_103 : decode cX9_init 103 = .ok (.new 51, 3) := by decide +kernel
theorem dX9_init_106 : decode cX9_init 106 = .ok (.dup, 1) := by decide +kernel
theorem dX9_init_107 : decode cX9_init 107 = .ok (.invokespecial 57, 3) := by decide +kernel
theorem dX9_init_110 : decode cX9_init 110 = .ok (.aastore, 1) := by decide +kernel
theorem dX9_init_111 : decode cX9_init 111 = .ok (.iinc 1 1, 3) := by decide +kernel
theorem dX9_init_114 : decode cX9_init 114 = .ok (.goto (-21), 3) := by decide +kernel
theorem dX9_init_117 : decode cX9_init 117 = .ok (.iconst 0, 1) := by decide +kernel
theorem dX9_init_118 : decode cX9_init 118 = .ok (.istore_n 1, 1) := by decide +kernel
theorem dX9_init_119 : decode cX9_init 119 = .ok (.iload_n 1, 1) := by decide +kernel
theorem dX9_init_120 : decode cX9_init 120 = .ok (.ldc 58, 2) := by decide +kernel
theorem dX9_init_122 : decode cX9_init 122 = .ok (.invokevirtual 60, 3) := by decide +kernel
theorem dX9_init_125 : decode cX9_init 125 = .ok (.if_icmp .ge 20, 3) := by decide +kernel
theorem dX9_init_128 : decode cX9_init 128 = .ok (.aload_n 0, 1) := by decide +kernel
theorem dX9_init_129 : decode cX9_init 129 = .ok (.ldc 58, 2) := by decide +kernel
theorem dX9_init_131 : decode cX9_init 131 = .ok (.iload_n 1, 1) := by decide +kernel
theorem dX9_init_132 : decode cX9_init 132 = .ok (.invokevirtual 66, 3) := by decide +kernel
theorem dX9_init_135 : decode cX9_init 135 = .ok (.invokevirtual 70, 3) := by decide +kernel
theorem dX9_init_138 : decode cX9_init 138 = .ok (.pop, 1) := by decide +kernel
theorem dX9_init_139 : decode cX9_init 139 = .ok (.iinc 1 1, 3) := by decide +kernel
theorem dX9_init_142 : decode cX9_init 142 = .ok (.goto (-23), 3) := by decide +kernel
theorem dX9_init_145 : decode cX9_init 145 = .ok (.aload_n 0, 1) := by decide +kernel
theorem dX9_init_146 : decode cX9_init 146 = .ok (.invokevirtual 74, 3) := by decide +kernel
theorem dX9_init_149 : decode cX9_init 149 = .ok (.pop, 1) := by decide +kernel
theorem dX9_init_150 : decode cX9_init 150 = .ok (.return_, 1) := by decide +kernel
theorem dX9_set_0 : decode cX9_set 0 = .ok (.aload_n 0, 1) := by decide +kernel
theorem dX9_set_1 : decode cX9_set 1 = .ok (.iload_n 1, 1) := by decide +kernel
theorem dX9_set_2 : decode cX9_set 2 = .ok (.iload_n 2, 1) := by decide +kernel
theorem dX9_set_3 : decode cX9_set 3 = .ok (.invokevirtual 77, 3) := by decide +kernel
theorem dX9_set_6 : decode cX9_set 6 = .ok (.ifCond .eq 21, 3) := by decide +kernel
theorem dX9_set_9 : decode cX9_set 9 = .ok (.iload_n 3, 1) := by decide +kernel
theorem dX9_set_10 : decode cX9_set 10 = .ok (.getstatic 81, 3) := by decide +kernel
theorem dX9_set_13 : decode cX9_set 13 = .ok (.iload_n 1, 1) := by decide +kernel
theorem dX9_set_14 : decode cX9_set 14 = .ok (.iaload, 1) := by decide +kernel
theorem dX9_set_15 : decode cX9_set 15 = .ok (.if_icmp .lt 12, 3) := by decide +kernel
theorem dX9_set_18 : decode cX9_set 18 = .ok (.iload_n 3, 1) := by decide +kernel
theorem dX9_set_19 : decode cX9_set 19 = .ok (.getstatic 84, 3) := by decide +kernel
theorem dX9_set_22 : decode cX9_set 22 = .ok (.iload_n 1, 1) := by decide +kernel
theorem dX9_set_23 : decode cX9_set 23 = .ok (.iaload, 1) := by decide +kernel
theorem dX9_set_24 : decode cX9_set 24 = .ok (.if_icmp .le 6, 3) := by decide +kernel
theorem dX9_set_27 : decode cX9_set 27 = .ok (.ldc 87, 2) := by decide +kernel
theorem dX9_set_29 : decode cX9_set 29 = .ok (.ireturn, 1) := by decide +kernel
theorem dX9_set_30 : decode cX9_set 30 = .ok (.aload_n 0, 1) := by decide +kernel
theorem dX9_set_31 : decode cX9_set 31 = .ok (.iload_n 1, 1) := by decide +kernel
theorem dX9_set_32 : decode cX9_set 32 = .ok (.iload_n 2, 1) := by decide +kernel
theorem dX9_set_33 : decode cX9_set 33 = .ok (.invokevirtual 88, 3) := by decide +kernel
theorem dX9_set_36 : decode cX9_set 36 = .ok (.istore 4, 2) := by decide +kernel
theorem dX9_set_38 : decode cX9_set 38 = .ok (.aload_n 0, 1) := by decide +kernel
theorem dX9_set_39 : decode cX9_set 39 = .ok (.iload_n 1, 1) := by decide +kernel
theorem dX9_set_40 : decode cX9_set 40 = .ok (.iload_n 2, 1) := by decide +kernel
theorem dX9_set_41 : decode cX9_set 41 = .ok (.iload_n 3, 1) := by decide +kernel
theorem dX9_set_42 : decode cX9_set 42 = .ok (.invokevirtual 92, 3) := by decide +kernel
theorem dX9_set_45 : decode cX9_set 45 = .ok (.iload 4, 2) := by decide +kernel
theorem dX9_set_47 : decode cX9_set 47 = .ok (.ireturn, 1) := by decide +kernel
theorem dX9_person_0 : decode cX9_person 0 = .ok (.iload_n 1, 1) := by decide +kernel
theorem dX9_person_1 : decode cX9_person 1 = .ok (.ifCond .lt 19, 3) := by decide +kernel
theorem dX9_person_4 : decode cX9_person 4 = .ok (.iload_n 1, 1) := by decide +kernel
theorem dX9_person_5 : decode cX9_person 5 = .ok (.bipush 6, 2) := by decide +kernel
theorem dX9_person_7 : decode cX9_person 7 = .ok (.if_icmp .ge 13, 3) := by decide +kernel
theorem dX9_person_10 : decode cX9_person 10 = .ok (.iload_n 2, 1) := by decide +kernel
theorem dX9_person_11 : decode cX9_person 11 = .ok (.ifCond .lt 9, 3) := by decide +kernel
theorem dX9_person_14 : decode cX9_person 14 = .ok (.iload_n 2, 1) := by decide +kernel
theorem dX9_person_15 : decode cX9_person 15 = .ok (.bipush 10, 2) := by decide +kernel
theorem dX9_person_17 : decode cX9_person 17 = .ok (.if_icmp .lt 6, 3) := by decide +kernel
theorem dX9_person_20 : decode cX9_person 20 = .ok (.bipush (-2), 2) := by decide +kernel
theorem dX9_person_22 : decode cX9_person 22 = .ok (.ireturn, 1) := by decide +kernel
theorem dX9_person_23 : decode cX9_person 23 = .ok (.aload_n 0, 1) := by decide +kernel
theorem dX9_person_24 : decode cX9_person 24 = .ok (.getfield 10, 3) := by decide +kernel
theorem dX9_person_27 : decode cX9_person 27 = .ok (.iload_n 1, 1) := by decide +kernel
theorem dX9_person_28 : decode cX9_person 28 = .ok (.iload_n 2, 1) := by decide +kernel
theorem dX9_person_29 : decode cX9_person 29 = .ok (.invokevirtual 96, 3) := by decide +kernel
theorem dX9_person_32 : decode cX9_person 32 = .ok (.ireturn, 1) := by decide +kernel
theorem dX9_told_0 : decode cX9_told 0 = .ok (.iload_n 2, 1) := by decide +kernel
theorem dX9_told_1 : decode cX9_told 1 = .ok (.bipush 6, 2) := by decide +kernel
theorem dX9_told_3 : decode cX9_told 3 = .ok (.if_icmp .gt 24, 3) := by decide +kernel
theorem dX9_told_6 : decode cX9_told 6 = .ok (.aload_n 0, 1) := by decide +kernel
theorem dX9_told_7 : decode cX9_told 7 = .ok (.iload_n 2, 1) := by decide +kernel
theorem dX9_told_8 : decode cX9_told 8 = .ok (.iload_n 1, 1) := by decide +kernel
theorem dX9_told_9 : decode cX9_told 9 = .ok (.invokevirtual 77, 3) := by decide +kernel
theorem dX9_told_12 : decode cX9_told 12 = .ok (.ifCond .eq 12, 3) := by decide +kernel
theorem dX9_told_15 : decode cX9_told 15 = .ok (.aload_n 0, 1) := by decide +kernel
theorem dX9_told_16 : decode cX9_told 16 = .ok (.iload_n 2, 1) := by decide +kernel
theorem dX9_told_17 : decode cX9_told 17 = .ok (.iload_n 1, 1) := by decide +kernel
theorem dX9_told_18 : decode cX9_told 18 = .ok (.invokevirtual 88, 3) := by decide +kernel
theorem dX9_told_21 : decode cX9_told 21 = .ok (.goto 5, 3) := by decide +kernel
theorem dX9_told_24 : decode cX9_told 24 = .ok (.ldc 87, 2) := by decide +kernel
theorem dX9_told_26 : decode cX9_told 26 = .ok (.ireturn, 1) := by decide +kernel
theorem dX9_told_27 : decode cX9_told 27 = .ok (.iload_n 2, 1) := by decide +kernel
theorem dX9_told_28 : decode cX9_told 28 = .ok (.bipush 11, 2) := by decide +kernel
theorem dX9_told_30 : decode cX9_told 30 = .ok (.if_icmp .ne 28, 3) := by decide +kernel
theorem dX9_told_33 : decode cX9_told 33 = .ok (.iload_n 1, 1) := by decide +kernel
theorem dX9_told_34 : decode cX9_told 34 = .ok (.invokestatic 99, 3) := by decide +kernel
theorem dX9_told_37 : decode cX9_told 37 = .ok (.ifCond .eq 18, 3) := by decide +kernel
theorem dX9_told_40 : decode cX9_told 40 = .ok (.aload_n 0, 1) := by decide +kernel
theorem dX9_told_41 : decode cX9_told 41 = .ok (.getfield 36, 3) := by decide +kernel
theorem dX9_told_44 : decode cX9_told 44 = .ok (.aload_n 0, 1) := by decide +kernel
theorem dX9_told_45 : decode cX9_told 45 = .ok (.getfield 10, 3) := by decide +kernel
theorem dX9_told_48 : decode cX9_told 48 = .ok (.iload_n 1, 1) := by decide +kernel
theorem dX9_told_49 : decode cX9_told 49 = .ok (.invokevirtual 103, 3) := by decide +kernel
theorem dX9_told_52 : decode cX9_told 52 = .ok (.goto 5, 3) := by decide +kernel
theorem dX9_told_55 : decode cX9_told 55 = .ok (.ldc 87, 2) := by decide +kernel
theorem dX9_told_57 : decode cX9_told 57 = .ok (.ireturn, 1) := by decide +kernel
theorem dX9_told_58 : decode cX9_told 58 = .ok (.aload_n 0, 1) := by decide +kernel
theorem dX9_told_59 : decode cX9_told 59 = .ok (.getfield 10, 3) := by decide +kernel
theorem dX9_told_62 : decode cX9_told 62 = .ok (.iload_n 1, 1) := by decide +kernel
theorem dX9_told_63 : decode cX9_told 63 = .ok (.invokevirtual 107, 3) := by decide +kernel
theorem dX9_told_66 : decode cX9_told 66 = .ok (.ifCond .ne 6, 3) := by decide +kernel
theorem dX9_told_69 : decode cX9_told 69 = .ok (.ldc 87, 2) := by decide +kernel
theorem dX9_told_71 : decode cX9_told 71 = .ok (.ireturn, 1) := by decide +kernel
theorem dX9_told_72 : decode cX9_told 72 = .ok (.iload_n 2, 1) := by decide +kernel
theorem dX9_told_73 : decode cX9_told 73 = .ok (.bipush 20, 2) := by decide +kernel
theorem dX9_told_75 : decode cX9_told 75 = .ok (.isub, 1) := by decide +kernel
theorem dX9_told_76 : decode cX9_told 76 = .ok (.invokestatic 99, 3) := by decide +kernel
theorem dX9_told_79 : decode cX9_told 79 = .ok (.ifCond .eq 20, 3) := by decide +kernel
theorem dX9_told_82 : decode cX9_told 82 = .ok (.aload_n 0, 1) := by decide +kernel
theorem dX9_told_83 : decode cX9_told 83 = .ok (.getfield 36, 3) := by decide +kernel
theorem dX9_told_86 : decode cX9_told 86 = .ok (.aload_n 0, 1) := by decide +kernel
theorem dX9_told_87 : decode cX9_told 87 = .ok (.getfield 10, 3) := by decide +kernel
theorem dX9_told_90 : decode cX9_told 90 = .ok (.iload_n 1, 1) := by decide +kernel
theorem dX9_told_91 : decode cX9_told 91 = .ok (.iload_n 2, 1) := by decide +kernel
theorem dX9_told_92 : decode cX9_told 92 = .ok (.bipush 20, 2) := by decide +kernel
theorem dX9_told_94 : decode cX9_told 94 = .ok (.isub, 1) := by decide +kernel
theorem dX9_told_95 : decode cX9_told 95 = .ok (.invokevirtual 110, 3) := by decide +kernel
theorem dX9_told_98 : decode cX9_told 98 = .ok (.ireturn, 1) := by decide +kernel
theorem dX9_told_99 : decode cX9_told 99 = .ok (.iload_n 2, 1) := by decide +kernel
theorem dX9_told_100 : decode cX9_told 100 = .ok (.bipush 30, 2) := by decide +kernel
theorem dX9_told_102 : decode cX9_told 102 = .ok (.isub, 1) := by decide +kernel
theorem dX9_told_103 : decode cX9_told 103 = .ok (.invokestatic 99, 3) := by decide +kernel
theorem dX9_told_106 : decode cX9_told 106 = .ok (.ifCond .eq 20, 3) := by decide +kernel
theorem dX9_told_109 : decode cX9_told 109 = .ok (.aload_n 0, 1) := by decide +kernel
theorem dX9_told_110 : decode cX9_told 110 = .ok (.getfield 36, 3) := by decide +kernel
theorem dX9_told_113 : decode cX9_told 113 = .ok (.aload_n 0, 1) := by decide +kernel
theorem dX9_told_114 : decode cX9_told 114 = .ok (.getfield 10, 3) := by decide +kernel
theorem dX9_told_117 : decode cX9_told 117 = .ok (.iload_n 1, 1) := by decide +kernel
theorem dX9_told_118 : decode cX9_told 118 = .ok (.iload_n 2, 1) := by decide +kernel
theorem dX9_told_119 : decode cX9_told 119 = .ok (.bipush 30, 2) := by decide +kernel
theorem dX9_told_121 : decode cX9_told 121 = .ok (.isub, 1) := by decide +kernel
theorem dX9_told_122 : decode cX9_told 122 = .ok (.invokevirtual 114, 3) := by decide +kernel
theorem dX9_told_125 : decode cX9_told 125 = .ok (.ireturn, 1) := by decide +kernel
theorem dX9_told_126 : decode cX9_told 126 = .ok (.iload_n 2, 1) := by decide +kernel
theorem dX9_told_127 : decode cX9_told 127 = .ok (.tableswitch 86 7 10 #[29, 39, 52, 73], 29) := by decide +kernel
theorem dX9_told_156 : decode cX9_told 156 = .ok (.aload_n 0, 1) := by decide +kernel
theorem dX9_told_157 : decode cX9_told 157 = .ok (.getfield 10, 3) := by decide +kernel
theorem dX9_told_160 : decode cX9_told 160 = .ok (.getfield 117, 3) := by decide +kernel
theorem dX9_told_163 : decode cX9_told 163 = .ok (.iload_n 1, 1) := by decide +kernel
theorem dX9_told_164 : decode cX9_told 164 = .ok (.iaload, 1) := by decide +kernel
theorem dX9_told_165 : decode cX9_told 165 = .ok (.ireturn, 1) := by decide +kernel
theorem dX9_told_166 : decode cX9_told 166 = .ok (.aload_n 0, 1) := by decide +kernel
theorem dX9_told_167 : decode cX9_told 167 = .ok (.getfield 36, 3) := by decide +kernel
theorem dX9_told_170 : decode cX9_told 170 = .ok (.aload_n 0, 1) := by decide +kernel
theorem dX9_told_171 : decode cX9_told 171 = .ok (.getfield 10, 3) := by decide +kernel
theorem dX9_told_174 : decode cX9_told 174 = .ok (.iload_n 1, 1) := by decide +kernel
theorem dX9_told_175 : decode cX9_told 175 = .ok (.invokevirtual 120, 3) := by decide +kernel
theorem dX9_told_178 : decode cX9_told 178 = .ok (.ireturn, 1) := by decide +kernel
theorem dX9_told_179 : decode cX9_told 179 = .ok (.aload_n 0, 1) := by decide +kernel
theorem dX9_told_180 : decode cX9_told 180 = .ok (.getfield 36, 3) := by decide +kernel
theorem dX9_told_183 : decode cX9_told 183 = .ok (.aload_n 0, 1) := by decide +kernel
theorem dX9_told_184 : decode cX9_told 184 = .ok (.getfield 10, 3) := by decide +kernel
theorem dX9_told_187 : decode cX9_told 187 = .ok (.iload_n 1, 1) := by decide +kernel
theorem dX9_told_188 : decode cX9_told 188 = .ok (.invokevirtual 123, 3) := by decide +kernel
theorem dX9_told_191 : decode cX9_told 191 = .ok (.ifCond .eq 7, 3) := by decide +kernel
theorem dX9_told_194 : decode cX9_told 194 = .ok (.iconst 1, 1) := by decide +kernel
theorem dX9_told_195 : decode cX9_told 195 = .ok (.goto 4, 3) := by decide +kernel
theorem dX9_told_198 : decode cX9_told 198 = .ok (.iconst 0, 1) := by decide +kernel
theorem dX9_told_199 : decode cX9_told 199 = .ok (.ireturn, 1) := by decide +kernel
theorem dX9_told_200 : decode cX9_told 200 = .ok (.aload_n 0, 1) := by decide +kernel
theorem dX9_told_201 : decode cX9_told 201 = .ok (.getfield 36, 3) := by decide +kernel
theorem dX9_told_204 : decode cX9_told 204 = .ok (.aload_n 0, 1) := by decide +kernel
theorem dX9_told_205 : decode cX9_told 205 = .ok (.getfield 10, 3) := by decide +kernel
theorem dX9_told_208 : decode cX9_told 208 = .ok (.iload_n 1, 1) := by decide +kernel
theorem dX9_told_209 : decode cX9_told 209 = .ok (.invokevirtual 127, 3) := by decide +kernel
theorem dX9_told_212 : decode cX9_told 212 = .ok (.ireturn, 1) := by decide +kernel
theorem dX9_told_213 : decode cX9_told 213 = .ok (.ldc 87, 2) := by decide +kernel
theorem dX9_told_215 : decode cX9_told 215 = .ok (.ireturn, 1) := by decide +kernel
theorem dX9_isHour_0 : decode cX9_isHour 0 = .ok (.iload_n 0, 1) := by decide +kernel
theorem dX9_isHour_1 : decode cX9_isHour 1 = .ok (.ifCond .lt 13, 3) := by decide +kernel
theorem dX9_isHour_4 : decode cX9_isHour 4 = .ok (.iload_n 0, 1) := by decide +kernel
theorem dX9_isHour_5 : decode cX9_isHour 5 = .ok (.bipush 8, 2) := by decide +kernel
theorem dX9_isHour_7 : decode cX9_isHour 7 = .ok (.if_icmp .ge 7, 3) := by decide +kernel
theorem dX9_isHour_10 : decode cX9_isHour 10 = .ok (.iconst 1, 1) := by decide +kernel
theorem dX9_isHour_11 : decode cX9_isHour 11 = .ok (.goto 4, 3) := by decide +kernel
theorem dX9_isHour_14 : decode cX9_isHour 14 = .ok (.iconst 0, 1) := by decide +kernel
theorem dX9_isHour_15 : decode cX9_isHour 15 = .ok (.ireturn, 1) := by decide +kernel
theorem dX9_isPlain_0 : decode cX9_isPlain 0 = .ok (.iload_n 1, 1) := by decide +kernel
theorem dX9_isPlain_1 : decode cX9_isPlain 1 = .ok (.tableswitch 59 0 6 #[43, 43, 43, 45, 45, 50, 50], 43) := by decide +kernel
theorem dX9_isPlain_44 : decode cX9_isPlain 44 = .ok (.iconst 1, 1) := by decide +kernel
theorem dX9_isPlain_45 : decode cX9_isPlain 45 = .ok (.ireturn, 1) := by decide +kernel
theorem dX9_isPlain_46 : decode cX9_isPlain 46 = .ok (.iload_n 2, 1) := by decide +kernel
theorem dX9_isPlain_47 : decode cX9_isPlain 47 = .ok (.invokestatic 99, 3) := by decide +kernel
theorem dX9_isPlain_50 : decode cX9_isPlain 50 = .ok (.ireturn, 1) := by decide +kernel
theorem dX9_isPlain_51 : decode cX9_isPlain 51 = .ok (.aload_n 0, 1) := by decide +kernel
theorem dX9_isPlain_52 : decode cX9_isPlain 52 = .ok (.getfield 10, 3) := by decide +kernel
theorem dX9_isPlain_55 : decode cX9_isPlain 55 = .ok (.iload_n 2, 1) := by decide +kernel
theorem dX9_isPlain_56 : decode cX9_isPlain 56 = .ok (.invokevirtual 107, 3) := by decide +kernel
theorem dX9_isPlain_59 : decode cX9_isPlain 59 = .ok (.ireturn, 1) := by decide +kernel
theorem dX9_isPlain_60 : decode cX9_isPlain 60 = .ok (.iconst 0, 1) := by decide +kernel
theorem dX9_isPlain_61 : decode cX9_isPlain 61 = .ok (.ireturn, 1) := by decide +kernel
theorem dX9_plain_0 : decode cX9_plain 0 = .ok (.iload_n 1, 1) := by decide +kernel
theorem dX9_plain_1 : decode cX9_plain 1 = .ok (.tableswitch 92 0 5 #[39, 47, 55, 63, 73, 82], 39) := by decide +kernel
theorem dX9_plain_40 : decode cX9_plain 40 = .ok (.aload_n 0, 1) := by decide +kernel
theorem dX9_plain_41 : decode cX9_plain 41 = .ok (.getfield 10, 3) := by decide +kernel
theorem dX9_plain_44 : decode cX9_plain 44 = .ok (.getfield 130, 3) := by decide +kernel
theorem dX9_plain_47 : decode cX9_plain 47 = .ok (.ireturn, 1) := by decide +kernel
theorem dX9_plain_48 : decode cX9_plain 48 = .ok (.aload_n 0, 1) := by decide +kernel
theorem dX9_plain_49 : decode cX9_plain 49 = .ok (.getfield 10, 3) := by decide +kernel
theorem dX9_plain_52 : decode cX9_plain 52 = .ok (.getfield 134, 3) := by decide +kernel
theorem dX9_plain_55 : decode cX9_plain 55 = .ok (.ireturn, 1) := by decide +kernel
theorem dX9_plain_56 : decode cX9_plain 56 = .ok (.aload_n 0, 1) := by decide +kernel
theorem dX9_plain_57 : decode cX9_plain 57 = .ok (.getfield 10, 3) := by decide +kernel
theorem dX9_plain_60 : decode cX9_plain 60 = .ok (.getfield 137, 3) := by decide +kernel
theorem dX9_plain_63 : decode cX9_plain 63 = .ok (.ireturn, 1) := by decide +kernel
theorem dX9_plain_64 : decode cX9_plain 64 = .ok (.aload_n 0, 1) := by decide +kernel
theorem dX9_plain_65 : decode cX9_plain 65 = .ok (.getfield 10, 3) := by decide +kernel
theorem dX9_plain_68 : decode cX9_plain 68 = .ok (.getfield 140, 3) := by decide +kernel
theorem dX9_plain_71 : decode cX9_plain 71 = .ok (.iload_n 2, 1) := by decide +kernel
theorem dX9_plain_72 : decode cX9_plain 72 = .ok (.iaload, 1) := by decide +kernel
theorem dX9_plain_73 : decode cX9_plain 73 = .ok (.ireturn, 1) := by decide +kernel
theorem dX9_plain_74 : decode cX9_plain 74 = .ok (.aload_n 0, 1) := by decide +kernel
theorem dX9_plain_75 : decode cX9_plain 75 = .ok (.getfield 10, 3) := by decide +kernel
theorem dX9_plain_78 : decode cX9_plain 78 = .ok (.iload_n 2, 1) := by decide +kernel
theorem dX9_plain_79 : decode cX9_plain 79 = .ok (.invokevirtual 143, 3) := by decide +kernel
theorem dX9_plain_82 : decode cX9_plain 82 = .ok (.ireturn, 1) := by decide +kernel
theorem dX9_plain_83 : decode cX9_plain 83 = .ok (.aload_n 0, 1) := by decide +kernel
theorem dX9_plain_84 : decode cX9_plain 84 = .ok (.getfield 10, 3) := by decide +kernel
theorem dX9_plain_87 : decode cX9_plain 87 = .ok (.getfield 146, 3) := by decide +kernel
theorem dX9_plain_90 : decode cX9_plain 90 = .ok (.iload_n 2, 1) := by decide +kernel
theorem dX9_plain_91 : decode cX9_plain 91 = .ok (.iaload, 1) := by decide +kernel
theorem dX9_plain_92 : decode cX9_plain 92 = .ok (.ireturn, 1) := by decide +kernel
theorem dX9_plain_93 : decode cX9_plain 93 = .ok (.aload_n 0, 1) := by decide +kernel
theorem dX9_plain_94 : decode cX9_plain 94 = .ok (.getfield 10, 3) := by decide +kernel
theorem dX9_plain_97 : decode cX9_plain 97 = .ok (.getfield 149, 3) := by decide +kernel
theorem dX9_plain_100 : decode cX9_plain 100 = .ok (.iload_n 2, 1) := by decide +kernel
theorem dX9_plain_101 : decode cX9_plain 101 = .ok (.iaload, 1) := by decide +kernel
theorem dX9_plain_102 : decode cX9_plain 102 = .ok (.ireturn, 1) := by decide +kernel
theorem dX9_put_0 : decode cX9_put 0 = .ok (.iload_n 1, 1) := by decide +kernel
theorem dX9_put_1 : decode cX9_put 1 = .ok (.tableswitch 125 0 5 #[39, 50, 61, 72, 85, 112], 39) := by decide +kernel
theorem dX9_put_40 : decode cX9_put 40 = .ok (.aload_n 0, 1) := by decide +kernel
theorem dX9_put_41 : decode cX9_put 41 = .ok (.getfield 10, 3) := by decide +kernel
theorem dX9_put_44 : decode cX9_put 44 = .ok (.iload_n 3, 1) := by decide +kernel
theorem dX9_put_45 : decode cX9_put 45 = .ok (.putfield 130, 3) := by decide +kernel
theorem dX9_put_48 : decode cX9_put 48 = .ok (.goto 88, 3) := by decide +kernel
theorem dX9_put_51 : decode cX9_put 51 = .ok (.aload_n 0, 1) := by decide +kernel
theorem dX9_put_52 : decode cX9_put 52 = .ok (.getfield 10, 3) := by decide +kernel
theorem dX9_put_55 : decode cX9_put 55 = .ok (.iload_n 3, 1) := by decide +kernel
theorem dX9_put_56 : decode cX9_put 56 = .ok (.putfield 134, 3) := by decide +kernel
theorem dX9_put_59 : decode cX9_put 59 = .ok (.goto 77, 3) := by decide +kernel
theorem dX9_put_62 : decode cX9_put 62 = .ok (.aload_n 0, 1) := by decide +kernel
theorem dX9_put_63 : decode cX9_put 63 = .ok (.getfield 10, 3) := by decide +kernel
theorem dX9_put_66 : decode cX9_put 66 = .ok (.iload_n 3, 1) := by decide +kernel
theorem dX9_put_67 : decode cX9_put 67 = .ok (.putfield 137, 3) := by decide +kernel
theorem dX9_put_70 : decode cX9_put 70 = .ok (.goto 66, 3) := by decide +kernel
theorem dX9_put_73 : decode cX9_put 73 = .ok (.aload_n 0, 1) := by decide +kernel
theorem dX9_put_74 : decode cX9_put 74 = .ok (.getfield 10, 3) := by decide +kernel
theorem dX9_put_77 : decode cX9_put 77 = .ok (.getfield 140, 3) := by decide +kernel
theorem dX9_put_80 : decode cX9_put 80 = .ok (.iload_n 2, 1) := by decide +kernel
theorem dX9_put_81 : decode cX9_put 81 = .ok (.iload_n 3, 1) := by decide +kernel
theorem dX9_put_82 : decode cX9_put 82 = .ok (.iastore, 1) := by decide +kernel
theorem dX9_put_83 : decode cX9_put 83 = .ok (.goto 53, 3) := by decide +kernel
theorem dX9_put_86 : decode cX9_put 86 = .ok (.aload_n 0, 1) := by decide +kernel
theorem dX9_put_87 : decode cX9_put 87 = .ok (.getfield 10, 3) := by decide +kernel
theorem dX9_put_90 : decode cX9_put 90 = .ok (.aload_n 0, 1) := by decide +kernel
theorem dX9_put_91 : decode cX9_put 91 = .ok (.getfield 10, 3) := by decide +kernel
theorem dX9_put_94 : decode cX9_put 94 = .ok (.getfield 152, 3) := by decide +kernel
theorem dX9_put_97 : decode cX9_put 97 = .ok (.iconst 1, 1) := by decide +kernel
theorem dX9_put_98 : decode cX9_put 98 = .ok (.iload_n 2, 1) := by decide +kernel
theorem dX9_put_99 : decode cX9_put 99 = .ok (.ishl, 1) := by decide +kernel
theorem dX9_put_100 : decode cX9_put 100 = .ok (.iconst (-1), 1) := by decide +kernel
theorem dX9_put_101 : decode cX9_put 101 = .ok (.ixor, 1) := by decide +kernel
theorem dX9_put_102 : decode cX9_put 102 = .ok (.iand, 1) := by decide +kernel
theorem dX9_put_103 : decode cX9_put 103 = .ok (.iload_n 3, 1) := by decide +kernel
theorem dX9_put_104 : decode cX9_put 104 = .ok (.iload_n 2, 1) := by decide +kernel
theorem dX9_put_105 : decode cX9_put 105 = .ok (.ishl, 1) := by decide +kernel
theorem dX9_put_106 : decode cX9_put 106 = .ok (.ior, 1) := by decide +kernel
theorem dX9_put_107 : decode cX9_put 107 = .ok (.putfield 152, 3) := by decide +kernel
theorem dX9_put_110 : decode cX9_put 110 = .ok (.goto 26, 3) := by decide +kernel
theorem dX9_put_113 : decode cX9_put 113 = .ok (.aload_n 0, 1) := by decide +kernel
theorem dX9_put_114 : decode cX9_put 114 = .ok (.getfield 10, 3) := by decide +kernel
theorem dX9_put_117 : decode cX9_put 117 = .ok (.getfield 146, 3) := by decide +kernel
theorem dX9_put_120 : decode cX9_put 120 = .ok (.iload_n 2, 1) := by decide +kernel
theorem dX9_put_121 : decode cX9_put 121 = .ok (.iload_n 3, 1) := by decide +kernel
theorem dX9_put_122 : decode cX9_put 122 = .ok (.iastore, 1) := by decide +kernel
theorem dX9_put_123 : decode cX9_put 123 = .ok (.goto 13, 3) := by decide +kernel
theorem dX9_put_126 : decode cX9_put 126 = .ok (.aload_n 0, 1) := by decide +kernel
theorem dX9_put_127 : decode cX9_put 127 = .ok (.getfield 10, 3) := by decide +kernel
theorem dX9_put_130 : decode cX9_put 130 = .ok (.getfield 149, 3) := by decide +kernel
theorem dX9_put_133 : decode cX9_put 133 = .ok (.iload_n 2, 1) := by decide +kernel
theorem dX9_put_134 : decode cX9_put 134 = .ok (.iload_n 3, 1) := by decide +kernel
theorem dX9_put_135 : decode cX9_put 135 = .ok (.iastore, 1) := by decide +kernel
theorem dX9_put_136 : decode cX9_put 136 = .ok (.return_, 1) := by decide +kernel
theorem dX9_feed_0 : decode cX9_feed 0 = .ok (.iload_n 1, 1) := by decide +kernel
theorem dX9_feed_1 : decode cX9_feed 1 = .ok (.ifCond .lt 10, 3) := by decide +kernel
theorem dX9_feed_4 : decode cX9_feed 4 = .ok (.iload_n 1, 1) := by decide +kernel
theorem dX9_feed_5 : decode cX9_feed 5 = .ok (.sipush 255, 3) := by decide +kernel
theorem dX9_feed_8 : decode cX9_feed 8 = .ok (.if_icmp .le 6, 3) := by decide +kernel
theorem dX9_feed_11 : decode cX9_feed 11 = .ok (.bipush (-2), 2) := by decide +kernel
theorem dX9_feed_13 : decode cX9_feed 13 = .ok (.ireturn, 1) := by decide +kernel
theorem dX9_feed_14 : decode cX9_feed 14 = .ok (.aload_n 0, 1) := by decide +kernel
theorem dX9_feed_15 : decode cX9_feed 15 = .ok (.getfield 29, 3) := by decide +kernel
theorem dX9_feed_18 : decode cX9_feed 18 = .ok (.iload_n 1, 1) := by decide +kernel
theorem dX9_feed_19 : decode cX9_feed 19 = .ok (.invokevirtual 155, 3) := by decide +kernel
theorem dX9_feed_22 : decode cX9_feed 22 = .ok (.ireturn, 1) := by decide +kernel
theorem dX9_text_0 : decode cX9_text 0 = .ok (.aload_n 0, 1) := by decide +kernel
theorem dX9_text_1 : decode cX9_text 1 = .ok (.getfield 36, 3) := by decide +kernel
theorem dX9_text_4 : decode cX9_text 4 = .ok (.getfield 158, 3) := by decide +kernel
theorem dX9_text_7 : decode cX9_text 7 = .ok (.bipush 6, 2) := by decide +kernel
theorem dX9_text_9 : decode cX9_text 9 = .ok (.if_icmp .lt 6, 3) := by decide +kernel
theorem dX9_text_12 : decode cX9_text 12 = .ok (.bipush (-4), 2) := by decide +kernel
theorem dX9_text_14 : decode cX9_text 14 = .ok (.ireturn, 1) := by decide +kernel
theorem dX9_text_15 : decode cX9_text 15 = .ok (.aload_n 0, 1) := by decide +kernel
theorem dX9_text_16 : decode cX9_text 16 = .ok (.getfield 29, 3) := by decide +kernel
theorem dX9_text_19 : decode cX9_text 19 = .ok (.invokevirtual 161, 3) := by decide +kernel
theorem dX9_text_22 : decode cX9_text 22 = .ok (.astore_n 1, 1) := by decide +kernel
theorem dX9_text_23 : decode cX9_text 23 = .ok (.aload_n 0, 1) := by decide +kernel
theorem dX9_text_24 : decode cX9_text 24 = .ok (.getfield 29, 3) := by decide +kernel
theorem dX9_text_27 : decode cX9_text 27 = .ok (.iconst 0, 1) := by decide +kernel
theorem dX9_text_28 : decode cX9_text 28 = .ok (.putfield 165, 3) := by decide +kernel
theorem dX9_text_31 : decode cX9_text 31 = .ok (.aload_n 1, 1) := by decide +kernel
theorem dX9_text_32 : decode cX9_text 32 = .ok (.ifnonnull 16, 3) := by decide +kernel
theorem dX9_text_35 : decode cX9_text 35 = .ok (.bipush (-100), 2) := by decide +kernel
theorem dX9_text_37 : decode cX9_text 37 = .ok (.aload_n 0, 1) := by decide +kernel
theorem dX9_text_38 : decode cX9_text 38 = .ok (.getfield 29, 3) := by decide +kernel
theorem dX9_text_41 : decode cX9_text 41 = .ok (.getfield 166, 3) := by decide +kernel
theorem dX9_text_44 : decode cX9_text 44 = .ok (.isub, 1) := by decide +kernel
theorem dX9_text_45 : decode cX9_text 45 = .ok (.goto 11, 3) := by decide +kernel
theorem dX9_text_48 : decode cX9_text 48 = .ok (.aload_n 0, 1) := by decide +kernel
theorem dX9_text_49 : decode cX9_text 49 = .ok (.getfield 36, 3) := by decide +kernel
theorem dX9_text_52 : decode cX9_text 52 = .ok (.aload_n 1, 1) := by decide +kernel
theorem dX9_text_53 : decode cX9_text 53 = .ok (.invokevirtual 169, 3) := by decide +kernel
theorem dX9_text_56 : decode cX9_text 56 = .ok (.ireturn, 1) := by decide +kernel
theorem dX9_force_0 : decode cX9_force 0 = .ok (.iload_n 1, 1) := by decide +kernel
theorem dX9_force_1 : decode cX9_force 1 = .ok (.ifCond .lt 14, 3) := by decide +kernel
theorem dX9_force_4 : decode cX9_force 4 = .ok (.iload_n 1, 1) := by decide +kernel
theorem dX9_force_5 : decode cX9_force 5 = .ok (.aload_n 0, 1) := by decide +kernel
theorem dX9_force_6 : decode cX9_force 6 = .ok (.getfield 36, 3) := by decide +kernel
theorem dX9_force_9 : decode cX9_force 9 = .ok (.getfield 158, 3) := by decide +kernel
theorem dX9_force_12 : decode cX9_force 12 = .ok (.if_icmp .lt 6, 3) := by decide +kernel
theorem dX9_force_15 : decode cX9_force 15 = .ok (.bipush (-2), 2) := by decide +kernel
theorem dX9_force_17 : decode cX9_force 17 = .ok (.ireturn, 1) := by decide +kernel
theorem dX9_force_18 : decode cX9_force 18 = .ok (.aload_n 0, 1) := by decide +kernel
theorem dX9_force_19 : decode cX9_force 19 = .ok (.getfield 10, 3) := by decide +kernel
theorem dX9_force_22 : decode cX9_force 22 = .ok (.getfield 173, 3) := by decide +kernel
theorem dX9_force_25 : decode cX9_force 25 = .ok (.istore_n 2, 1) := by decide +kernel
theorem dX9_force_26 : decode cX9_force 26 = .ok (.aload_n 0, 1) := by decide +kernel
theorem dX9_force_27 : decode cX9_force 27 = .ok (.getfield 10, 3) := by decide +kernel
theorem dX9_force_30 : decode cX9_force 30 = .ok (.iload_n 1, 1) := by decide +kernel
theorem dX9_force_31 : decode cX9_force 31 = .ok (.putfield 173, 3) := by decide +kernel
theorem dX9_force_34 : decode cX9_force 34 = .ok (.iload_n 2, 1) := by decide +kernel
theorem dX9_force_35 : decode cX9_force 35 = .ok (.ireturn, 1) := by decide +kernel
theorem dX9_year_0 : decode cX9_year 0 = .ok (.aload_n 0, 1) := by decide +kernel
theorem dX9_year_1 : decode cX9_year 1 = .ok (.getfield 10, 3) := by decide +kernel
theorem dX9_year_4 : decode cX9_year 4 = .ok (.getfield 130, 3) := by decide +kernel
theorem dX9_year_7 : decode cX9_year 7 = .ok (.bipush 99, 2) := by decide +kernel
theorem dX9_year_9 : decode cX9_year 9 = .ok (.if_icmp .lt 6, 3) := by decide +kernel
theorem dX9_year_12 : decode cX9_year 12 = .ok (.ldc 87, 2) := by decide +kernel
theorem dX9_year_14 : decode cX9_year 14 = .ok (.ireturn, 1) := by decide +kernel
theorem dX9_year_15 : decode cX9_year 15 = .ok (.aload_n 0, 1) := by decide +kernel
theorem dX9_year_16 : decode cX9_year 16 = .ok (.getfield 36, 3) := by decide +kernel
theorem dX9_year_19 : decode cX9_year 19 = .ok (.aload_n 0, 1) := by decide +kernel
theorem dX9_year_20 : decode cX9_year 20 = .ok (.getfield 10, 3) := by decide +kernel
theorem dX9_year_23 : decode cX9_year 23 = .ok (.invokevirtual 176, 3) := by decide +kernel
theorem dX9_year_26 : decode cX9_year 26 = .ok (.aload_n 0, 1) := by decide +kernel
theorem dX9_year_27 : decode cX9_year 27 = .ok (.getfield 10, 3) := by decide +kernel
theorem dX9_year_30 : decode cX9_year 30 = .ok (.getfield 137, 3) := by decide +kernel
theorem dX9_year_33 : decode cX9_year 33 = .ok (.ireturn, 1) := by decide +kernel
theorem dX9_right_0 : decode cX9_right 0 = .ok (.iload_n 1, 1) := by decide +kernel
theorem dX9_right_1 : decode cX9_right 1 = .ok (.invokestatic 99, 3) := by decide +kernel
theorem dX9_right_4 : decode cX9_right 4 = .ok (.ifCond .ne 6, 3) := by decide +kernel
theorem dX9_right_7 : decode cX9_right 7 = .ok (.bipush (-2), 2) := by decide +kernel
theorem dX9_right_9 : decode cX9_right 9 = .ok (.ireturn, 1) := by decide +kernel
theorem dX9_right_10 : decode cX9_right 10 = .ok (.aload_n 0, 1) := by decide +kernel
theorem dX9_right_11 : decode cX9_right 11 = .ok (.getfield 10, 3) := by decide +kernel
theorem dX9_right_14 : decode cX9_right 14 = .ok (.iload_n 1, 1) := by decide +kernel
theorem dX9_right_15 : decode cX9_right 15 = .ok (.invokevirtual 143, 3) := by decide +kernel
theorem dX9_right_18 : decode cX9_right 18 = .ok (.iconst 1, 1) := by decide +kernel
theorem dX9_right_19 : decode cX9_right 19 = .ok (.if_icmp .ne 6, 3) := by decide +kernel
theorem dX9_right_22 : decode cX9_right 22 = .ok (.bipush (-3), 2) := by decide +kernel
theorem dX9_right_24 : decode cX9_right 24 = .ok (.ireturn, 1) := by decide +kernel
theorem dX9_right_25 : decode cX9_right 25 = .ok (.aload_n 0, 1) := by decide +kernel
theorem dX9_right_26 : decode cX9_right 26 = .ok (.getfield 36, 3) := by decide +kernel
theorem dX9_right_29 : decode cX9_right 29 = .ok (.aload_n 0, 1) := by decide +kernel
theorem dX9_right_30 : decode cX9_right 30 = .ok (.getfield 10, 3) := by decide +kernel
theorem dX9_right_33 : decode cX9_right 33 = .ok (.iload_n 1, 1) := by decide +kernel
theorem dX9_right_34 : decode cX9_right 34 = .ok (.invokevirtual 103, 3) := by decide +kernel
theorem dX9_right_37 : decode cX9_right 37 = .ok (.istore_n 2, 1) := by decide +kernel
theorem dX9_right_38 : decode cX9_right 38 = .ok (.aload_n 0, 1) := by decide +kernel
theorem dX9_right_39 : decode cX9_right 39 = .ok (.getfield 10, 3) := by decide +kernel
theorem dX9_right_42 : decode cX9_right 42 = .ok (.iload_n 2, 1) := by decide +kernel
theorem dX9_right_43 : decode cX9_right 43 = .ok (.ineg, 1) := by decide +kernel
theorem dX9_right_44 : decode cX9_right 44 = .ok (.invokevirtual 180, 3) := by decide +kernel
theorem dX9_right_47 : decode cX9_right 47 = .ok (.aload_n 0, 1) := by decide +kernel
theorem dX9_right_48 : decode cX9_right 48 = .ok (.getfield 10, 3) := by decide +kernel
theorem dX9_right_51 : decode cX9_right 51 = .ok (.dup, 1) := by decide +kernel
theorem dX9_right_52 : decode cX9_right 52 = .ok (.getfield 152, 3) := by decide +kernel
theorem dX9_right_55 : decode cX9_right 55 = .ok (.iconst 1, 1) := by decide +kernel
theorem dX9_right_56 : decode cX9_right 56 = .ok (.iload_n 1, 1) := by decide +kernel
theorem dX9_right_57 : decode cX9_right 57 = .ok (.ishl, 1) := by decide +kernel
theorem dX9_right_58 : decode cX9_right 58 = .ok (.ior, 1) := by decide +kernel
theorem dX9_right_59 : decode cX9_right 59 = .ok (.putfield 152, 3) := by decide +kernel
theorem dX9_right_62 : decode cX9_right 62 = .ok (.iload_n 2, 1) := by decide +kernel
theorem dX9_right_63 : decode cX9_right 63 = .ok (.ireturn, 1) := by decide +kernel
theorem dX9_run_0 : decode cX9_run 0 = .ok (.iload_n 1, 1) := by decide +kernel
theorem dX9_run_1 : decode cX9_run 1 = .ok (.ifCond .lt 18, 3) := by decide +kernel
theorem dX9_run_4 : decode cX9_run 4 = .ok (.iload_n 1, 1) := by decide +kernel
theorem dX9_run_5 : decode cX9_run 5 = .ok (.bipush 40, 2) := by decide +kernel
theorem dX9_run_7 : decode cX9_run 7 = .ok (.if_icmp .gt 12, 3) := by decide +kernel
theorem dX9_run_10 : decode cX9_run 10 = .ok (.iload_n 2, 1) := by decide +kernel
theorem dX9_run_11 : decode cX9_run 11 = .ok (.ifCond .lt 8, 3) := by decide +kernel
theorem dX9_run_14 : decode cX9_run 14 = .ok (.iload_n 2, 1) := by decide +kernel
theorem dX9_run_15 : decode cX9_run 15 = .ok (.iconst 2, 1) := by decide +kernel
theorem dX9_run_16 : decode cX9_run 16 = .ok (.if_icmp .le 6, 3) := by decide +kernel
theorem dX9_run_19 : decode cX9_run 19 = .ok (.ldc 87, 2) := by decide +kernel
theorem dX9_run_21 : decode cX9_run 21 = .ok (.ireturn, 1) := by decide +kernel
theorem dX9_run_22 : decode cX9_run 22 = .ok (.aload_n 0, 1) := by decide +kernel
theorem dX9_run_23 : decode cX9_run 23 = .ok (.getfield 19, 3) := by decide +kernel
theorem dX9_run_26 : decode cX9_run 26 = .ok (.aload_n 0, 1) := by decide +kernel
theorem dX9_run_27 : decode cX9_run 27 = .ok (.getfield 10, 3) := by decide +kernel
theorem dX9_run_30 : decode cX9_run 30 = .ok (.invokevirtual 184, 3) := by decide +kernel
theorem dX9_run_33 : decode cX9_run 33 = .ok (.iconst (-1), 1) := by decide +kernel
theorem dX9_run_34 : decode cX9_run 34 = .ok (.istore_n 3, 1) := by decide +kernel
theorem dX9_run_35 : decode cX9_run 35 = .ok (.iconst 0, 1) := by decide +kernel
theorem dX9_run_36 : decode cX9_run 36 = .ok (.istore 4, 2) := by decide +kernel
theorem dX9_run_38 : decode cX9_run 38 = .ok (.iload 4, 2) := by decide +kernel
theorem dX9_run_40 : decode cX9_run 40 = .ok (.iload_n 1, 1) := by decide +kernel
theorem dX9_run_41 : decode cX9_run 41 = .ok (.if_icmp .ge 38, 3) := by decide +kernel
theorem dX9_run_44 : decode cX9_run 44 = .ok (.aload_n 0, 1) := by decide +kernel
theorem dX9_run_45 : decode cX9_run 45 = .ok (.getfield 36, 3) := by decide +kernel
theorem dX9_run_48 : decode cX9_run 48 = .ok (.aload_n 0, 1) := by decide +kernel
theorem dX9_run_49 : decode cX9_run 49 = .ok (.getfield 19, 3) := by decide +kernel
theorem dX9_run_52 : decode cX9_run 52 = .ok (.invokevirtual 176, 3) := by decide +kernel
theorem dX9_run_55 : decode cX9_run 55 = .ok (.aload_n 0, 1) := by decide +kernel
theorem dX9_run_56 : decode cX9_run 56 = .ok (.getfield 19, 3) := by decide +kernel
theorem dX9_run_59 : decode cX9_run 59 = .ok (.getfield 137, 3) := by decide +kernel
theorem dX9_run_62 : decode cX9_run 62 = .ok (.ifCond .ge 11, 3) := by decide +kernel
theorem dX9_run_65 : decode cX9_run 65 = .ok (.iload_n 3, 1) := by decide +kernel
theorem dX9_run_66 : decode cX9_run 66 = .ok (.iconst (-1), 1) := by decide +kernel
theorem dX9_run_67 : decode cX9_run 67 = .ok (.if_icmp .ne 6, 3) := by decide +kernel
theorem dX9_run_70 : decode cX9_run 70 = .ok (.iload 4, 2) := by decide +kernel
theorem dX9_run_72 : decode cX9_run 72 = .ok (.istore_n 3, 1) := by decide +kernel
theorem dX9_run_73 : decode cX9_run 73 = .ok (.iinc 4 1, 3) := by decide +kernel
theorem dX9_run_76 : decode cX9_run 76 = .ok (.goto (-38), 3) := by decide +kernel
theorem dX9_run_79 : decode cX9_run 79 = .ok (.iload_n 2, 1) := by decide +kernel
theorem dX9_run_80 : decode cX9_run 80 = .ok (.lookupswitch 48 #[(0, 28), (1, 36)], 28) := by decide +kernel
theorem dX9_run_108 : decode cX9_run 108 = .ok (.aload_n 0, 1) := by decide +kernel
theorem dX9_run_109 : decode cX9_run 109 = .ok (.getfield 19, 3) := by decide +kernel
theorem dX9_run_112 : decode cX9_run 112 = .ok (.getfield 137, 3) := by decide +kernel
theorem dX9_run_115 : decode cX9_run 115 = .ok (.ireturn, 1) := by decide +kernel
theorem dX9_run_116 : decode cX9_run 116 = .ok (.aload_n 0, 1) := by decide +kernel
theorem dX9_run_117 : decode cX9_run 117 = .ok (.getfield 36, 3) := by decide +kernel
theorem dX9_run_120 : decode cX9_run 120 = .ok (.aload_n 0, 1) := by decide +kernel
theorem dX9_run_121 : decode cX9_run 121 = .ok (.getfield 19, 3) := by decide +kernel
theorem dX9_run_124 : decode cX9_run 124 = .ok (.invokevirtual 187, 3) := by decide +kernel
theorem dX9_run_127 : decode cX9_run 127 = .ok (.ireturn, 1) := by decide +kernel
theorem dX9_run_128 : decode cX9_run 128 = .ok (.iload_n 3, 1) := by decide +kernel
theorem dX9_run_129 : decode cX9_run 129 = .ok (.ireturn, 1) := by decide +kernel
theorem dX9_society_0 : decode cX9_society 0 = .ok (.iload_n 1, 1) := by decide +kernel
theorem dX9_society_1 : decode cX9_society 1 = .ok (.tableswitch 77 0 4 #[35, 47, 59, 67, 72], 35) := by decide +kernel
theorem dX9_society_36 : decode cX9_society 36 = .ok (.aload_n 0, 1) := by decide +kernel
theorem dX9_society_37 : decode cX9_society 37 = .ok (.getfield 36, 3) := by decide +kernel
theorem dX9_society_40 : decode cX9_society 40 = .ok (.aload_n 0, 1) := by decide +kernel
theorem dX9_society_41 : decode cX9_society 41 = .ok (.getfield 10, 3) := by decide +kernel
theorem dX9_society_44 : decode cX9_society 44 = .ok (.invokevirtual 187, 3) := by decide +kernel
theorem dX9_society_47 : decode cX9_society 47 = .ok (.ireturn, 1) := by decide +kernel
theorem dX9_society_48 : decode cX9_society 48 = .ok (.aload_n 0, 1) := by decide +kernel
theorem dX9_society_49 : decode cX9_society 49 = .ok (.getfield 36, 3) := by decide +kernel
theorem dX9_society_52 : decode cX9_society 52 = .ok (.aload_n 0, 1) := by decide +kernel
theorem dX9_society_53 : decode cX9_society 53 = .ok (.getfield 10, 3) := by decide +kernel
theorem dX9_society_56 : decode cX9_society 56 = .ok (.invokevirtual 191, 3) := by decide +kernel
theorem dX9_society_59 : decode cX9_society 59 = .ok (.ireturn, 1) := by decide +kernel
theorem dX9_society_60 : decode cX9_society 60 = .ok (.aload_n 0, 1) := by decide +kernel
theorem dX9_society_61 : decode cX9_society 61 = .ok (.getfield 10, 3) := by decide +kernel
theorem dX9_society_64 : decode cX9_society 64 = .ok (.invokevirtual 194, 3) := by decide +kernel
theorem dX9_society_67 : decode cX9_society 67 = .ok (.ireturn, 1) := by decide +kernel
theorem dX9_society_68 : decode cX9_society 68 = .ok (.aload_n 0, 1) := by decide +kernel
theorem dX9_society_69 : decode cX9_society 69 = .ok (.invokevirtual 197, 3) := by decide +kernel
theorem dX9_society_72 : decode cX9_society 72 = .ok (.ireturn, 1) := by decide +kernel
theorem dX9_society_73 : decode cX9_society 73 = .ok (.aload_n 0, 1) := by decide +kernel
theorem dX9_society_74 : decode cX9_society 74 = .ok (.invokevirtual 200, 3) := by decide +kernel
theorem dX9_society_77 : decode cX9_society 77 = .ok (.ireturn, 1) := by decide +kernel
theorem dX9_society_78 : decode cX9_society 78 = .ok (.ldc 87, 2) := by decide +kernel
theorem dX9_society_80 : decode cX9_society 80 = .ok (.ireturn, 1) := by decide +kernel
theorem dX9_neverSo_0 : decode cX9_neverSo 0 = .ok (.sipush 255, 3) := by decide +kernel
theorem dX9_neverSo_3 : decode cX9_neverSo 3 = .ok (.istore_n 1, 1) := by decide +kernel
theorem dX9_neverSo_4 : decode cX9_neverSo 4 = .ok (.iconst 0, 1) := by decide +kernel
theorem dX9_neverSo_5 : decode cX9_neverSo 5 = .ok (.istore_n 2, 1) := by decide +kernel
theorem dX9_neverSo_6 : decode cX9_neverSo 6 = .ok (.iload_n 2, 1) := by decide +kernel
theorem dX9_neverSo_7 : decode cX9_neverSo 7 = .ok (.aload_n 0, 1) := by decide +kernel
theorem dX9_neverSo_8 : decode cX9_neverSo 8 = .ok (.getfield 10, 3) := by decide +kernel
theorem dX9_neverSo_11 : decode cX9_neverSo 11 = .ok (.getfield 203, 3) := by decide +kernel
theorem dX9_neverSo_14 : decode cX9_neverSo 14 = .ok (.if_icmp .ge 47, 3) := by decide +kernel
theorem dX9_neverSo_17 : decode cX9_neverSo 17 = .ok (.iconst 0, 1) := by decide +kernel
theorem dX9_neverSo_18 : decode cX9_neverSo 18 = .ok (.istore_n 3, 1) := by decide +kernel
theorem dX9_neverSo_19 : decode cX9_neverSo 19 = .ok (.iload_n 3, 1) := by decide +kernel
theorem dX9_neverSo_20 : decode cX9_neverSo 20 = .ok (.bipush 8, 2) := by decide +kernel
theorem dX9_neverSo_22 : decode cX9_neverSo 22 = .ok (.if_icmp .ge 33, 3) := by decide +kernel
theorem dX9_neverSo_25 : decode cX9_neverSo 25 = .ok (.aload_n 0, 1) := by decide +kernel
theorem dX9_neverSo_26 : decode cX9_neverSo 26 = .ok (.getfield 36, 3) := by decide +kernel
theorem dX9_neverSo_29 : decode cX9_neverSo 29 = .ok (.aload_n 0, 1) := by decide +kernel
theorem dX9_neverSo_30 : decode cX9_neverSo 30 = .ok (.getfield 10, 3) := by decide +kernel
theorem dX9_neverSo_33 : decode cX9_neverSo 33 = .ok (.iload_n 2, 1) := by decide +kernel
theorem dX9_neverSo_34 : decode cX9_neverSo 34 = .ok (.iload_n 3, 1) := by decide +kernel
theorem dX9_neverSo_35 : decode cX9_neverSo 35 = .ok (.invokevirtual 110, 3) := by decide +kernel
theorem dX9_neverSo_38 : decode cX9_neverSo 38 = .ok (.ifCond .eq 11, 3) := by decide +kernel
theorem dX9_neverSo_41 : decode cX9_neverSo 41 = .ok (.iload_n 1, 1) := by decide +kernel
theorem dX9_neverSo_42 : decode cX9_neverSo 42 = .ok (.iconst 1, 1) := by decide +kernel
theorem dX9_neverSo_43 : decode cX9_neverSo 43 = .ok (.iload_n 3, 1) := by decide +kernel
theorem dX9_neverSo_44 : decode cX9_neverSo 44 = .ok (.ishl, 1) := by decide +kernel
theorem dX9_neverSo_45 : decode cX9_neverSo 45 = .ok (.iconst (-1), 1) := by decide +kernel
theorem dX9_neverSo_46 : decode cX9_neverSo 46 = .ok (.ixor, 1) := by decide +kernel
theorem dX9_neverSo_47 : decode cX9_neverSo 47 = .ok (.iand, 1) := by decide +kernel
theorem dX9_neverSo_48 : decode cX9_neverSo 48 = .ok (.istore_n 1, 1) := by decide +kernel
theorem dX9_neverSo_49 : decode cX9_neverSo 49 = .ok (.iinc 3 1, 3) := by decide +kernel
theorem dX9_neverSo_52 : decode cX9_neverSo 52 = .ok (.goto (-33), 3) := by decide +kernel
theorem dX9_neverSo_55 : decode cX9_neverSo 55 = .ok (.iinc 2 1, 3) := by decide +kernel
theorem dX9_neverSo_58 : decode cX9_neverSo 58 = .ok (.goto (-52), 3) := by decide +kernel
theorem dX9_neverSo_61 : decode cX9_neverSo 61 = .ok (.iload_n 1, 1) := by decide +kernel
theorem dX9_neverSo_62 : decode cX9_neverSo 62 = .ok (.ireturn, 1) := by decide +kernel
theorem dX9_costOfRest_0 : decode cX9_costOfRest 0 = .ok (.iconst 0, 1) := by decide +kernel
theorem dX9_costOfRest_1 : decode cX9_costOfRest 1 = .ok (.istore_n 1, 1) := by decide +kernel
theorem dX9_costOfRest_2 : decode cX9_costOfRest 2 = .ok (.iconst 0, 1) := by decide +kernel
theorem dX9_costOfRest_3 : decode cX9_costOfRest 3 = .ok (.istore_n 2, 1) := by decide +kernel
theorem dX9_costOfRest_4 : decode cX9_costOfRest 4 = .ok (.iload_n 2, 1) := by decide +kernel
theorem dX9_costOfRest_5 : decode cX9_costOfRest 5 = .ok (.bipush 8, 2) := by decide +kernel
theorem dX9_costOfRest_7 : decode cX9_costOfRest 7 = .ok (.if_icmp .ge 35, 3) := by decide +kernel
theorem dX9_costOfRest_10 : decode cX9_costOfRest 10 = .ok (.aload_n 0, 1) := by decide +kernel
theorem dX9_costOfRest_11 : decode cX9_costOfRest 11 = .ok (.getfield 10, 3) := by decide +kernel
theorem dX9_costOfRest_14 : decode cX9_costOfRest 14 = .ok (.iload_n 2, 1) := by decide +kernel
theorem dX9_costOfRest_15 : decode cX9_costOfRest 15 = .ok (.invokevirtual 143, 3) := by decide +kernel
theorem dX9_costOfRest_18 : decode cX9_costOfRest 18 = .ok (.ifCond .ne 18, 3) := by decide +kernel
theorem dX9_costOfRest_21 : decode cX9_costOfRest 21 = .ok (.iload_n 1, 1) := by decide +kernel
theorem dX9_costOfRest_22 : decode cX9_costOfRest 22 = .ok (.aload_n 0, 1) := by decide +kernel
theorem dX9_costOfRest_23 : decode cX9_costOfRest 23 = .ok (.getfield 36, 3) := by decide +kernel
theorem dX9_costOfRest_26 : decode cX9_costOfRest 26 = .ok (.aload_n 0, 1) := by decide +kernel
theorem dX9_costOfRest_27 : decode cX9_costOfRest 27 = .ok (.getfield 10, 3) := by decide +kernel
theorem dX9_costOfRest_30 : decode cX9_costOfRest 30 = .ok (.iload_n 2, 1) := by decide +kernel
theorem dX9_costOfRest_31 : decode cX9_costOfRest 31 = .ok (.invokevirtual 103, 3) := by decide +kernel
theorem dX9_costOfRest_34 : decode cX9_costOfRest 34 = .ok (.iadd, 1) := by decide +kernel
theorem dX9_costOfRest_35 : decode cX9_costOfRest 35 = .ok (.istore_n 1, 1) := by decide +kernel
theorem dX9_costOfRest_36 : decode cX9_costOfRest 36 = .ok (.iinc 2 1, 3) := by decide +kernel
theorem dX9_costOfRest_39 : decode cX9_costOfRest 39 = .ok (.goto (-35), 3) := by decide +kernel
theorem dX9_costOfRest_42 : decode cX9_costOfRest 42 = .ok (.iload_n 1, 1) := by decide +kernel
theorem dX9_costOfRest_43 : decode cX9_costOfRest 43 = .ok (.ireturn, 1) := by decide +kernel
theorem dX9_cheapest_0 : decode cX9_cheapest 0 = .ok (.iload_n 1, 1) := by decide +kernel
theorem dX9_cheapest_1 : decode cX9_cheapest 1 = .ok (.ifCond .lt 18, 3) := by decide +kernel
theorem dX9_cheapest_4 : decode cX9_cheapest 4 = .ok (.iload_n 1, 1) := by decide +kernel
theorem dX9_cheapest_5 : decode cX9_cheapest 5 = .ok (.bipush 6, 2) := by decide +kernel
theorem dX9_cheapest_7 : decode cX9_cheapest 7 = .ok (.if_icmp .gt 12, 3) := by decide +kernel
theorem dX9_cheapest_10 : decode cX9_cheapest 10 = .ok (.iload_n 2, 1) := by decide +kernel
theorem dX9_cheapest_11 : decode cX9_cheapest 11 = .ok (.ifCond .lt 8, 3) := by decide +kernel
theorem dX9_cheapest_14 : decode cX9_cheapest 14 = .ok (.iload_n 2, 1) := by decide +kernel
theorem dX9_cheapest_15 : decode cX9_cheapest 15 = .ok (.iconst 1, 1) := by decide +kernel
theorem dX9_cheapest_16 : decode cX9_cheapest 16 = .ok (.if_icmp .le 6, 3) := by decide +kernel
theorem dX9_cheapest_19 : decode cX9_cheapest 19 = .ok (.bipush (-2), 2) := by decide +kernel
theorem dX9_cheapest_21 : decode cX9_cheapest 21 = .ok (.ireturn, 1) := by decide +kernel
theorem dX9_cheapest_22 : decode cX9_cheapest 22 = .ok (.aload_n 0, 1) := by decide +kernel
theorem dX9_cheapest_23 : decode cX9_cheapest 23 = .ok (.invokevirtual 204, 3) := by decide +kernel
theorem dX9_cheapest_26 : decode cX9_cheapest 26 = .ok (.aload_n 0, 1) := by decide +kernel
theorem dX9_cheapest_27 : decode cX9_cheapest 27 = .ok (.getfield 43, 3) := by decide +kernel
theorem dX9_cheapest_30 : decode cX9_cheapest 30 = .ok (.iload_n 1, 1) := by decide +kernel
theorem dX9_cheapest_31 : decode cX9_cheapest 31 = .ok (.aload_n 0, 1) := by decide +kernel
theorem dX9_cheapest_32 : decode cX9_cheapest 32 = .ok (.getfield 10, 3) := by decide +kernel
theorem dX9_cheapest_35 : decode cX9_cheapest 35 = .ok (.getfield 152, 3) := by decide +kernel
theorem dX9_cheapest_38 : decode cX9_cheapest 38 = .ok (.invokevirtual 207, 3) := by decide +kernel
theorem dX9_cheapest_41 : decode cX9_cheapest 41 = .ok (.istore_n 3, 1) := by decide +kernel
theorem dX9_cheapest_42 : decode cX9_cheapest 42 = .ok (.iload_n 2, 1) := by decide +kernel
theorem dX9_cheapest_43 : decode cX9_cheapest 43 = .ok (.ifCond .eq 8, 3) := by decide +kernel
theorem dX9_cheapest_46 : decode cX9_cheapest 46 = .ok (.iload_n 3, 1) := by decide +kernel
theorem dX9_cheapest_47 : decode cX9_cheapest 47 = .ok (.iconst (-1), 1) := by decide +kernel
theorem dX9_cheapest_48 : decode cX9_cheapest 48 = .ok (.if_icmp .ne 7, 3) := by decide +kernel
theorem dX9_cheapest_51 : decode cX9_cheapest 51 = .ok (.iload_n 3, 1) := by decide +kernel
theorem dX9_cheapest_52 : decode cX9_cheapest 52 = .ok (.goto 12, 3) := by decide +kernel
theorem dX9_cheapest_55 : decode cX9_cheapest 55 = .ok (.aload_n 0, 1) := by decide +kernel
theorem dX9_cheapest_56 : decode cX9_cheapest 56 = .ok (.getfield 43, 3) := by decide +kernel
theorem dX9_cheapest_59 : decode cX9_cheapest 59 = .ok (.getfield 210, 3) := by decide +kernel
theorem dX9_cheapest_62 : decode cX9_cheapest 62 = .ok (.iload_n 3, 1) := by decide +kernel
theorem dX9_cheapest_63 : decode cX9_cheapest 63 = .ok (.iaload, 1) := by decide +kernel
theorem dX9_cheapest_64 : decode cX9_cheapest 64 = .ok (.ireturn, 1) := by decide +kernel
theorem dX9_most_0 : decode cX9_most 0 = .ok (.iload_n 1, 1) := by decide +kernel
theorem dX9_most_1 : decode cX9_most 1 = .ok (.ifCond .lt 19, 3) := by decide +kernel
theorem dX9_most_4 : decode cX9_most 4 = .ok (.iload_n 1, 1) := by decide +kernel
theorem dX9_most_5 : decode cX9_most 5 = .ok (.sipush 999, 3) := by decide +kernel
theorem dX9_most_8 : decode cX9_most 8 = .ok (.if_icmp .gt 12, 3) := by decide +kernel
theorem dX9_most_11 : decode cX9_most 11 = .ok (.iload_n 2, 1) := by decide +kernel
theorem dX9_most_12 : decode cX9_most 12 = .ok (.ifCond .lt 8, 3) := by decide +kernel
theorem dX9_most_15 : decode cX9_most 15 = .ok (.iload_n 2, 1) := by decide +kernel
theorem dX9_most_16 : decode cX9_most 16 = .ok (.iconst 2, 1) := by decide +kernel
theorem dX9_most_17 : decode cX9_most 17 = .ok (.if_icmp .le 6, 3) := by decide +kernel
theorem dX9_most_20 : decode cX9_most 20 = .ok (.bipush (-2), 2) := by decide +kernel
theorem dX9_most_22 : decode cX9_most 22 = .ok (.ireturn, 1) := by decide +kernel
theorem dX9_most_23 : decode cX9_most 23 = .ok (.aload_n 0, 1) := by decide +kernel
theorem dX9_most_24 : decode cX9_most 24 = .ok (.invokevirtual 204, 3) := by decide +kernel
theorem dX9_most_27 : decode cX9_most 27 = .ok (.aload_n 0, 1) := by decide +kernel
theorem dX9_most_28 : decode cX9_most 28 = .ok (.getfield 43, 3) := by decide +kernel
theorem dX9_most_31 : decode cX9_most 31 = .ok (.iload_n 1, 1) := by decide +kernel
theorem dX9_most_32 : decode cX9_most 32 = .ok (.aload_n 0, 1) := by decide +kernel
theorem dX9_most_33 : decode cX9_most 33 = .ok (.getfield 10, 3) := by decide +kernel
theorem dX9_most_36 : decode cX9_most 36 = .ok (.getfield 152, 3) := by decide +kernel
theorem dX9_most_39 : decode cX9_most 39 = .ok (.invokevirtual 213, 3) := by decide +kernel
theorem dX9_most_42 : decode cX9_most 42 = .ok (.istore_n 3, 1) := by decide +kernel
theorem dX9_most_43 : decode cX9_most 43 = .ok (.iload_n 2, 1) := by decide +kernel
theorem dX9_most_44 : decode cX9_most 44 = .ok (.lookupswitch 40 #[(0, 28), (1, 30)], 28) := by decide +kernel
theorem dX9_most_72 : decode cX9_most 72 = .ok (.iload_n 3, 1) := by decide +kernel
theorem dX9_most_73 : decode cX9_most 73 = .ok (.ireturn, 1) := by decide +kernel
theorem dX9_most_74 : decode cX9_most 74 = .ok (.aload_n 0, 1) := by decide +kernel
theorem dX9_most_75 : decode cX9_most 75 = .ok (.getfield 43, 3) := by decide +kernel
theorem dX9_most_78 : decode cX9_most 78 = .ok (.getfield 216, 3) := by decide +kernel
theorem dX9_most_81 : decode cX9_most 81 = .ok (.iload_n 3, 1) := by decide +kernel
theorem dX9_most_82 : decode cX9_most 82 = .ok (.iaload, 1) := by decide +kernel
theorem dX9_most_83 : decode cX9_most 83 = .ok (.ireturn, 1) := by decide +kernel
theorem dX9_most_84 : decode cX9_most 84 = .ok (.aload_n 0, 1) := by decide +kernel
theorem dX9_most_85 : decode cX9_most 85 = .ok (.getfield 43, 3) := by decide +kernel
theorem dX9_most_88 : decode cX9_most 88 = .ok (.getfield 210, 3) := by decide +kernel
theorem dX9_most_91 : decode cX9_most 91 = .ok (.iload_n 3, 1) := by decide +kernel
theorem dX9_most_92 : decode cX9_most 92 = .ok (.iaload, 1) := by decide +kernel
theorem dX9_most_93 : decode cX9_most 93 = .ok (.ireturn, 1) := by decide +kernel
theorem dX9_haze_0 : decode cX9_haze 0 = .ok (.aload_n 0, 1) := by decide +kernel
theorem dX9_haze_1 : decode cX9_haze 1 = .ok (.getfield 10, 3) := by decide +kernel
theorem dX9_haze_4 : decode cX9_haze 4 = .ok (.iload_n 1, 1) := by decide +kernel
theorem dX9_haze_5 : decode cX9_haze 5 = .ok (.invokevirtual 107, 3) := by decide +kernel
theorem dX9_haze_8 : decode cX9_haze 8 = .ok (.ifCond .ne 6, 3) := by decide +kernel
theorem dX9_haze_11 : decode cX9_haze 11 = .ok (.bipush (-2), 2) := by decide +kernel
theorem dX9_haze_13 : decode cX9_haze 13 = .ok (.ireturn, 1) := by decide +kernel
theorem dX9_haze_14 : decode cX9_haze 14 = .ok (.aload_n 0, 1) := by decide +kernel
theorem dX9_haze_15 : decode cX9_haze 15 = .ok (.getfield 19, 3) := by decide +kernel
theorem dX9_haze_18 : decode cX9_haze 18 = .ok (.aload_n 0, 1) := by decide +kernel
theorem dX9_haze_19 : decode cX9_haze 19 = .ok (.getfield 10, 3) := by decide +kernel
theorem dX9_haze_22 : decode cX9_haze 22 = .ok (.invokevirtual 184, 3) := by decide +kernel
theorem dX9_haze_25 : decode cX9_haze 25 = .ok (.iconst 0, 1) := by decide +kernel
theorem dX9_haze_26 : decode cX9_haze 26 = .ok (.istore_n 2, 1) := by decide +kernel
theorem dX9_haze_27 : decode cX9_haze 27 = .ok (.iload_n 2, 1) := by decide +kernel
theorem dX9_haze_28 : decode cX9_haze 28 = .ok (.bipush 40, 2) := by decide +kernel
theorem dX9_haze_30 : decode cX9_haze 30 = .ok (.if_icmp .gt 42, 3) := by decide +kernel
theorem dX9_haze_33 : decode cX9_haze 33 = .ok (.aload_n 0, 1) := by decide +kernel
theorem dX9_haze_34 : decode cX9_haze 34 = .ok (.getfield 19, 3) := by decide +kernel
theorem dX9_haze_37 : decode cX9_haze 37 = .ok (.aload_n 0, 1) := by decide +kernel
theorem dX9_haze_38 : decode cX9_haze 38 = .ok (.getfield 10, 3) := by decide +kernel
theorem dX9_haze_41 : decode cX9_haze 41 = .ok (.getfield 130, 3) := by decide +kernel
theorem dX9_haze_44 : decode cX9_haze 44 = .ok (.iload_n 2, 1) := by decide +kernel
theorem dX9_haze_45 : decode cX9_haze 45 = .ok (.iadd, 1) := by decide +kernel
theorem dX9_haze_46 : decode cX9_haze 46 = .ok (.putfield 130, 3) := by decide +kernel
theorem dX9_haze_49 : decode cX9_haze 49 = .ok (.aload_n 0, 1) := by decide +kernel
theorem dX9_haze_50 : decode cX9_haze 50 = .ok (.getfield 36, 3) := by decide +kernel
theorem dX9_haze_53 : decode cX9_haze 53 = .ok (.aload_n 0, 1) := by decide +kernel
theorem dX9_haze_54 : decode cX9_haze 54 = .ok (.getfield 19, 3) := by decide +kernel
theorem dX9_haze_57 : decode cX9_haze 57 = .ok (.iload_n 1, 1) := by decide +kernel
theorem dX9_haze_58 : decode cX9_haze 58 = .ok (.invokevirtual 123, 3) := by decide +kernel
theorem dX9_haze_61 : decode cX9_haze 61 = .ok (.ifCond .eq 5, 3) := by decide +kernel
theorem dX9_haze_64 : decode cX9_haze 64 = .ok (.iload_n 2, 1) := by decide +kernel
theorem dX9_haze_65 : decode cX9_haze 65 = .ok (.ireturn, 1) := by decide +kernel
theorem dX9_haze_66 : decode cX9_haze 66 = .ok (.iinc 2 1, 3) := by decide +kernel
theorem dX9_haze_69 : decode cX9_haze 69 = .ok (.goto (-42), 3) := by decide +kernel
theorem dX9_haze_72 : decode cX9_haze 72 = .ok (.iconst (-1), 1) := by decide +kernel
theorem dX9_haze_73 : decode cX9_haze 73 = .ok (.ireturn, 1) := by decide +kernel
theorem dX9_premium_0 : decode cX9_premium 0 = .ok (.aload_n 0, 1) := by decide +kernel
theorem dX9_premium_1 : decode cX9_premium 1 = .ok (.getfield 19, 3) := by decide +kernel
theorem dX9_premium_4 : decode cX9_premium 4 = .ok (.aload_n 0, 1) := by decide +kernel
theorem dX9_premium_5 : decode cX9_premium 5 = .ok (.getfield 10, 3) := by decide +kernel
theorem dX9_premium_8 : decode cX9_premium 8 = .ok (.invokevirtual 184, 3) := by decide +kernel
theorem dX9_premium_11 : decode cX9_premium 11 = .ok (.iconst 0, 1) := by decide +kernel
theorem dX9_premium_12 : decode cX9_premium 12 = .ok (.istore_n 1, 1) := by decide +kernel
theorem dX9_premium_13 : decode cX9_premium 13 = .ok (.iload_n 1, 1) := by decide +kernel
theorem dX9_premium_14 : decode cX9_premium 14 = .ok (.bipush 10, 2) := by decide +kernel
theorem dX9_premium_16 : decode cX9_premium 16 = .ok (.if_icmp .ge 39, 3) := by decide +kernel
theorem dX9_premium_19 : decode cX9_premium 19 = .ok (.aload_n 0, 1) := by decide +kernel
theorem dX9_premium_20 : decode cX9_premium 20 = .ok (.getfield 47, 3) := by decide +kernel
theorem dX9_premium_23 : decode cX9_premium 23 = .ok (.iload_n 1, 1) := by decide +kernel
theorem dX9_premium_24 : decode cX9_premium 24 = .ok (.aload_n 0, 1) := by decide +kernel
theorem dX9_premium_25 : decode cX9_premium 25 = .ok (.getfield 36, 3) := by decide +kernel
theorem dX9_premium_28 : decode cX9_premium 28 = .ok (.aload_n 0, 1) := by decide +kernel
theorem dX9_premium_29 : decode cX9_premium 29 = .ok (.getfield 19, 3) := by decide +kernel
theorem dX9_premium_32 : decode cX9_premium 32 = .ok (.invokevirtual 191, 3) := by decide +kernel
theorem dX9_premium_35 : decode cX9_premium 35 = .ok (.iastore, 1) := by decide +kernel
theorem dX9_premium_36 : decode cX9_premium 36 = .ok (.aload_n 0, 1) := by decide +kernel
theorem dX9_premium_37 : decode cX9_premium 37 = .ok (.getfield 19, 3) := by decide +kernel
theorem dX9_premium_40 : decode cX9_premium 40 = .ok (.dup, 1) := by decide +kernel
theorem dX9_premium_41 : decode cX9_premium 41 = .ok (.getfield 130, 3) := by decide +kernel
theorem dX9_premium_44 : decode cX9_premium 44 = .ok (.iconst 1, 1) := by decide +kernel
theorem dX9_premium_45 : decode cX9_premium 45 = .ok (.iadd, 1) := by decide +kernel
theorem dX9_premium_46 : decode cX9_premium 46 = .ok (.putfield 130, 3) := by decide +kernel
theorem dX9_premium_49 : decode cX9_premium 49 = .ok (.iinc 1 1, 3) := by decide +kernel
theorem dX9_premium_52 : decode cX9_premium 52 = .ok (.goto (-39), 3) := by decide +kernel
theorem dX9_premium_55 : decode cX9_premium 55 = .ok (.iconst 0, 1) := by decide +kernel
theorem dX9_premium_56 : decode cX9_premium 56 = .ok (.istore_n 1, 1) := by decide +kernel
theorem dX9_premium_57 : decode cX9_premium 57 = .ok (.iload_n 1, 1) := by decide +kernel
theorem dX9_premium_58 : decode cX9_premium 58 = .ok (.bipush 99, 2) := by decide +kernel
theorem dX9_premium_60 : decode cX9_premium 60 = .ok (.if_icmp .gt 27, 3) := by decide +kernel
theorem dX9_premium_63 : decode cX9_premium 63 = .ok (.aload_n 0, 1) := by decide +kernel
theorem dX9_premium_64 : decode cX9_premium 64 = .ok (.iload_n 1, 1) := by decide +kernel
theorem dX9_premium_65 : decode cX9_premium 65 = .ok (.aload_n 0, 1) := by decide +kernel
theorem dX9_premium_66 : decode cX9_premium 66 = .ok (.getfield 10, 3) := by decide +kernel
theorem dX9_premium_69 : decode cX9_premium 69 = .ok (.getfield 203, 3) := by decide +kernel
theorem dX9_premium_72 : decode cX9_premium 72 = .ok (.imul, 1) := by decide +kernel
theorem dX9_premium_73 : decode cX9_premium 73 = .ok (.invokevirtual 219, 3) := by decide +kernel
theorem dX9_premium_76 : decode cX9_premium 76 = .ok (.ifCond .eq 5, 3) := by decide +kernel
theorem dX9_premium_79 : decode cX9_premium 79 = .ok (.iload_n 1, 1) := by decide +kernel
theorem dX9_premium_80 : decode cX9_premium 80 = .ok (.ireturn, 1) := by decide +kernel
theorem dX9_premium_81 : decode cX9_premium 81 = .ok (.iinc 1 1, 3) := by decide +kernel
theorem dX9_premium_84 : decode cX9_premium 84 = .ok (.goto (-27), 3) := by decide +kernel
theorem dX9_premium_87 : decode cX9_premium 87 = .ok (.iconst (-1), 1) := by decide +kernel
theorem dX9_premium_88 : decode cX9_premium 88 = .ok (.ireturn, 1) := by decide +kernel
theorem dX9_best_0 : decode cX9_best 0 = .ok (.aload_n 0, 1) := by decide +kernel
theorem dX9_best_1 : decode cX9_best 1 = .ok (.getfield 10, 3) := by decide +kernel
theorem dX9_best_4 : decode cX9_best 4 = .ok (.iload_n 1, 1) := by decide +kernel
theorem dX9_best_5 : decode cX9_best 5 = .ok (.invokevirtual 107, 3) := by decide +kernel
theorem dX9_best_8 : decode cX9_best 8 = .ok (.ifCond .eq 12, 3) := by decide +kernel
theorem dX9_best_11 : decode cX9_best 11 = .ok (.iload_n 2, 1) := by decide +kernel
theorem dX9_best_12 : decode cX9_best 12 = .ok (.ifCond .lt 8, 3) := by decide +kernel
theorem dX9_best_15 : decode cX9_best 15 = .ok (.iload_n 2, 1) := by decide +kernel
theorem dX9_best_16 : decode cX9_best 16 = .ok (.iconst 2, 1) := by decide +kernel
theorem dX9_best_17 : decode cX9_best 17 = .ok (.if_icmp .le 6, 3) := by decide +kernel
theorem dX9_best_20 : decode cX9_best 20 = .ok (.ldc 87, 2) := by decide +kernel
theorem dX9_best_22 : decode cX9_best 22 = .ok (.ireturn, 1) := by decide +kernel
theorem dX9_best_23 : decode cX9_best 23 = .ok (.iload_n 2, 1) := by decide +kernel
theorem dX9_best_24 : decode cX9_best 24 = .ok (.iconst 2, 1) := by decide +kernel
theorem dX9_best_25 : decode cX9_best 25 = .ok (.if_icmp .ne 9, 3) := by decide +kernel
theorem dX9_best_28 : decode cX9_best 28 = .ok (.aload_n 0, 1) := by decide +kernel
theorem dX9_best_29 : decode cX9_best 29 = .ok (.iload_n 1, 1) := by decide +kernel
theorem dX9_best_30 : decode cX9_best 30 = .ok (.invokevirtual 222, 3) := by decide +kernel
theorem dX9_best_33 : decode cX9_best 33 = .ok (.ireturn, 1) := by decide +kernel
theorem dX9_best_34 : decode cX9_best 34 = .ok (.aload_n 0, 1) := by decide +kernel
theorem dX9_best_35 : decode cX9_best 35 = .ok (.iload_n 1, 1) := by decide +kernel
theorem dX9_best_36 : decode cX9_best 36 = .ok (.invokevirtual 225, 3) := by decide +kernel
theorem dX9_best_39 : decode cX9_best 39 = .ok (.istore_n 3, 1) := by decide +kernel
theorem dX9_best_40 : decode cX9_best 40 = .ok (.iload_n 2, 1) := by decide +kernel
theorem dX9_best_41 : decode cX9_best 41 = .ok (.ifCond .ne 7, 3) := by decide +kernel
theorem dX9_best_44 : decode cX9_best 44 = .ok (.iload_n 3, 1) := by decide +kernel
theorem dX9_best_45 : decode cX9_best 45 = .ok (.goto 16, 3) := by decide +kernel
theorem dX9_best_48 : decode cX9_best 48 = .ok (.aload_n 0, 1) := by decide +kernel
theorem dX9_best_49 : decode cX9_best 49 = .ok (.getfield 36, 3) := by decide +kernel
theorem dX9_best_52 : decode cX9_best 52 = .ok (.aload_n 0, 1) := by decide +kernel
theorem dX9_best_53 : decode cX9_best 53 = .ok (.getfield 10, 3) := by decide +kernel
theorem dX9_best_56 : decode cX9_best 56 = .ok (.iload_n 1, 1) := by decide +kernel
theorem dX9_best_57 : decode cX9_best 57 = .ok (.iload_n 3, 1) := by decide +kernel
theorem dX9_best_58 : decode cX9_best 58 = .ok (.invokevirtual 110, 3) := by decide +kernel
theorem dX9_best_61 : decode cX9_best 61 = .ok (.ireturn, 1) := by decide +kernel
theorem dX9_agree_0 : decode cX9_agree 0 = .ok (.aload_n 0, 1) := by decide +kernel
theorem dX9_agree_1 : decode cX9_agree 1 = .ok (.getfield 10, 3) := by decide +kernel
theorem dX9_agree_4 : decode cX9_agree 4 = .ok (.iload_n 1, 1) := by decide +kernel
theorem dX9_agree_5 : decode cX9_agree 5 = .ok (.invokevirtual 107, 3) := by decide +kernel
theorem dX9_agree_8 : decode cX9_agree 8 = .ok (.ifCond .eq 19, 3) := by decide +kernel
theorem dX9_agree_11 : decode cX9_agree 11 = .ok (.aload_n 0, 1) := by decide +kernel
theorem dX9_agree_12 : decode cX9_agree 12 = .ok (.getfield 10, 3) := by decide +kernel
theorem dX9_agree_15 : decode cX9_agree 15 = .ok (.iload_n 2, 1) := by decide +kernel
theorem dX9_agree_16 : decode cX9_agree 16 = .ok (.invokevirtual 107, 3) := by decide +kernel
theorem dX9_agree_19 : decode cX9_agree 19 = .ok (.ifCond .eq 8, 3) := by decide +kernel
theorem dX9_agree_22 : decode cX9_agree 22 = .ok (.iload_n 1, 1) := by decide +kernel
theorem dX9_agree_23 : decode cX9_agree 23 = .ok (.iload_n 2, 1) := by decide +kernel
theorem dX9_agree_24 : decode cX9_agree 24 = .ok (.if_icmp .ne 6, 3) := by decide +kernel
theorem dX9_agree_27 : decode cX9_agree 27 = .ok (.bipush (-2), 2) := by decide +kernel
theorem dX9_agree_29 : decode cX9_agree 29 = .ok (.ireturn, 1) := by decide +kernel
theorem dX9_agree_30 : decode cX9_agree 30 = .ok (.iconst 0, 1) := by decide +kernel
theorem dX9_agree_31 : decode cX9_agree 31 = .ok (.istore_n 3, 1) := by decide +kernel
theorem dX9_agree_32 : decode cX9_agree 32 = .ok (.iconst 0, 1) := by decide +kernel
theorem dX9_agree_33 : decode cX9_agree 33 = .ok (.istore 4, 2) := by decide +kernel
theorem dX9_agree_35 : decode cX9_agree 35 = .ok (.iload 4, 2) := by decide +kernel
theorem dX9_agree_37 : decode cX9_agree 37 = .ok (.bipush 8, 2) := by decide +kernel
theorem dX9_agree_39 : decode cX9_agree 39 = .ok (.if_icmp .ge 47, 3) := by decide +kernel
theorem dX9_agree_42 : decode cX9_agree 42 = .ok (.aload_n 0, 1) := by decide +kernel
theorem dX9_agree_43 : decode cX9_agree 43 = .ok (.getfield 36, 3) := by decide +kernel
theorem dX9_agree_46 : decode cX9_agree 46 = .ok (.aload_n 0, 1) := by decide +kernel
theorem dX9_agree_47 : decode cX9_agree 47 = .ok (.getfield 10, 3) := by decide +kernel
theorem dX9_agree_50 : decode cX9_agree 50 = .ok (.iload_n 1, 1) := by decide +kernel
theorem dX9_agree_51 : decode cX9_agree 51 = .ok (.iload 4, 2) := by decide +kernel
theorem dX9_agree_53 : decode cX9_agree 53 = .ok (.invokevirtual 110, 3) := by decide +kernel
theorem dX9_agree_56 : decode cX9_agree 56 = .ok (.aload_n 0, 1) := by decide +kernel
theorem dX9_agree_57 : decode cX9_agree 57 = .ok (.getfield 36, 3) := by decide +kernel
theorem dX9_agree_60 : decode cX9_agree 60 = .ok (.aload_n 0, 1) := by decide +kernel
theorem dX9_agree_61 : decode cX9_agree 61 = .ok (.getfield 10, 3) := by decide +kernel
theorem dX9_agree_64 : decode cX9_agree 64 = .ok (.iload_n 2, 1) := by decide +kernel
theorem dX9_agree_65 : decode cX9_agree 65 = .ok (.iload 4, 2) := by decide +kernel
theorem dX9_agree_67 : decode cX9_agree 67 = .ok (.invokevirtual 110, 3) := by decide +kernel
theorem dX9_agree_70 : decode cX9_agree 70 = .ok (.if_icmp .ne 10, 3) := by decide +kernel
theorem dX9_agree_73 : decode cX9_agree 73 = .ok (.iload_n 3, 1) := by decide +kernel
theorem dX9_agree_74 : decode cX9_agree 74 = .ok (.iconst 1, 1) := by decide +kernel
theorem dX9_agree_75 : decode cX9_agree 75 = .ok (.iload 4, 2) := by decide +kernel
theorem dX9_agree_77 : decode cX9_agree 77 = .ok (.ishl, 1) := by decide +kernel
theorem dX9_agree_78 : decode cX9_agree 78 = .ok (.ior, 1) := by decide +kernel
theorem dX9_agree_79 : decode cX9_agree 79 = .ok (.istore_n 3, 1) := by decide +kernel
theorem dX9_agree_80 : decode cX9_agree 80 = .ok (.iinc 4 1, 3) := by decide +kernel
theorem dX9_agree_83 : decode cX9_agree 83 = .ok (.goto (-48), 3) := by decide +kernel
theorem dX9_agree_86 : decode cX9_agree 86 = .ok (.iload_n 3, 1) := by decide +kernel
theorem dX9_agree_87 : decode cX9_agree 87 = .ok (.ireturn, 1) := by decide +kernel
theorem dX9_weighRemedies_0 : decode cX9_weighRemedies 0 = .ok (.aload_n 0, 1) := by decide +kernel
theorem dX9_weighRemedies_1 : decode cX9_weighRemedies 1 = .ok (.getfield 43, 3) := by decide +kernel
theorem dX9_weighRemedies_4 : decode cX9_weighRemedies 4 = .ok (.invokevirtual 228, 3) := by decide +kernel
theorem dX9_weighRemedies_7 : decode cX9_weighRemedies 7 = .ok (.aload_n 0, 1) := by decide +kernel
theorem dX9_weighRemedies_8 : decode cX9_weighRemedies 8 = .ok (.getfield 19, 3) := by decide +kernel
theorem dX9_weighRemedies_11 : decode cX9_weighRemedies 11 = .ok (.aload_n 0, 1) := by decide +kernel
theorem dX9_weighRemedies_12 : decode cX9_weighRemedies 12 = .ok (.getfield 10, 3) := by decide +kernel
theorem dX9_weighRemedies_15 : decode cX9_weighRemedies 15 = .ok (.invokevirtual 184, 3) := by decide +kernel
theorem dX9_weighRemedies_18 : decode cX9_weighRemedies 18 = .ok (.aload_n 0, 1) := by decide +kernel
theorem dX9_weighRemedies_19 : decode cX9_weighRemedies 19 = .ok (.getfield 19, 3) := by decide +kernel
theorem dX9_weighRemedies_22 : decode cX9_weighRemedies 22 = .ok (.sipush 255, 3) := by decide +kernel
theorem dX9_weighRemedies_25 : decode cX9_weighRemedies 25 = .ok (.putfield 152, 3) := by decide +kernel
theorem dX9_weighRemedies_28 : decode cX9_weighRemedies 28 = .ok (.iconst 0, 1) := by decide +kernel
theorem dX9_weighRemedies_29 : decode cX9_weighRemedies 29 = .ok (.istore_n 1, 1) := by decide +kernel
theorem dX9_weighRemedies_30 : decode cX9_weighRemedies 30 = .ok (.iload_n 1, 1) := by decide +kernel
theorem dX9_weighRemedies_31 : decode cX9_weighRemedies 31 = .ok (.bipush 8, 2) := by decide +kernel
theorem dX9_weighRemedies_33 : decode cX9_weighRemedies 33 = .ok (.if_icmp .ge 30, 3) := by decide +kernel
theorem dX9_weighRemedies_36 : decode cX9_weighRemedies 36 = .ok (.aload_n 0, 1) := by decide +kernel
theorem dX9_weighRemedies_37 : decode cX9_weighRemedies 37 = .ok (.getfield 43, 3) := by decide +kernel
theorem dX9_weighRemedies_40 : decode cX9_weighRemedies 40 = .ok (.getfield 231, 3) := by decide +kernel
theorem dX9_weighRemedies_43 : decode cX9_weighRemedies 43 = .ok (.iload_n 1, 1) := by decide +kernel
theorem dX9_weighRemedies_44 : decode cX9_weighRemedies 44 = .ok (.aload_n 0, 1) := by decide +kernel
theorem dX9_weighRemedies_45 : decode cX9_weighRemedies 45 = .ok (.getfield 36, 3) := by decide +kernel
theorem dX9_weighRemedies_48 : decode cX9_weighRemedies 48 = .ok (.aload_n 0, 1) := by decide +kernel
theorem dX9_weighRemedies_49 : decode cX9_weighRemedies 49 = .ok (.getfield 10, 3) := by decide +kernel
theorem dX9_weighRemedies_52 : decode cX9_weighRemedies 52 = .ok (.iload_n 1, 1) := by decide +kernel
theorem dX9_weighRemedies_53 : decode cX9_weighRemedies 53 = .ok (.invokevirtual 103, 3) := by decide +kernel
theorem dX9_weighRemedies_56 : decode cX9_weighRemedies 56 = .ok (.iastore, 1) := by decide +kernel
theorem dX9_weighRemedies_57 : decode cX9_weighRemedies 57 = .ok (.iinc 1 1, 3) := by decide +kernel
theorem dX9_weighRemedies_60 : decode cX9_weighRemedies 60 = .ok (.goto (-30), 3) := by decide +kernel
theorem dX9_weighRemedies_63 : decode cX9_weighRemedies 63 = .ok (.aload_n 0, 1) := by decide +kernel
theorem dX9_weighRemedies_64 : decode cX9_weighRemedies 64 = .ok (.getfield 43, 3) := by decide +kernel
theorem dX9_weighRemedies_67 : decode cX9_weighRemedies 67 = .ok (.iconst 0, 1) := by decide +kernel
theorem dX9_weighRemedies_68 : decode cX9_weighRemedies 68 = .ok (.aload_n 0, 1) := by decide +kernel
theorem dX9_weighRemedies_69 : decode cX9_weighRemedies 69 = .ok (.getfield 43, 3) := by decide +kernel
theorem dX9_weighRemedies_72 : decode cX9_weighRemedies 72 = .ok (.getfield 210, 3) := by decide +kernel
theorem dX9_weighRemedies_75 : decode cX9_weighRemedies 75 = .ok (.invokevirtual 234, 3) := by decide +kernel
theorem dX9_weighRemedies_78 : decode cX9_weighRemedies 78 = .ok (.iconst 0, 1) := by decide +kernel
theorem dX9_weighRemedies_79 : decode cX9_weighRemedies 79 = .ok (.istore_n 1, 1) := by decide +kernel
theorem dX9_weighRemedies_80 : decode cX9_weighRemedies 80 = .ok (.iload_n 1, 1) := by decide +kernel
theorem dX9_weighRemedies_81 : decode cX9_weighRemedies 81 = .ok (.aload_n 0, 1) := by decide +kernel
theorem dX9_weighRemedies_82 : decode cX9_weighRemedies 82 = .ok (.getfield 10, 3) := by decide +kernel
theorem dX9_weighRemedies_85 : decode cX9_weighRemedies 85 = .ok (.getfield 203, 3) := by decide +kernel
theorem dX9_weighRemedies_88 : decode cX9_weighRemedies 88 = .ok (.if_icmp .ge 99, 3) := by decide +kernel
theorem dX9_weighRemedies_91 : decode cX9_weighRemedies 91 = .ok (.iconst 0, 1) := by decide +kernel
theorem dX9_weighRemedies_92 : decode cX9_weighRemedies 92 = .ok (.istore_n 2, 1) := by decide +kernel
theorem dX9_weighRemedies_93 : decode cX9_weighRemedies 93 = .ok (.iload_n 2, 1) := by decide +kernel
theorem dX9_weighRemedies_94 : decode cX9_weighRemedies 94 = .ok (.bipush 8, 2) := by decide +kernel
theorem dX9_weighRemedies_96 : decode cX9_weighRemedies 96 = .ok (.if_icmp .ge 45, 3) := by decide +kernel
theorem dX9_weighRemedies_99 : decode cX9_weighRemedies 99 = .ok (.aload_n 0, 1) := by decide +kernel
theorem dX9_weighRemedies_100 : decode cX9_weighRemedies 100 = .ok (.getfield 43, 3) := by decide +kernel
theorem dX9_weighRemedies_103 : decode cX9_weighRemedies 103 = .ok (.getfield 231, 3) := by decide +kernel
theorem dX9_weighRemedies_106 : decode cX9_weighRemedies 106 = .ok (.iload_n 2, 1) := by decide +kernel
theorem dX9_weighRemedies_107 : decode cX9_weighRemedies 107 = .ok (.aload_n 0, 1) := by decide +kernel
theorem dX9_weighRemedies_108 : decode cX9_weighRemedies 108 = .ok (.getfield 36, 3) := by decide +kernel
theorem dX9_weighRemedies_111 : decode cX9_weighRemedies 111 = .ok (.aload_n 0, 1) := by decide +kernel
theorem dX9_weighRemedies_112 : decode cX9_weighRemedies 112 = .ok (.getfield 19, 3) := by decide +kernel
theorem dX9_weighRemedies_115 : decode cX9_weighRemedies 115 = .ok (.iload_n 1, 1) := by decide +kernel
theorem dX9_weighRemedies_116 : decode cX9_weighRemedies 116 = .ok (.iload_n 2, 1) := by decide +kernel
theorem dX9_weighRemedies_117 : decode cX9_weighRemedies 117 = .ok (.invokevirtual 110, 3) := by decide +kernel
theorem dX9_weighRemedies_120 : decode cX9_weighRemedies 120 = .ok (.aload_n 0, 1) := by decide +kernel
theorem dX9_weighRemedies_121 : decode cX9_weighRemedies 121 = .ok (.getfield 36, 3) := by decide +kernel
theorem dX9_weighRemedies_124 : decode cX9_weighRemedies 124 = .ok (.aload_n 0, 1) := by decide +kernel
theorem dX9_weighRemedies_125 : decode cX9_weighRemedies 125 = .ok (.getfield 10, 3) := by decide +kernel
theorem dX9_weighRemedies_128 : decode cX9_weighRemedies 128 = .ok (.iload_n 1, 1) := by decide +kernel
theorem dX9_weighRemedies_129 : decode cX9_weighRemedies 129 = .ok (.iload_n 2, 1) := by decide +kernel
theorem dX9_weighRemedies_130 : decode cX9_weighRemedies 130 = .ok (.invokevirtual 110, 3) := by decide +kernel
theorem dX9_weighRemedies_133 : decode cX9_weighRemedies 133 = .ok (.isub, 1) := by decide +kernel
theorem dX9_weighRemedies_134 : decode cX9_weighRemedies 134 = .ok (.iastore, 1) := by decide +kernel
theorem dX9_weighRemedies_135 : decode cX9_weighRemedies 135 = .ok (.iinc 2 1, 3) := by decide +kernel
theorem dX9_weighRemedies_138 : decode cX9_weighRemedies 138 = .ok (.goto (-45), 3) := by decide +kernel
theorem dX9_weighRemedies_141 : decode cX9_weighRemedies 141 = .ok (.aload_n 0, 1) := by decide +kernel
theorem dX9_weighRemedies_142 : decode cX9_weighRemedies 142 = .ok (.getfield 43, 3) := by decide +kernel
theorem dX9_weighRemedies_145 : decode cX9_weighRemedies 145 = .ok (.aload_n 0, 1) := by decide +kernel
theorem dX9_weighRemedies_146 : decode cX9_weighRemedies 146 = .ok (.getfield 36, 3) := by decide +kernel
theorem dX9_weighRemedies_149 : decode cX9_weighRemedies 149 = .ok (.aload_n 0, 1) := by decide +kernel
theorem dX9_weighRemedies_150 : decode cX9_weighRemedies 150 = .ok (.getfield 10, 3) := by decide +kernel
theorem dX9_weighRemedies_153 : decode cX9_weighRemedies 153 = .ok (.iload_n 1, 1) := by decide +kernel
theorem dX9_weighRemedies_154 : decode cX9_weighRemedies 154 = .ok (.invokevirtual 120, 3) := by decide +kernel
theorem dX9_weighRemedies_157 : decode cX9_weighRemedies 157 = .ok (.aload_n 0, 1) := by decide +kernel
theorem dX9_weighRemedies_158 : decode cX9_weighRemedies 158 = .ok (.getfield 43, 3) := by decide +kernel
theorem dX9_weighRemedies_161 : decode cX9_weighRemedies 161 = .ok (.getfield 238, 3) := by decide +kernel
theorem dX9_weighRemedies_164 : decode cX9_weighRemedies 164 = .ok (.invokevirtual 234, 3) := by decide +kernel
theorem dX9_weighRemedies_167 : decode cX9_weighRemedies 167 = .ok (.aload_n 0, 1) := by decide +kernel
theorem dX9_weighRemedies_168 : decode cX9_weighRemedies 168 = .ok (.getfield 43, 3) := by decide +kernel
theorem dX9_weighRemedies_171 : decode cX9_weighRemedies 171 = .ok (.aload_n 0, 1) := by decide +kernel
theorem dX9_weighRemedies_172 : decode cX9_weighRemedies 172 = .ok (.getfield 10, 3) := by decide +kernel
theorem dX9_weighRemedies_175 : decode cX9_weighRemedies 175 = .ok (.getfield 134, 3) := by decide +kernel
theorem dX9_weighRemedies_178 : decode cX9_weighRemedies 178 = .ok (.invokevirtual 241, 3) := by decide +kernel
theorem dX9_weighRemedies_181 : decode cX9_weighRemedies 181 = .ok (.iinc 1 1, 3) := by decide +kernel
theorem dX9_weighRemedies_184 : decode cX9_weighRemedies 184 = .ok (.goto (-104), 3) := by decide +kernel
theorem dX9_weighRemedies_187 : decode cX9_weighRemedies 187 = .ok (.return_, 1) := by decide +kernel
theorem dX9_lasts_0 : decode cX9_lasts 0 = .ok (.aload_n 0, 1) := by decide +kernel
theorem dX9_lasts_1 : decode cX9_lasts 1 = .ok (.getfield 19, 3) := by decide +kernel
theorem dX9_lasts_4 : decode cX9_lasts 4 = .ok (.aload_n 0, 1) := by decide +kernel
theorem dX9_lasts_5 : decode cX9_lasts 5 = .ok (.getfield 10, 3) := by decide +kernel
theorem dX9_lasts_8 : decode cX9_lasts 8 = .ok (.getfield 137, 3) := by decide +kernel
theorem dX9_lasts_11 : decode cX9_lasts 11 = .ok (.putfield 137, 3) := by decide +kernel
theorem dX9_lasts_14 : decode cX9_lasts 14 = .ok (.iconst 0, 1) := by decide +kernel
theorem dX9_lasts_15 : decode cX9_lasts 15 = .ok (.istore_n 2, 1) := by decide +kernel
theorem dX9_lasts_16 : decode cX9_lasts 16 = .ok (.iload_n 2, 1) := by decide +kernel
theorem dX9_lasts_17 : decode cX9_lasts 17 = .ok (.bipush 10, 2) := by decide +kernel
theorem dX9_lasts_19 : decode cX9_lasts 19 = .ok (.if_icmp .ge 43, 3) := by decide +kernel
theorem dX9_lasts_22 : decode cX9_lasts 22 = .ok (.aload_n 0, 1) := by decide +kernel
theorem dX9_lasts_23 : decode cX9_lasts 23 = .ok (.getfield 19, 3) := by decide +kernel
theorem dX9_lasts_26 : decode cX9_lasts 26 = .ok (.iload_n 1, 1) := by decide +kernel
theorem dX9_lasts_27 : decode cX9_lasts 27 = .ok (.invokevirtual 180, 3) := by decide +kernel
theorem dX9_lasts_30 : decode cX9_lasts 30 = .ok (.aload_n 0, 1) := by decide +kernel
theorem dX9_lasts_31 : decode cX9_lasts 31 = .ok (.getfield 19, 3) := by decide +kernel
theorem dX9_lasts_34 : decode cX9_lasts 34 = .ok (.aload_n 0, 1) := by decide +kernel
theorem dX9_lasts_35 : decode cX9_lasts 35 = .ok (.getfield 47, 3) := by decide +kernel
theorem dX9_lasts_38 : decode cX9_lasts 38 = .ok (.iload_n 2, 1) := by decide +kernel
theorem dX9_lasts_39 : decode cX9_lasts 39 = .ok (.iaload, 1) := by decide +kernel
theorem dX9_lasts_40 : decode cX9_lasts 40 = .ok (.ineg, 1) := by decide +kernel
theorem dX9_lasts_41 : decode cX9_lasts 41 = .ok (.invokevirtual 180, 3) := by decide +kernel
theorem dX9_lasts_44 : decode cX9_lasts 44 = .ok (.aload_n 0, 1) := by decide +kernel
theorem dX9_lasts_45 : decode cX9_lasts 45 = .ok (.getfield 19, 3) := by decide +kernel
theorem dX9_lasts_48 : decode cX9_lasts 48 = .ok (.getfield 137, 3) := by decide +kernel
theorem dX9_lasts_51 : decode cX9_lasts 51 = .ok (.ifCond .ge 5, 3) := by decide +kernel
theorem dX9_lasts_54 : decode cX9_lasts 54 = .ok (.iconst 0, 1) := by decide +kernel
theorem dX9_lasts_55 : decode cX9_lasts 55 = .ok (.ireturn, 1) := by decide +kernel
theorem dX9_lasts_56 : decode cX9_lasts 56 = .ok (.iinc 2 1, 3) := by decide +kernel
theorem dX9_lasts_59 : decode cX9_lasts 59 = .ok (.goto (-43), 3) := by decide +kernel
theorem dX9_lasts_62 : decode cX9_lasts 62 = .ok (.iconst 1, 1) := by decide +kernel
theorem dX9_lasts_63 : decode cX9_lasts 63 = .ok (.ireturn, 1) := by decide +kernel
theorem dX9_bestHour_0 : decode cX9_bestHour 0 = .ok (.iconst 0, 1) := by decide +kernel
theorem dX9_bestHour_1 : decode cX9_bestHour 1 = .ok (.istore_n 2, 1) := by decide +kernel
theorem dX9_bestHour_2 : decode cX9_bestHour 2 = .ok (.aload_n 0, 1) := by decide +kernel
theorem dX9_bestHour_3 : decode cX9_bestHour 3 = .ok (.getfield 36, 3) := by decide +kernel
theorem dX9_bestHour_6 : decode cX9_bestHour 6 = .ok (.aload_n 0, 1) := by decide +kernel
theorem dX9_bestHour_7 : decode cX9_bestHour 7 = .ok (.getfield 10, 3) := by decide +kernel
theorem dX9_bestHour_10 : decode cX9_bestHour 10 = .ok (.iload_n 1, 1) := by decide +kernel
theorem dX9_bestHour_11 : decode cX9_bestHour 11 = .ok (.iconst 0, 1) := by decide +kernel
theorem dX9_bestHour_12 : decode cX9_bestHour 12 = .ok (.invokevirtual 110, 3) := by decide +kernel
theorem dX9_bestHour_15 : decode cX9_bestHour 15 = .ok (.istore_n 3, 1) := by decide +kernel
theorem dX9_bestHour_16 : decode cX9_bestHour 16 = .ok (.iconst 1, 1) := by decide +kernel
theorem dX9_bestHour_17 : decode cX9_bestHour 17 = .ok (.istore 4, 2) := by decide +kernel
theorem dX9_bestHour_19 : decode cX9_bestHour 19 = .ok (.iload 4, 2) := by decide +kernel
theorem dX9_bestHour_21 : decode cX9_bestHour 21 = .ok (.bipush 8, 2) := by decide +kernel
theorem dX9_bestHour_23 : decode cX9_bestHour 23 = .ok (.if_icmp .ge 37, 3) := by decide +kernel
theorem dX9_bestHour_26 : decode cX9_bestHour 26 = .ok (.aload_n 0, 1) := by decide +kernel
theorem dX9_bestHour_27 : decode cX9_bestHour 27 = .ok (.getfield 36, 3) := by decide +kernel
theorem dX9_bestHour_30 : decode cX9_bestHour 30 = .ok (.aload_n 0, 1) := by decide +kernel
theorem dX9_bestHour_31 : decode cX9_bestHour 31 = .ok (.getfield 10, 3) := by decide +kernel
theorem dX9_bestHour_34 : decode cX9_bestHour 34 = .ok (.iload_n 1, 1) := by decide +kernel
theorem dX9_bestHour_35 : decode cX9_bestHour 35 = .ok (.iload 4, 2) := by decide +kernel
theorem dX9_bestHour_37 : decode cX9_bestHour 37 = .ok (.invokevirtual 110, 3) := by decide +kernel
theorem dX9_bestHour_40 : decode cX9_bestHour 40 = .ok (.istore 5, 2) := by decide +kernel
theorem dX9_bestHour_42 : decode cX9_bestHour 42 = .ok (.iload 5, 2) := by decide +kernel
theorem dX9_bestHour_44 : decode cX9_bestHour 44 = .ok (.iload_n 3, 1) := by decide +kernel
theorem dX9_bestHour_45 : decode cX9_bestHour 45 = .ok (.if_icmp .le 9, 3) := by decide +kernel
theorem dX9_bestHour_48 : decode cX9_bestHour 48 = .ok (.iload 4, 2) := by decide +kernel
theorem dX9_bestHour_50 : decode cX9_bestHour 50 = .ok (.istore_n 2, 1) := by decide +kernel
theorem dX9_bestHour_51 : decode cX9_bestHour 51 = .ok (.iload 5, 2) := by decide +kernel
theorem dX9_bestHour_53 : decode cX9_bestHour 53 = .ok (.istore_n 3, 1) := by decide +kernel
theorem dX9_bestHour_54 : decode cX9_bestHour 54 = .ok (.iinc 4 1, 3) := by decide +kernel
theorem dX9_bestHour_57 : decode cX9_bestHour 57 = .ok (.goto (-38), 3) := by decide +kernel
theorem dX9_bestHour_60 : decode cX9_bestHour 60 = .ok (.iload_n 2, 1) := by decide +kernel
theorem dX9_bestHour_61 : decode cX9_bestHour 61 = .ok (.ireturn, 1) := by decide +kernel
theorem dX9_alone_0 : decode cX9_alone 0 = .ok (.aload_n 0, 1) := by decide +kernel
theorem dX9_alone_1 : decode cX9_alone 1 = .ok (.getfield 36, 3) := by decide +kernel
theorem dX9_alone_4 : decode cX9_alone 4 = .ok (.aload_n 0, 1) := by decide +kernel
theorem dX9_alone_5 : decode cX9_alone 5 = .ok (.getfield 10, 3) := by decide +kernel
theorem dX9_alone_8 : decode cX9_alone 8 = .ok (.iload_n 1, 1) := by decide +kernel
theorem dX9_alone_9 : decode cX9_alone 9 = .ok (.invokevirtual 244, 3) := by decide +kernel
theorem dX9_alone_12 : decode cX9_alone 12 = .ok (.istore_n 2, 1) := by decide +kernel
theorem dX9_alone_13 : decode cX9_alone 13 = .ok (.iconst 0, 1) := by decide +kernel
theorem dX9_alone_14 : decode cX9_alone 14 = .ok (.istore_n 3, 1) := by decide +kernel
theorem dX9_alone_15 : decode cX9_alone 15 = .ok (.iload_n 3, 1) := by decide +kernel
theorem dX9_alone_16 : decode cX9_alone 16 = .ok (.aload_n 0, 1) := by decide +kernel
theorem dX9_alone_17 : decode cX9_alone 17 = .ok (.getfield 10, 3) := by decide +kernel
theorem dX9_alone_20 : decode cX9_alone 20 = .ok (.getfield 203, 3) := by decide +kernel
theorem dX9_alone_23 : decode cX9_alone 23 = .ok (.if_icmp .ge 31, 3) := by decide +kernel
theorem dX9_alone_26 : decode cX9_alone 26 = .ok (.iload_n 3, 1) := by decide +kernel
theorem dX9_alone_27 : decode cX9_alone 27 = .ok (.iload_n 1, 1) := by decide +kernel
theorem dX9_alone_28 : decode cX9_alone 28 = .ok (.if_icmp .eq 20, 3) := by decide +kernel
theorem dX9_alone_31 : decode cX9_alone 31 = .ok (.iload_n 2, 1) := by decide +kernel
theorem dX9_alone_32 : decode cX9_alone 32 = .ok (.aload_n 0, 1) := by decide +kernel
theorem dX9_alone_33 : decode cX9_alone 33 = .ok (.getfield 36, 3) := by decide +kernel
theorem dX9_alone_36 : decode cX9_alone 36 = .ok (.aload_n 0, 1) := by decide +kernel
theorem dX9_alone_37 : decode cX9_alone 37 = .ok (.getfield 10, 3) := by decide +kernel
theorem dX9_alone_40 : decode cX9_alone 40 = .ok (.iload_n 3, 1) := by decide +kernel
theorem dX9_alone_41 : decode cX9_alone 41 = .ok (.invokevirtual 244, 3) := by decide +kernel
theorem dX9_alone_44 : decode cX9_alone 44 = .ok (.iconst (-1), 1) := by decide +kernel
theorem dX9_alone_45 : decode cX9_alone 45 = .ok (.ixor, 1) := by decide +kernel
theorem dX9_alone_46 : decode cX9_alone 46 = .ok (.iand, 1) := by decide +kernel
theorem dX9_alone_47 : decode cX9_alone 47 = .ok (.istore_n 2, 1) := by decide +kernel
theorem dX9_alone_48 : decode cX9_alone 48 = .ok (.iinc 3 1, 3) := by decide +kernel
theorem dX9_alone_51 : decode cX9_alone 51 = .ok (.goto (-36), 3) := by decide +kernel
theorem dX9_alone_54 : decode cX9_alone 54 = .ok (.iload_n 2, 1) := by decide +kernel
theorem dX9_alone_55 : decode cX9_alone 55 = .ok (.ireturn, 1) := by decide +kernel
theorem dX9_tells_0 : decode cX9_tells 0 = .ok (.iload_n 1, 1) := by decide +kernel
theorem dX9_tells_1 : decode cX9_tells 1 = .ok (.invokestatic 247, 3) := by decide +kernel
theorem dX9_tells_4 : decode cX9_tells 4 = .ok (.ifCond .eq 34, 3) := by decide +kernel
theorem dX9_tells_7 : decode cX9_tells 7 = .ok (.aload_n 0, 1) := by decide +kernel
theorem dX9_tells_8 : decode cX9_tells 8 = .ok (.getfield 10, 3) := by decide +kernel
theorem dX9_tells_11 : decode cX9_tells 11 = .ok (.iload_n 2, 1) := by decide +kernel
theorem dX9_tells_12 : decode cX9_tells 12 = .ok (.invokevirtual 107, 3) := by decide +kernel
theorem dX9_tells_15 : decode cX9_tells 15 = .ok (.ifCond .eq 23, 3) := by decide +kernel
theorem dX9_tells_18 : decode cX9_tells 18 = .ok (.iload_n 3, 1) := by decide +kernel
theorem dX9_tells_19 : decode cX9_tells 19 = .ok (.bipush 10, 2) := by decide +kernel
theorem dX9_tells_21 : decode cX9_tells 21 = .ok (.isub, 1) := by decide +kernel
theorem dX9_tells_22 : decode cX9_tells 22 = .ok (.invokestatic 99, 3) := by decide +kernel
theorem dX9_tells_25 : decode cX9_tells 25 = .ok (.ifCond .ne 16, 3) := by decide +kernel
theorem dX9_tells_28 : decode cX9_tells 28 = .ok (.iload_n 3, 1) := by decide +kernel
theorem dX9_tells_29 : decode cX9_tells 29 = .ok (.ifCond .lt 9, 3) := by decide +kernel
theorem dX9_tells_32 : decode cX9_tells 32 = .ok (.iload_n 3, 1) := by decide +kernel
theorem dX9_tells_33 : decode cX9_tells 33 = .ok (.bipush 8, 2) := by decide +kernel
theorem dX9_tells_35 : decode cX9_tells 35 = .ok (.if_icmp .le 6, 3) := by decide +kernel
theorem dX9_tells_38 : decode cX9_tells 38 = .ok (.bipush (-2), 2) := by decide +kernel
theorem dX9_tells_40 : decode cX9_tells 40 = .ok (.ireturn, 1) := by decide +kernel
theorem dX9_tells_41 : decode cX9_tells 41 = .ok (.aload_n 0, 1) := by decide +kernel
theorem dX9_tells_42 : decode cX9_tells 42 = .ok (.getfield 53, 3) := by decide +kernel
theorem dX9_tells_45 : decode cX9_tells 45 = .ok (.iload_n 1, 1) := by decide +kernel
theorem dX9_tells_46 : decode cX9_tells 46 = .ok (.aaload, 1) := by decide +kernel
theorem dX9_tells_47 : decode cX9_tells 47 = .ok (.astore 4, 2) := by decide +kernel
theorem dX9_tells_49 : decode cX9_tells 49 = .ok (.aload 4, 2) := by decide +kernel
theorem dX9_tells_51 : decode cX9_tells 51 = .ok (.invokevirtual 250, 3) := by decide +kernel
theorem dX9_tells_54 : decode cX9_tells 54 = .ok (.ifCond .eq 6, 3) := by decide +kernel
theorem dX9_tells_57 : decode cX9_tells 57 = .ok (.bipush (-11), 2) := by decide +kernel
theorem dX9_tells_59 : decode cX9_tells 59 = .ok (.ireturn, 1) := by decide +kernel
theorem dX9_tells_60 : decode cX9_tells 60 = .ok (.aload 4, 2) := by decide +kernel
theorem dX9_tells_62 : decode cX9_tells 62 = .ok (.getfield 254, 3) := by decide +kernel
theorem dX9_tells_65 : decode cX9_tells 65 = .ok (.bipush 8, 2) := by decide +kernel
theorem dX9_tells_67 : decode cX9_tells 67 = .ok (.if_icmp .eq 6, 3) := by decide +kernel
theorem dX9_tells_70 : decode cX9_tells 70 = .ok (.bipush (-2), 2) := by decide +kernel
theorem dX9_tells_72 : decode cX9_tells 72 = .ok (.ireturn, 1) := by decide +kernel
theorem dX9_tells_73 : decode cX9_tells 73 = .ok (.aload_n 0, 1) := by decide +kernel
theorem dX9_tells_74 : decode cX9_tells 74 = .ok (.getfield 19, 3) := by decide +kernel
theorem dX9_tells_77 : decode cX9_tells 77 = .ok (.aload_n 0, 1) := by decide +kernel
theorem dX9_tells_78 : decode cX9_tells 78 = .ok (.getfield 10, 3) := by decide +kernel
theorem dX9_tells_81 : decode cX9_tells 81 = .ok (.invokevirtual 184, 3) := by decide +kernel
theorem dX9_tells_84 : decode cX9_tells 84 = .ok (.iload_n 3, 1) := by decide +kernel
theorem dX9_tells_85 : decode cX9_tells 85 = .ok (.tableswitch 140 0 8 #[51, 59, 70, 81, 90, 99, 108, 117, 133], 51) := by decide +kernel
theorem dX9_tells_136 : decode cX9_tells 136 = .ok (.aload_n 0, 1) := by decide +kernel
theorem dX9_tells_137 : decode cX9_tells 137 = .ok (.aload 4, 2) := by decide +kernel
theorem dX9_tells_139 : decode cX9_tells 139 = .ok (.iload_n 2, 1) := by decide +kernel
theorem dX9_tells_140 : decode cX9_tells 140 = .ok (.invokevirtual 255, 3) := by decide +kernel
theorem dX9_tells_143 : decode cX9_tells 143 = .ok (.ireturn, 1) := by decide +kernel
theorem dX9_tells_144 : decode cX9_tells 144 = .ok (.aload_n 0, 1) := by decide +kernel
theorem dX9_tells_145 : decode cX9_tells 145 = .ok (.aload 4, 2) := by decide +kernel
theorem dX9_tells_147 : decode cX9_tells 147 = .ok (.iload_n 2, 1) := by decide +kernel
theorem dX9_tells_148 : decode cX9_tells 148 = .ok (.iload_n 3, 1) := by decide +kernel
theorem dX9_tells_149 : decode cX9_tells 149 = .ok (.bipush 6, 2) := by decide +kernel
theorem dX9_tells_151 : decode cX9_tells 151 = .ok (.invokevirtual 259, 3) := by decide +kernel
theorem dX9_tells_154 : decode cX9_tells 154 = .ok (.ireturn, 1) := by decide +kernel
theorem dX9_tells_155 : decode cX9_tells 155 = .ok (.aload_n 0, 1) := by decide +kernel
theorem dX9_tells_156 : decode cX9_tells 156 = .ok (.aload 4, 2) := by decide +kernel
theorem dX9_tells_158 : decode cX9_tells 158 = .ok (.iload_n 2, 1) := by decide +kernel
theorem dX9_tells_159 : decode cX9_tells 159 = .ok (.iload_n 3, 1) := by decide +kernel
theorem dX9_tells_160 : decode cX9_tells 160 = .ok (.bipush 10, 2) := by decide +kernel
theorem dX9_tells_162 : decode cX9_tells 162 = .ok (.invokevirtual 259, 3) := by decide +kernel
theorem dX9_tells_165 : decode cX9_tells 165 = .ok (.ireturn, 1) := by decide +kernel
theorem dX9_tells_166 : decode cX9_tells 166 = .ok (.aload_n 0, 1) := by decide +kernel
theorem dX9_tells_167 : decode cX9_tells 167 = .ok (.aload 4, 2) := by decide +kernel
theorem dX9_tells_169 : decode cX9_tells 169 = .ok (.iload_n 2, 1) := by decide +kernel
theorem dX9_tells_170 : decode cX9_tells 170 = .ok (.iconst 1, 1) := by decide +kernel
theorem dX9_tells_171 : decode cX9_tells 171 = .ok (.invokevirtual 263, 3) := by decide +kernel
theorem dX9_tells_174 : decode cX9_tells 174 = .ok (.ireturn, 1) := by decide +kernel
theorem dX9_tells_175 : decode cX9_tells 175 = .ok (.aload_n 0, 1) := by decide +kernel
theorem dX9_tells_176 : decode cX9_tells 176 = .ok (.aload 4, 2) := by decide +kernel
theorem dX9_tells_178 : decode cX9_tells 178 = .ok (.iload_n 2, 1) := by decide +kernel
theorem dX9_tells_179 : decode cX9_tells 179 = .ok (.iconst 0, 1) := by decide +kernel
theorem dX9_tells_180 : decode cX9_tells 180 = .ok (.invokevirtual 263, 3) := by decide +kernel
theorem dX9_tells_183 : decode cX9_tells 183 = .ok (.ireturn, 1) := by decide +kernel
theorem dX9_tells_184 : decode cX9_tells 184 = .ok (.aload_n 0, 1) := by decide +kernel
theorem dX9_tells_185 : decode cX9_tells 185 = .ok (.aload 4, 2) := by decide +kernel
theorem dX9_tells_187 : decode cX9_tells 187 = .ok (.iload_n 2, 1) := by decide +kernel
theorem dX9_tells_188 : decode cX9_tells 188 = .ok (.iconst 1, 1) := by decide +kernel
theorem dX9_tells_189 : decode cX9_tells 189 = .ok (.invokevirtual 267, 3) := by decide +kernel
theorem dX9_tells_192 : decode cX9_tells 192 = .ok (.ireturn, 1) := by decide +kernel
theorem dX9_tells_193 : decode cX9_tells 193 = .ok (.aload_n 0, 1) := by decide +kernel
theorem dX9_tells_194 : decode cX9_tells 194 = .ok (.aload 4, 2) := by decide +kernel
theorem dX9_tells_196 : decode cX9_tells 196 = .ok (.iload_n 2, 1) := by decide +kernel
theorem dX9_tells_197 : decode cX9_tells 197 = .ok (.iconst 0, 1) := by decide +kernel
theorem dX9_tells_198 : decode cX9_tells 198 = .ok (.invokevirtual 267, 3) := by decide +kernel
theorem dX9_tells_201 : decode cX9_tells 201 = .ok (.ireturn, 1) := by decide +kernel
theorem dX9_tells_202 : decode cX9_tells 202 = .ok (.aload_n 0, 1) := by decide +kernel
theorem dX9_tells_203 : decode cX9_tells 203 = .ok (.aload 4, 2) := by decide +kernel
theorem dX9_tells_205 : decode cX9_tells 205 = .ok (.iload_n 2, 1) := by decide +kernel
theorem dX9_tells_206 : decode cX9_tells 206 = .ok (.iload_n 3, 1) := by decide +kernel
theorem dX9_tells_207 : decode cX9_tells 207 = .ok (.aload_n 0, 1) := by decide +kernel
theorem dX9_tells_208 : decode cX9_tells 208 = .ok (.getfield 36, 3) := by decide +kernel
theorem dX9_tells_211 : decode cX9_tells 211 = .ok (.getfield 158, 3) := by decide +kernel
theorem dX9_tells_214 : decode cX9_tells 214 = .ok (.invokevirtual 259, 3) := by decide +kernel
theorem dX9_tells_217 : decode cX9_tells 217 = .ok (.ireturn, 1) := by decide +kernel
theorem dX9_tells_218 : decode cX9_tells 218 = .ok (.aload_n 0, 1) := by decide +kernel
theorem dX9_tells_219 : decode cX9_tells 219 = .ok (.aload 4, 2) := by decide +kernel
theorem dX9_tells_221 : decode cX9_tells 221 = .ok (.invokevirtual 270, 3) := by decide +kernel
theorem dX9_tells_224 : decode cX9_tells 224 = .ok (.ireturn, 1) := by decide +kernel
theorem dX9_tells_225 : decode cX9_tells 225 = .ok (.aload_n 0, 1) := by decide +kernel
theorem dX9_tells_226 : decode cX9_tells 226 = .ok (.aload 4, 2) := by decide +kernel
theorem dX9_tells_228 : decode cX9_tells 228 = .ok (.iload_n 2, 1) := by decide +kernel
theorem dX9_tells_229 : decode cX9_tells 229 = .ok (.iload_n 3, 1) := by decide +kernel
theorem dX9_tells_230 : decode cX9_tells 230 = .ok (.bipush 19, 2) := by decide +kernel
theorem dX9_tells_232 : decode cX9_tells 232 = .ok (.invokevirtual 259, 3) := by decide +kernel
theorem dX9_tells_235 : decode cX9_tells 235 = .ok (.ireturn, 1) := by decide +kernel
theorem dX9_film_0 : decode cX9_film 0 = .ok (.iload_n 1, 1) := by decide +kernel
theorem dX9_film_1 : decode cX9_film 1 = .ok (.invokestatic 247, 3) := by decide +kernel
theorem dX9_film_4 : decode cX9_film 4 = .ok (.ifCond .eq 14, 3) := by decide +kernel
theorem dX9_film_7 : decode cX9_film 7 = .ok (.aload_n 0, 1) := by decide +kernel
theorem dX9_film_8 : decode cX9_film 8 = .ok (.getfield 10, 3) := by decide +kernel
theorem dX9_film_11 : decode cX9_film 11 = .ok (.iload_n 2, 1) := by decide +kernel
theorem dX9_film_12 : decode cX9_film 12 = .ok (.invokevirtual 107, 3) := by decide +kernel
theorem dX9_film_15 : decode cX9_film 15 = .ok (.ifCond .ne 6, 3) := by decide +kernel
theorem dX9_film_18 : decode cX9_film 18 = .ok (.ldc 87, 2) := by decide +kernel
theorem dX9_film_20 : decode cX9_film 20 = .ok (.ireturn, 1) := by decide +kernel
theorem dX9_film_21 : decode cX9_film 21 = .ok (.aload_n 0, 1) := by decide +kernel
theorem dX9_film_22 : decode cX9_film 22 = .ok (.getfield 53, 3) := by decide +kernel
theorem dX9_film_25 : decode cX9_film 25 = .ok (.iload_n 1, 1) := by decide +kernel
theorem dX9_film_26 : decode cX9_film 26 = .ok (.aaload, 1) := by decide +kernel
theorem dX9_film_27 : decode cX9_film 27 = .ok (.astore_n 3, 1) := by decide +kernel
theorem dX9_film_28 : decode cX9_film 28 = .ok (.aload_n 3, 1) := by decide +kernel
theorem dX9_film_29 : decode cX9_film 29 = .ok (.iconst 0, 1) := by decide +kernel
theorem dX9_film_30 : decode cX9_film 30 = .ok (.bipush 8, 2) := by decide +kernel
theorem dX9_film_32 : decode cX9_film 32 = .ok (.invokevirtual 274, 3) := by decide +kernel
theorem dX9_film_35 : decode cX9_film 35 = .ok (.iconst 0, 1) := by decide +kernel
theorem dX9_film_36 : decode cX9_film 36 = .ok (.istore 4, 2) := by decide +kernel
theorem dX9_film_38 : decode cX9_film 38 = .ok (.iload 4, 2) := by decide +kernel
theorem dX9_film_40 : decode cX9_film 40 = .ok (.bipush 8, 2) := by decide +kernel
theorem dX9_film_42 : decode cX9_film 42 = .ok (.if_icmp .ge 29, 3) := by decide +kernel
theorem dX9_film_45 : decode cX9_film 45 = .ok (.aload_n 3, 1) := by decide +kernel
theorem dX9_film_46 : decode cX9_film 46 = .ok (.iload 4, 2) := by decide +kernel
theorem dX9_film_48 : decode cX9_film 48 = .ok (.aload_n 0, 1) := by decide +kernel
theorem dX9_film_49 : decode cX9_film 49 = .ok (.getfield 36, 3) := by decide +kernel
theorem dX9_film_52 : decode cX9_film 52 = .ok (.aload_n 0, 1) := by decide +kernel
theorem dX9_film_53 : decode cX9_film 53 = .ok (.getfield 10, 3) := by decide +kernel
theorem dX9_film_56 : decode cX9_film 56 = .ok (.iload_n 2, 1) := by decide +kernel
theorem dX9_film_57 : decode cX9_film 57 = .ok (.iload 4, 2) := by decide +kernel
theorem dX9_film_59 : decode cX9_film 59 = .ok (.invokevirtual 110, 3) := by decide +kernel
theorem dX9_film_62 : decode cX9_film 62 = .ok (.invokevirtual 278, 3) := by decide +kernel
theorem dX9_film_65 : decode cX9_film 65 = .ok (.iinc 4 1, 3) := by decide +kernel
theorem dX9_film_68 : decode cX9_film 68 = .ok (.goto (-30), 3) := by decide +kernel
theorem dX9_film_71 : decode cX9_film 71 = .ok (.aload_n 0, 1) := by decide +kernel
theorem dX9_film_72 : decode cX9_film 72 = .ok (.getfield 36, 3) := by decide +kernel
theorem dX9_film_75 : decode cX9_film 75 = .ok (.aload_n 0, 1) := by decide +kernel
theorem dX9_film_76 : decode cX9_film 76 = .ok (.getfield 10, 3) := by decide +kernel
theorem dX9_film_79 : decode cX9_film 79 = .ok (.iload_n 2, 1) := by decide +kernel
theorem dX9_film_80 : decode cX9_film 80 = .ok (.invokevirtual 120, 3) := by decide +kernel
theorem dX9_film_83 : decode cX9_film 83 = .ok (.ireturn, 1) := by decide +kernel
theorem dX9_drawn_0 : decode cX9_drawn 0 = .ok (.aload_n 0, 1) := by decide +kernel
theorem dX9_drawn_1 : decode cX9_drawn 1 = .ok (.getfield 19, 3) := by decide +kernel
theorem dX9_drawn_4 : decode cX9_drawn 4 = .ok (.aload_n 0, 1) := by decide +kernel
theorem dX9_drawn_5 : decode cX9_drawn 5 = .ok (.getfield 10, 3) := by decide +kernel
theorem dX9_drawn_8 : decode cX9_drawn 8 = .ok (.invokevirtual 184, 3) := by decide +kernel
theorem dX9_drawn_11 : decode cX9_drawn 11 = .ok (.aload_n 0, 1) := by decide +kernel
theorem dX9_drawn_12 : decode cX9_drawn 12 = .ok (.iload_n 1, 1) := by decide +kernel
theorem dX9_drawn_13 : decode cX9_drawn 13 = .ok (.invokevirtual 281, 3) := by decide +kernel
theorem dX9_drawn_16 : decode cX9_drawn 16 = .ok (.ireturn, 1) := by decide +kernel
theorem dX9_chance_0 : decode cX9_chance 0 = .ok (.iload_n 2, 1) := by decide +kernel
theorem dX9_chance_1 : decode cX9_chance 1 = .ok (.iconst 1, 1) := by decide +kernel
theorem dX9_chance_2 : decode cX9_chance 2 = .ok (.if_icmp .lt 30, 3) := by decide +kernel
theorem dX9_chance_5 : decode cX9_chance 5 = .ok (.iload_n 2, 1) := by decide +kernel
theorem dX9_chance_6 : decode cX9_chance 6 = .ok (.bipush 20, 2) := by decide +kernel
theorem dX9_chance_8 : decode cX9_chance 8 = .ok (.if_icmp .gt 24, 3) := by decide +kernel
theorem dX9_chance_11 : decode cX9_chance 11 = .ok (.iload_n 3, 1) := by decide +kernel
theorem dX9_chance_12 : decode cX9_chance 12 = .ok (.ifCond .lt 20, 3) := by decide +kernel
theorem dX9_chance_15 : decode cX9_chance 15 = .ok (.iload_n 3, 1) := by decide +kernel
theorem dX9_chance_16 : decode cX9_chance 16 = .ok (.bipush 6, 2) := by decide +kernel
theorem dX9_chance_18 : decode cX9_chance 18 = .ok (.if_icmp .gt 14, 3) := by decide +kernel
theorem dX9_chance_21 : decode cX9_chance 21 = .ok (.iload 4, 2) := by decide +kernel
theorem dX9_chance_23 : decode cX9_chance 23 = .ok (.ifCond .lt 9, 3) := by decide +kernel
theorem dX9_chance_26 : decode cX9_chance 26 = .ok (.iload 4, 2) := by decide +kernel
theorem dX9_chance_28 : decode cX9_chance 28 = .ok (.iconst 1, 1) := by decide +kernel
theorem dX9_chance_29 : decode cX9_chance 29 = .ok (.if_icmp .le 7, 3) := by decide +kernel
theorem dX9_chance_32 : decode cX9_chance 32 = .ok (.ldc2_w 284, 3) := by decide +kernel
theorem dX9_chance_35 : decode cX9_chance 35 = .ok (.lreturn, 1) := by decide +kernel
theorem dX9_chance_36 : decode cX9_chance 36 = .ok (.aload_n 0, 1) := by decide +kernel
theorem dX9_chance_37 : decode cX9_chance 37 = .ok (.getfield 19, 3) := by decide +kernel
theorem dX9_chance_40 : decode cX9_chance 40 = .ok (.aload_n 0, 1) := by decide +kernel
theorem dX9_chance_41 : decode cX9_chance 41 = .ok (.getfield 10, 3) := by decide +kernel
theorem dX9_chance_44 : decode cX9_chance 44 = .ok (.invokevirtual 184, 3) := by decide +kernel
theorem dX9_chance_47 : decode cX9_chance 47 = .ok (.iconst 0, 1) := by decide +kernel
theorem dX9_chance_48 : decode cX9_chance 48 = .ok (.istore 5, 2) := by decide +kernel
theorem dX9_chance_50 : decode cX9_chance 50 = .ok (.iconst 0, 1) := by decide +kernel
theorem dX9_chance_51 : decode cX9_chance 51 = .ok (.istore 6, 2) := by decide +kernel
theorem dX9_chance_53 : decode cX9_chance 53 = .ok (.iload 6, 2) := by decide +kernel
theorem dX9_chance_55 : decode cX9_chance 55 = .ok (.iload_n 2, 1) := by decide +kernel
theorem dX9_chance_56 : decode cX9_chance 56 = .ok (.if_icmp .ge 24, 3) := by decide +kernel
theorem dX9_chance_59 : decode cX9_chance 59 = .ok (.aload_n 0, 1) := by decide +kernel
theorem dX9_chance_60 : decode cX9_chance 60 = .ok (.iload_n 1, 1) := by decide +kernel
theorem dX9_chance_61 : decode cX9_chance 61 = .ok (.iload 6, 2) := by decide +kernel
theorem dX9_chance_63 : decode cX9_chance 63 = .ok (.iadd, 1) := by decide +kernel
theorem dX9_chance_64 : decode cX9_chance 64 = .ok (.invokevirtual 281, 3) := by decide +kernel
theorem dX9_chance_67 : decode cX9_chance 67 = .ok (.iload_n 3, 1) := by decide +kernel
theorem dX9_chance_68 : decode cX9_chance 68 = .ok (.if_icmp .lt 6, 3) := by decide +kernel
theorem dX9_chance_71 : decode cX9_chance 71 = .ok (.iinc 5 1, 3) := by decide +kernel
theorem dX9_chance_74 : decode cX9_chance 74 = .ok (.iinc 6 1, 3) := by decide +kernel
theorem dX9_chance_77 : decode cX9_chance 77 = .ok (.goto (-24), 3) := by decide +kernel
theorem dX9_chance_80 : decode cX9_chance 80 = .ok (.iload 5, 2) := by decide +kernel
theorem dX9_chance_82 : decode cX9_chance 82 = .ok (.iload_n 2, 1) := by decide +kernel
theorem dX9_chance_83 : decode cX9_chance 83 = .ok (.invokestatic 286, 3) := by decide +kernel
theorem dX9_chance_86 : decode cX9_chance 86 = .ok (.istore 6, 2) := by decide +kernel
theorem dX9_chance_88 : decode cX9_chance 88 = .ok (.iload 4, 2) := by decide +kernel
theorem dX9_chance_90 : decode cX9_chance 90 = .ok (.ifCond .ne 8, 3) := by decide +kernel
theorem dX9_chance_93 : decode cX9_chance 93 = .ok (.iload 5, 2) := by decide +kernel
theorem dX9_chance_95 : decode cX9_chance 95 = .ok (.goto 4, 3) := by decide +kernel
theorem dX9_chance_98 : decode cX9_chance 98 = .ok (.iload_n 2, 1) := by decide +kernel
theorem dX9_chance_99 : decode cX9_chance 99 = .ok (.iload 6, 2) := by decide +kernel
theorem dX9_chance_101 : decode cX9_chance 101 = .ok (.idiv, 1) := by decide +kernel
theorem dX9_chance_102 : decode cX9_chance 102 = .ok (.i2l, 1) := by decide +kernel
theorem dX9_chance_103 : decode cX9_chance 103 = .ok (.lreturn, 1) := by decide +kernel
theorem dX9_image_0 : decode cX9_image 0 = .ok (.aload_n 0, 1) := by decide +kernel
theorem dX9_image_1 : decode cX9_image 1 = .ok (.getfield 16, 3) := by decide +kernel
theorem dX9_image_4 : decode cX9_image 4 = .ok (.aload_n 0, 1) := by decide +kernel
theorem dX9_image_5 : decode cX9_image 5 = .ok (.getfield 10, 3) := by decide +kernel
theorem dX9_image_8 : decode cX9_image 8 = .ok (.invokevirtual 184, 3) := by decide +kernel
theorem dX9_image_11 : decode cX9_image 11 = .ok (.aload_n 0, 1) := by decide +kernel
theorem dX9_image_12 : decode cX9_image 12 = .ok (.iconst 1, 1) := by decide +kernel
theorem dX9_image_13 : decode cX9_image 13 = .ok (.putfield 22, 3) := by decide +kernel
theorem dX9_image_16 : decode cX9_image 16 = .ok (.aload_n 0, 1) := by decide +kernel
theorem dX9_image_17 : decode cX9_image 17 = .ok (.getfield 10, 3) := by decide +kernel
theorem dX9_image_20 : decode cX9_image 20 = .ok (.getfield 203, 3) := by decide +kernel
theorem dX9_image_23 : decode cX9_image 23 = .ok (.ireturn, 1) := by decide +kernel
theorem dX9_back_0 : decode cX9_back 0 = .ok (.aload_n 0, 1) := by decide +kernel
theorem dX9_back_1 : decode cX9_back 1 = .ok (.getfield 22, 3) := by decide +kernel
theorem dX9_back_4 : decode cX9_back 4 = .ok (.ifCond .ne 6, 3) := by decide +kernel
theorem dX9_back_7 : decode cX9_back 7 = .ok (.bipush (-3), 2) := by decide +kernel
theorem dX9_back_9 : decode cX9_back 9 = .ok (.ireturn, 1) := by decide +kernel
theorem dX9_back_10 : decode cX9_back 10 = .ok (.aload_n 0, 1) := by decide +kernel
theorem dX9_back_11 : decode cX9_back 11 = .ok (.getfield 10, 3) := by decide +kernel
theorem dX9_back_14 : decode cX9_back 14 = .ok (.aload_n 0, 1) := by decide +kernel
theorem dX9_back_15 : decode cX9_back 15 = .ok (.getfield 16, 3) := by decide +kernel
theorem dX9_back_18 : decode cX9_back 18 = .ok (.invokevirtual 184, 3) := by decide +kernel
theorem dX9_back_21 : decode cX9_back 21 = .ok (.aload_n 0, 1) := by decide +kernel
theorem dX9_back_22 : decode cX9_back 22 = .ok (.getfield 10, 3) := by decide +kernel
theorem dX9_back_25 : decode cX9_back 25 = .ok (.getfield 203, 3) := by decide +kernel
theorem dX9_back_28 : decode cX9_back 28 = .ok (.ireturn, 1) := by decide +kernel
theorem dX9_count_0 : decode cX9_count 0 = .ok (.iload_n 1, 1) := by decide +kernel
theorem dX9_count_1 : decode cX9_count 1 = .ok (.tableswitch 90 0 5 #[39, 47, 58, 66, 74, 82], 39) := by decide +kernel
theorem dX9_count_40 : decode cX9_count 40 = .ok (.aload_n 0, 1) := by decide +kernel
theorem dX9_count_41 : decode cX9_count 41 = .ok (.getfield 10, 3) := by decide +kernel
theorem dX9_count_44 : decode cX9_count 44 = .ok (.getfield 203, 3) := by decide +kernel
theorem dX9_count_47 : decode cX9_count 47 = .ok (.ireturn, 1) := by decide +kernel
theorem dX9_count_48 : decode cX9_count 48 = .ok (.aload_n 0, 1) := by decide +kernel
theorem dX9_count_49 : decode cX9_count 49 = .ok (.getfield 10, 3) := by decide +kernel
theorem dX9_count_52 : decode cX9_count 52 = .ok (.getfield 152, 3) := by decide +kernel
theorem dX9_count_55 : decode cX9_count 55 = .ok (.invokestatic 289, 3) := by decide +kernel
theorem dX9_count_58 : decode cX9_count 58 = .ok (.ireturn, 1) := by decide +kernel
theorem dX9_count_59 : decode cX9_count 59 = .ok (.aload_n 0, 1) := by decide +kernel
theorem dX9_count_60 : decode cX9_count 60 = .ok (.getfield 10, 3) := by decide +kernel
theorem dX9_count_63 : decode cX9_count 63 = .ok (.getfield 130, 3) := by decide +kernel
theorem dX9_count_66 : decode cX9_count 66 = .ok (.ireturn, 1) := by decide +kernel
theorem dX9_count_67 : decode cX9_count 67 = .ok (.aload_n 0, 1) := by decide +kernel
theorem dX9_count_68 : decode cX9_count 68 = .ok (.getfield 36, 3) := by decide +kernel
theorem dX9_count_71 : decode cX9_count 71 = .ok (.getfield 158, 3) := by decide +kernel
theorem dX9_count_74 : decode cX9_count 74 = .ok (.ireturn, 1) := by decide +kernel
theorem dX9_count_75 : decode cX9_count 75 = .ok (.aload_n 0, 1) := by decide +kernel
theorem dX9_count_76 : decode cX9_count 76 = .ok (.getfield 29, 3) := by decide +kernel
theorem dX9_count_79 : decode cX9_count 79 = .ok (.getfield 165, 3) := by decide +kernel
theorem dX9_count_82 : decode cX9_count 82 = .ok (.ireturn, 1) := by decide +kernel
theorem dX9_count_83 : decode cX9_count 83 = .ok (.aload_n 0, 1) := by decide +kernel
theorem dX9_count_84 : decode cX9_count 84 = .ok (.getfield 10, 3) := by decide +kernel
theorem dX9_count_87 : decode cX9_count 87 = .ok (.getfield 173, 3) := by decide +kernel
theorem dX9_count_90 : decode cX9_count 90 = .ok (.ireturn, 1) := by decide +kernel
theorem dX9_count_91 : decode cX9_count 91 = .ok (.bipush (-2), 2) := by decide +kernel
theorem dX9_count_93 : decode cX9_count 93 = .ok (.ireturn, 1) := by decide +kernel
theorem dX9_firstOtherwise_0 : decode cX9_firstOtherwise 0 = .ok (.iconst 0, 1) := by decide +kernel
theorem dX9_firstOtherwise_1 : decode cX9_firstOtherwise 1 = .ok (.istore_n 3, 1) := by decide +kernel
theorem dX9_firstOtherwise_2 : decode cX9_firstOtherwise 2 = .ok (.iload_n 3, 1) := by decide +kernel
theorem dX9_firstOtherwise_3 : decode cX9_firstOtherwise 3 = .ok (.bipush 8, 2) := by decide +kernel
theorem dX9_firstOtherwise_5 : decode cX9_firstOtherwise 5 = .ok (.if_icmp .ge 33, 3) := by decide +kernel
theorem dX9_firstOtherwise_8 : decode cX9_firstOtherwise 8 = .ok (.aload_n 1, 1) := by decide +kernel
theorem dX9_firstOtherwise_9 : decode cX9_firstOtherwise 9 = .ok (.getfield 294, 3) := by decide +kernel
theorem dX9_firstOtherwise_12 : decode cX9_firstOtherwise 12 = .ok (.iload_n 3, 1) := by decide +kernel
theorem dX9_firstOtherwise_13 : decode cX9_firstOtherwise 13 = .ok (.iaload, 1) := by decide +kernel
theorem dX9_firstOtherwise_14 : decode cX9_firstOtherwise 14 = .ok (.aload_n 0, 1) := by decide +kernel
theorem dX9_firstOtherwise_15 : decode cX9_firstOtherwise 15 = .ok (.getfield 36, 3) := by decide +kernel
theorem dX9_firstOtherwise_18 : decode cX9_firstOtherwise 18 = .ok (.aload_n 0, 1) := by decide +kernel
theorem dX9_firstOtherwise_19 : decode cX9_firstOtherwise 19 = .ok (.getfield 19, 3) := by decide +kernel
theorem dX9_firstOtherwise_22 : decode cX9_firstOtherwise 22 = .ok (.iload_n 2, 1) := by decide +kernel
theorem dX9_firstOtherwise_23 : decode cX9_firstOtherwise 23 = .ok (.iload_n 3, 1) := by decide +kernel
theorem dX9_firstOtherwise_24 : decode cX9_firstOtherwise 24 = .ok (.invokevirtual 110, 3) := by decide +kernel
theorem dX9_firstOtherwise_27 : decode cX9_firstOtherwise 27 = .ok (.if_icmp .eq 5, 3) := by decide +kernel
theorem dX9_firstOtherwise_30 : decode cX9_firstOtherwise 30 = .ok (.iload_n 3, 1) := by decide +kernel
theorem dX9_firstOtherwise_31 : decode cX9_firstOtherwise 31 = .ok (.ireturn, 1) := by decide +kernel
theorem dX9_firstOtherwise_32 : decode cX9_firstOtherwise 32 = .ok (.iinc 3 1, 3) := by decide +kernel
theorem dX9_firstOtherwise_35 : decode cX9_firstOtherwise 35 = .ok (.goto (-33), 3) := by decide +kernel
theorem dX9_firstOtherwise_38 : decode cX9_firstOtherwise 38 = .ok (.iconst (-1), 1) := by decide +kernel
theorem dX9_firstOtherwise_39 : decode cX9_firstOtherwise 39 = .ok (.ireturn, 1) := by decide +kernel
theorem dX9_isJustSo_0 : decode cX9_isJustSo 0 = .ok (.aload_n 0, 1) := by decide +kernel
theorem dX9_isJustSo_1 : decode cX9_isJustSo 1 = .ok (.aload_n 1, 1) := by decide +kernel
theorem dX9_isJustSo_2 : decode cX9_isJustSo 2 = .ok (.iload_n 2, 1) := by decide +kernel
theorem dX9_isJustSo_3 : decode cX9_isJustSo 3 = .ok (.invokevirtual 255, 3) := by decide +kernel
theorem dX9_isJustSo_6 : decode cX9_isJustSo 6 = .ok (.iconst (-1), 1) := by decide +kernel
theorem dX9_isJustSo_7 : decode cX9_isJustSo 7 = .ok (.if_icmp .ne 7, 3) := by decide +kernel
theorem dX9_isJustSo_10 : decode cX9_isJustSo 10 = .ok (.iconst 1, 1) := by decide +kernel
theorem dX9_isJustSo_11 : decode cX9_isJustSo 11 = .ok (.goto 4, 3) := by decide +kernel
theorem dX9_isJustSo_14 : decode cX9_isJustSo 14 = .ok (.iconst 0, 1) := by decide +kernel
theorem dX9_isJustSo_15 : decode cX9_isJustSo 15 = .ok (.ireturn, 1) := by decide +kernel
theorem dX9_bitsTold_0 : decode cX9_bitsTold 0 = .ok (.iconst 0, 1) := by decide +kernel
theorem dX9_bitsTold_1 : decode cX9_bitsTold 1 = .ok (.istore 5, 2) := by decide +kernel
theorem dX9_bitsTold_3 : decode cX9_bitsTold 3 = .ok (.iconst 0, 1) := by decide +kernel
theorem dX9_bitsTold_4 : decode cX9_bitsTold 4 = .ok (.istore 6, 2) := by decide +kernel
theorem dX9_bitsTold_6 : decode cX9_bitsTold 6 = .ok (.iload 6, 2) := by decide +kernel
theorem dX9_bitsTold_8 : decode cX9_bitsTold 8 = .ok (.iload 4, 2) := by decide +kernel
theorem dX9_bitsTold_10 : decode cX9_bitsTold 10 = .ok (.if_icmp .ge 35, 3) := by decide +kernel
theorem dX9_bitsTold_13 : decode cX9_bitsTold 13 = .ok (.aload_n 0, 1) := by decide +kernel
theorem dX9_bitsTold_14 : decode cX9_bitsTold 14 = .ok (.iload_n 2, 1) := by decide +kernel
theorem dX9_bitsTold_15 : decode cX9_bitsTold 15 = .ok (.iload_n 3, 1) := by decide +kernel
theorem dX9_bitsTold_16 : decode cX9_bitsTold 16 = .ok (.iload 6, 2) := by decide +kernel
theorem dX9_bitsTold_18 : decode cX9_bitsTold 18 = .ok (.invokevirtual 297, 3) := by decide +kernel
theorem dX9_bitsTold_21 : decode cX9_bitsTold 21 = .ok (.aload_n 0, 1) := by decide +kernel
theorem dX9_bitsTold_22 : decode cX9_bitsTold 22 = .ok (.aload_n 1, 1) := by decide +kernel
theorem dX9_bitsTold_23 : decode cX9_bitsTold 23 = .ok (.iload_n 2, 1) := by decide +kernel
theorem dX9_bitsTold_24 : decode cX9_bitsTold 24 = .ok (.invokevirtual 300, 3) := by decide +kernel
theorem dX9_bitsTold_27 : decode cX9_bitsTold 27 = .ok (.ifCond .eq 12, 3) := by decide +kernel
theorem dX9_bitsTold_30 : decode cX9_bitsTold 30 = .ok (.iload 5, 2) := by decide +kernel
theorem dX9_bitsTold_32 : decode cX9_bitsTold 32 = .ok (.iconst 1, 1) := by decide +kernel
theorem dX9_bitsTold_33 : decode cX9_bitsTold 33 = .ok (.iload 6, 2) := by decide +kernel
theorem dX9_bitsTold_35 : decode cX9_bitsTold 35 = .ok (.ishl, 1) := by decide +kernel
theorem dX9_bitsTold_36 : decode cX9_bitsTold 36 = .ok (.ior, 1) := by decide +kernel
theorem dX9_bitsTold_37 : decode cX9_bitsTold 37 = .ok (.istore 5, 2) := by decide +kernel
theorem dX9_bitsTold_39 : decode cX9_bitsTold 39 = .ok (.iinc 6 1, 3) := by decide +kernel
theorem dX9_bitsTold_42 : decode cX9_bitsTold 42 = .ok (.goto (-36), 3) := by decide +kernel
theorem dX9_bitsTold_45 : decode cX9_bitsTold 45 = .ok (.iload 5, 2) := by decide +kernel
theorem dX9_bitsTold_47 : decode cX9_bitsTold 47 = .ok (.ireturn, 1) := by decide +kernel
theorem dX9_suppose_0 : decode cX9_suppose 0 = .ok (.iload_n 2, 1) := by decide +kernel
theorem dX9_suppose_1 : decode cX9_suppose 1 = .ok (.lookupswitch 72 #[(1, 35), (2, 48), (7, 61)], 35) := by decide +kernel
theorem dX9_suppose_36 : decode cX9_suppose 36 = .ok (.aload_n 0, 1) := by decide +kernel
theorem dX9_suppose_37 : decode cX9_suppose 37 = .ok (.getfield 19, 3) := by decide +kernel
theorem dX9_suppose_40 : decode cX9_suppose 40 = .ok (.getfield 117, 3) := by decide +kernel
theorem dX9_suppose_43 : decode cX9_suppose 43 = .ok (.iload_n 1, 1) := by decide +kernel
theorem dX9_suppose_44 : decode cX9_suppose 44 = .ok (.iload_n 3, 1) := by decide +kernel
theorem dX9_suppose_45 : decode cX9_suppose 45 = .ok (.iastore, 1) := by decide +kernel
theorem dX9_suppose_46 : decode cX9_suppose 46 = .ok (.goto 43, 3) := by decide +kernel
theorem dX9_suppose_49 : decode cX9_suppose 49 = .ok (.aload_n 0, 1) := by decide +kernel
theorem dX9_suppose_50 : decode cX9_suppose 50 = .ok (.getfield 19, 3) := by decide +kernel
theorem dX9_suppose_53 : decode cX9_suppose 53 = .ok (.getfield 146, 3) := by decide +kernel
theorem dX9_suppose_56 : decode cX9_suppose 56 = .ok (.iload_n 1, 1) := by decide +kernel
theorem dX9_suppose_57 : decode cX9_suppose 57 = .ok (.iload_n 3, 1) := by decide +kernel
theorem dX9_suppose_58 : decode cX9_suppose 58 = .ok (.iastore, 1) := by decide +kernel
theorem dX9_suppose_59 : decode cX9_suppose 59 = .ok (.goto 30, 3) := by decide +kernel
theorem dX9_suppose_62 : decode cX9_suppose 62 = .ok (.aload_n 0, 1) := by decide +kernel
theorem dX9_suppose_63 : decode cX9_suppose 63 = .ok (.getfield 19, 3) := by decide +kernel
theorem dX9_suppose_66 : decode cX9_suppose 66 = .ok (.iload_n 3, 1) := by decide +kernel
theorem dX9_suppose_67 : decode cX9_suppose 67 = .ok (.putfield 173, 3) := by decide +kernel
theorem dX9_suppose_70 : decode cX9_suppose 70 = .ok (.goto 19, 3) := by decide +kernel
theorem dX9_suppose_73 : decode cX9_suppose 73 = .ok (.aload_n 0, 1) := by decide +kernel
theorem dX9_suppose_74 : decode cX9_suppose 74 = .ok (.getfield 19, 3) := by decide +kernel
theorem dX9_suppose_77 : decode cX9_suppose 77 = .ok (.getfield 140, 3) := by decide +kernel
theorem dX9_suppose_80 : decode cX9_suppose 80 = .ok (.iload_n 2, 1) := by decide +kernel
theorem dX9_suppose_81 : decode cX9_suppose 81 = .ok (.bipush 10, 2) := by decide +kernel
theorem dX9_suppose_83 : decode cX9_suppose 83 = .ok (.isub, 1) := by decide +kernel
theorem dX9_suppose_84 : decode cX9_suppose 84 = .ok (.bipush (-9), 2) := by decide +kernel
theorem dX9_suppose_86 : decode cX9_suppose 86 = .ok (.iload_n 3, 1) := by decide +kernel
theorem dX9_suppose_87 : decode cX9_suppose 87 = .ok (.iadd, 1) := by decide +kernel
theorem dX9_suppose_88 : decode cX9_suppose 88 = .ok (.iastore, 1) := by decide +kernel
theorem dX9_suppose_89 : decode cX9_suppose 89 = .ok (.return_, 1) := by decide +kernel
theorem dX9_yearsTold_0 : decode cX9_yearsTold 0 = .ok (.iconst 0, 1) := by decide +kernel
theorem dX9_yearsTold_1 : decode cX9_yearsTold 1 = .ok (.istore 4, 2) := by decide +kernel
theorem dX9_yearsTold_3 : decode cX9_yearsTold 3 = .ok (.iconst (-1), 1) := by decide +kernel
theorem dX9_yearsTold_4 : decode cX9_yearsTold 4 = .ok (.istore 5, 2) := by decide +kernel
theorem dX9_yearsTold_6 : decode cX9_yearsTold 6 = .ok (.bipush 99, 2) := by decide +kernel
theorem dX9_yearsTold_8 : decode cX9_yearsTold 8 = .ok (.istore 6, 2) := by decide +kernel
theorem dX9_yearsTold_10 : decode cX9_yearsTold 10 = .ok (.iload 6, 2) := by decide +kernel
theorem dX9_yearsTold_12 : decode cX9_yearsTold 12 = .ok (.ifCond .lt 34, 3) := by decide +kernel
theorem dX9_yearsTold_15 : decode cX9_yearsTold 15 = .ok (.aload_n 0, 1) := by decide +kernel
theorem dX9_yearsTold_16 : decode cX9_yearsTold 16 = .ok (.getfield 19, 3) := by decide +kernel
theorem dX9_yearsTold_19 : decode cX9_yearsTold 19 = .ok (.iload 6, 2) := by decide +kernel
theorem dX9_yearsTold_21 : decode cX9_yearsTold 21 = .ok (.putfield 130, 3) := by decide +kernel
theorem dX9_yearsTold_24 : decode cX9_yearsTold 24 = .ok (.aload_n 0, 1) := by decide +kernel
theorem dX9_yearsTold_25 : decode cX9_yearsTold 25 = .ok (.aload_n 1, 1) := by decide +kernel
theorem dX9_yearsTold_26 : decode cX9_yearsTold 26 = .ok (.iload_n 2, 1) := by decide +kernel
theorem dX9_yearsTold_27 : decode cX9_yearsTold 27 = .ok (.invokevirtual 300, 3) := by decide +kernel
theorem dX9_yearsTold_30 : decode cX9_yearsTold 30 = .ok (.ifCond .eq 10, 3) := by decide +kernel
theorem dX9_yearsTold_33 : decode cX9_yearsTold 33 = .ok (.iinc 4 1, 3) := by decide +kernel
theorem dX9_yearsTold_36 : decode cX9_yearsTold 36 = .ok (.iload 6, 2) := by decide +kernel
theorem dX9_yearsTold_38 : decode cX9_yearsTold 38 = .ok (.istore 5, 2) := by decide +kernel
theorem dX9_yearsTold_40 : decode cX9_yearsTold 40 = .ok (.iinc 6 (-1), 3) := by decide +kernel
theorem dX9_yearsTold_43 : decode cX9_yearsTold 43 = .ok (.goto (-33), 3) := by decide +kernel
theorem dX9_yearsTold_46 : decode cX9_yearsTold 46 = .ok (.iload_n 3, 1) := by decide +kernel
theorem dX9_yearsTold_47 : decode cX9_yearsTold 47 = .ok (.ifCond .eq 8, 3) := by decide +kernel
theorem dX9_yearsTold_50 : decode cX9_yearsTold 50 = .ok (.iload 4, 2) := by decide +kernel
theorem dX9_yearsTold_52 : decode cX9_yearsTold 52 = .ok (.goto 5, 3) := by decide +kernel
theorem dX9_yearsTold_55 : decode cX9_yearsTold 55 = .ok (.iload 5, 2) := by decide +kernel
theorem dX9_yearsTold_57 : decode cX9_yearsTold 57 = .ok (.ireturn, 1) := by decide +kernel
theorem dX9_mendedTold_0 : decode cX9_mendedTold 0 = .ok (.aload_n 0, 1) := by decide +kernel
theorem dX9_mendedTold_1 : decode cX9_mendedTold 1 = .ok (.getfield 19, 3) := by decide +kernel
theorem dX9_mendedTold_4 : decode cX9_mendedTold 4 = .ok (.iconst 0, 1) := by decide +kernel
theorem dX9_mendedTold_5 : decode cX9_mendedTold 5 = .ok (.putfield 152, 3) := by decide +kernel
theorem dX9_mendedTold_8 : decode cX9_mendedTold 8 = .ok (.sipush 255, 3) := by decide +kernel
theorem dX9_mendedTold_11 : decode cX9_mendedTold 11 = .ok (.aload_n 0, 1) := by decide +kernel
theorem dX9_mendedTold_12 : decode cX9_mendedTold 12 = .ok (.aload_n 1, 1) := by decide +kernel
theorem dX9_mendedTold_13 : decode cX9_mendedTold 13 = .ok (.iload_n 2, 1) := by decide +kernel
theorem dX9_mendedTold_14 : decode cX9_mendedTold 14 = .ok (.invokevirtual 304, 3) := by decide +kernel
theorem dX9_mendedTold_17 : decode cX9_mendedTold 17 = .ok (.iconst (-1), 1) := by decide +kernel
theorem dX9_mendedTold_18 : decode cX9_mendedTold 18 = .ok (.ixor, 1) := by decide +kernel
theorem dX9_mendedTold_19 : decode cX9_mendedTold 19 = .ok (.iand, 1) := by decide +kernel
theorem dX9_mendedTold_20 : decode cX9_mendedTold 20 = .ok (.istore 4, 2) := by decide +kernel
theorem dX9_mendedTold_22 : decode cX9_mendedTold 22 = .ok (.aload_n 0, 1) := by decide +kernel
theorem dX9_mendedTold_23 : decode cX9_mendedTold 23 = .ok (.getfield 19, 3) := by decide +kernel
theorem dX9_mendedTold_26 : decode cX9_mendedTold 26 = .ok (.sipush 255, 3) := by decide +kernel
theorem dX9_mendedTold_29 : decode cX9_mendedTold 29 = .ok (.putfield 152, 3) := by decide +kernel
theorem dX9_mendedTold_32 : decode cX9_mendedTold 32 = .ok (.aload_n 0, 1) := by decide +kernel
theorem dX9_mendedTold_33 : decode cX9_mendedTold 33 = .ok (.aload_n 1, 1) := by decide +kernel
theorem dX9_mendedTold_34 : decode cX9_mendedTold 34 = .ok (.iload_n 2, 1) := by decide +kernel
theorem dX9_mendedTold_35 : decode cX9_mendedTold 35 = .ok (.invokevirtual 304, 3) := by decide +kernel
theorem dX9_mendedTold_38 : decode cX9_mendedTold 38 = .ok (.istore 5, 2) := by decide +kernel
theorem dX9_mendedTold_40 : decode cX9_mendedTold 40 = .ok (.iconst 0, 1) := by decide +kernel
theorem dX9_mendedTold_41 : decode cX9_mendedTold 41 = .ok (.istore 6, 2) := by decide +kernel
theorem dX9_mendedTold_43 : decode cX9_mendedTold 43 = .ok (.iconst (-1), 1) := by decide +kernel
theorem dX9_mendedTold_44 : decode cX9_mendedTold 44 = .ok (.istore 7, 2) := by decide +kernel
theorem dX9_mendedTold_46 : decode cX9_mendedTold 46 = .ok (.sipush 255, 3) := by decide +kernel
theorem dX9_mendedTold_49 : decode cX9_mendedTold 49 = .ok (.istore 8, 2) := by decide +kernel
theorem dX9_mendedTold_51 : decode cX9_mendedTold 51 = .ok (.iload 8, 2) := by decide +kernel
theorem dX9_mendedTold_53 : decode cX9_mendedTold 53 = .ok (.ifCond .lt 36, 3) := by decide +kernel
theorem dX9_mendedTold_56 : decode cX9_mendedTold 56 = .ok (.iload 4, 2) := by decide +kernel
theorem dX9_mendedTold_58 : decode cX9_mendedTold 58 = .ok (.iload 8, 2) := by decide +kernel
theorem dX9_mendedTold_60 : decode cX9_mendedTold 60 = .ok (.iconst (-1), 1) := by decide +kernel
theorem dX9_mendedTold_61 : decode cX9_mendedTold 61 = .ok (.ixor, 1) := by decide +kernel
theorem dX9_mendedTold_62 : decode cX9_mendedTold 62 = .ok (.iand, 1) := by decide +kernel
theorem dX9_mendedTold_63 : decode cX9_mendedTold 63 = .ok (.ifCond .ne 20, 3) := by decide +kernel
theorem dX9_mendedTold_66 : decode cX9_mendedTold 66 = .ok (.iload 8, 2) := by decide +kernel
theorem dX9_mendedTold_68 : decode cX9_mendedTold 68 = .ok (.iload 5, 2) := by decide +kernel
theorem dX9_mendedTold_70 : decode cX9_mendedTold 70 = .ok (.iconst (-1), 1) := by decide +kernel
theorem dX9_mendedTold_71 : decode cX9_mendedTold 71 = .ok (.ixor, 1) := by decide +kernel
theorem dX9_mendedTold_72 : decode cX9_mendedTold 72 = .ok (.iand, 1) := by decide +kernel
theorem dX9_mendedTold_73 : decode cX9_mendedTold 73 = .ok (.ifCond .ne 10, 3) := by decide +kernel
theorem dX9_mendedTold_76 : decode cX9_mendedTold 76 = .ok (.iinc 6 1, 3) := by decide +kernel
theorem dX9_mendedTold_79 : decode cX9_mendedTold 79 = .ok (.iload 8, 2) := by decide +kernel
theorem dX9_mendedTold_81 : decode cX9_mendedTold 81 = .ok (.istore 7, 2) := by decide +kernel
theorem dX9_mendedTold_83 : decode cX9_mendedTold 83 = .ok (.iinc 8 (-1), 3) := by decide +kernel
theorem dX9_mendedTold_86 : decode cX9_mendedTold 86 = .ok (.goto (-35), 3) := by decide +kernel
theorem dX9_mendedTold_89 : decode cX9_mendedTold 89 = .ok (.iload_n 3, 1) := by decide +kernel
theorem dX9_mendedTold_90 : decode cX9_mendedTold 90 = .ok (.ifCond .eq 8, 3) := by decide +kernel
theorem dX9_mendedTold_93 : decode cX9_mendedTold 93 = .ok (.iload 6, 2) := by decide +kernel
theorem dX9_mendedTold_95 : decode cX9_mendedTold 95 = .ok (.goto 5, 3) := by decide +kernel
theorem dX9_mendedTold_98 : decode cX9_mendedTold 98 = .ok (.iload 7, 2) := by decide +kernel
theorem dX9_mendedTold_100 : decode cX9_mendedTold 100 = .ok (.ireturn, 1) := by decide +kernel
theorem dX9_hoursJustSo_0 : decode cX9_hoursJustSo 0 = .ok (.iconst 0, 1) := by decide +kernel
theorem dX9_hoursJustSo_1 : decode cX9_hoursJustSo 1 = .ok (.istore_n 3, 1) := by decide +kernel
theorem dX9_hoursJustSo_2 : decode cX9_hoursJustSo 2 = .ok (.iconst 0, 1) := by decide +kernel
theorem dX9_hoursJustSo_3 : decode cX9_hoursJustSo 3 = .ok (.istore 4, 2) := by decide +kernel
theorem dX9_hoursJustSo_5 : decode cX9_hoursJustSo 5 = .ok (.iload 4, 2) := by decide +kernel
theorem dX9_hoursJustSo_7 : decode cX9_hoursJustSo 7 = .ok (.bipush 8, 2) := by decide +kernel
theorem dX9_hoursJustSo_9 : decode cX9_hoursJustSo 9 = .ok (.if_icmp .ge 40, 3) := by decide +kernel
theorem dX9_hoursJustSo_12 : decode cX9_hoursJustSo 12 = .ok (.aload_n 1, 1) := by decide +kernel
theorem dX9_hoursJustSo_13 : decode cX9_hoursJustSo 13 = .ok (.getfield 294, 3) := by decide +kernel
theorem dX9_hoursJustSo_16 : decode cX9_hoursJustSo 16 = .ok (.iload 4, 2) := by decide +kernel
theorem dX9_hoursJustSo_18 : decode cX9_hoursJustSo 18 = .ok (.iaload, 1) := by decide +kernel
theorem dX9_hoursJustSo_19 : decode cX9_hoursJustSo 19 = .ok (.aload_n 0, 1) := by decide +kernel
theorem dX9_hoursJustSo_20 : decode cX9_hoursJustSo 20 = .ok (.getfield 36, 3) := by decide +kernel
theorem dX9_hoursJustSo_23 : decode cX9_hoursJustSo 23 = .ok (.aload_n 0, 1) := by decide +kernel
theorem dX9_hoursJustSo_24 : decode cX9_hoursJustSo 24 = .ok (.getfield 19, 3) := by decide +kernel
theorem dX9_hoursJustSo_27 : decode cX9_hoursJustSo 27 = .ok (.iload_n 2, 1) := by decide +kernel
theorem dX9_hoursJustSo_28 : decode cX9_hoursJustSo 28 = .ok (.iload 4, 2) := by decide +kernel
theorem dX9_hoursJustSo_30 : decode cX9_hoursJustSo 30 = .ok (.invokevirtual 110, 3) := by decide +kernel
theorem dX9_hoursJustSo_33 : decode cX9_hoursJustSo 33 = .ok (.if_icmp .ne 10, 3) := by decide +kernel
theorem dX9_hoursJustSo_36 : decode cX9_hoursJustSo 36 = .ok (.iload_n 3, 1) := by decide +kernel
theorem dX9_hoursJustSo_37 : decode cX9_hoursJustSo 37 = .ok (.iconst 1, 1) := by decide +kernel
theorem dX9_hoursJustSo_38 : decode cX9_hoursJustSo 38 = .ok (.iload 4, 2) := by decide +kernel
theorem dX9_hoursJustSo_40 : decode cX9_hoursJustSo 40 = .ok (.ishl, 1) := by decide +kernel
theorem dX9_hoursJustSo_41 : decode cX9_hoursJustSo 41 = .ok (.ior, 1) := by decide +kernel
theorem dX9_hoursJustSo_42 : decode cX9_hoursJustSo 42 = .ok (.istore_n 3, 1) := by decide +kernel
theorem dX9_hoursJustSo_43 : decode cX9_hoursJustSo 43 = .ok (.iinc 4 1, 3) := by decide +kernel
theorem dX9_hoursJustSo_46 : decode cX9_hoursJustSo 46 = .ok (.goto (-41), 3) := by decide +kernel
theorem dX9_hoursJustSo_49 : decode cX9_hoursJustSo 49 = .ok (.iload_n 3, 1) := by decide +kernel
theorem dX9_hoursJustSo_50 : decode cX9_hoursJustSo 50 = .ok (.ireturn, 1) := by decide +kernel
theorem dX9_peopleTold_0 : decode cX9_peopleTold 0 = .ok (.iconst 0, 1) := by decide +kernel
theorem dX9_peopleTold_1 : decode cX9_peopleTold 1 = .ok (.istore_n 2, 1) := by decide +kernel
theorem dX9_peopleTold_2 : decode cX9_peopleTold 2 = .ok (.iconst 0, 1) := by decide +kernel
theorem dX9_peopleTold_3 : decode cX9_peopleTold 3 = .ok (.istore_n 3, 1) := by decide +kernel
theorem dX9_peopleTold_4 : decode cX9_peopleTold 4 = .ok (.iload_n 3, 1) := by decide +kernel
theorem dX9_peopleTold_5 : decode cX9_peopleTold 5 = .ok (.aload_n 0, 1) := by decide +kernel
theorem dX9_peopleTold_6 : decode cX9_peopleTold 6 = .ok (.getfield 19, 3) := by decide +kernel
theorem dX9_peopleTold_9 : decode cX9_peopleTold 9 = .ok (.getfield 203, 3) := by decide +kernel
theorem dX9_peopleTold_12 : decode cX9_peopleTold 12 = .ok (.if_icmp .ge 24, 3) := by decide +kernel
theorem dX9_peopleTold_15 : decode cX9_peopleTold 15 = .ok (.aload_n 0, 1) := by decide +kernel
theorem dX9_peopleTold_16 : decode cX9_peopleTold 16 = .ok (.aload_n 1, 1) := by decide +kernel
theorem dX9_peopleTold_17 : decode cX9_peopleTold 17 = .ok (.iload_n 3, 1) := by decide +kernel
theorem dX9_peopleTold_18 : decode cX9_peopleTold 18 = .ok (.invokevirtual 300, 3) := by decide +kernel
theorem dX9_peopleTold_21 : decode cX9_peopleTold 21 = .ok (.ifCond .eq 9, 3) := by decide +kernel
theorem dX9_peopleTold_24 : decode cX9_peopleTold 24 = .ok (.iload_n 2, 1) := by decide +kernel
theorem dX9_peopleTold_25 : decode cX9_peopleTold 25 = .ok (.iconst 1, 1) := by decide +kernel
theorem dX9_peopleTold_26 : decode cX9_peopleTold 26 = .ok (.iload_n 3, 1) := by decide +kernel
theorem dX9_peopleTold_27 : decode cX9_peopleTold 27 = .ok (.ishl, 1) := by decide +kernel
theorem dX9_peopleTold_28 : decode cX9_peopleTold 28 = .ok (.ior, 1) := by decide +kernel
theorem dX9_peopleTold_29 : decode cX9_peopleTold 29 = .ok (.istore_n 2, 1) := by decide +kernel
theorem dX9_peopleTold_30 : decode cX9_peopleTold 30 = .ok (.iinc 3 1, 3) := by decide +kernel
theorem dX9_peopleTold_33 : decode cX9_peopleTold 33 = .ok (.goto (-29), 3) := by decide +kernel
theorem dX9_peopleTold_36 : decode cX9_peopleTold 36 = .ok (.iload_n 2, 1) := by decide +kernel
theorem dX9_peopleTold_37 : decode cX9_peopleTold 37 = .ok (.ireturn, 1) := by decide +kernel
theorem dX9_hazyBySeed_0 : decode cX9_hazyBySeed 0 = .ok (.iload_n 1, 1) := by decide +kernel
theorem dX9_hazyBySeed_1 : decode cX9_hazyBySeed 1 = .ok (.istore_n 2, 1) := by decide +kernel
theorem dX9_hazyBySeed_2 : decode cX9_hazyBySeed 2 = .ok (.iconst 0, 1) := by decide +kernel
theorem dX9_hazyBySeed_3 : decode cX9_hazyBySeed 3 = .ok (.istore_n 3, 1) := by decide +kernel
theorem dX9_hazyBySeed_4 : decode cX9_hazyBySeed 4 = .ok (.iload_n 3, 1) := by decide +kernel
theorem dX9_hazyBySeed_5 : decode cX9_hazyBySeed 5 = .ok (.bipush 8, 2) := by decide +kernel
theorem dX9_hazyBySeed_7 : decode cX9_hazyBySeed 7 = .ok (.if_icmp .ge 38, 3) := by decide +kernel
theorem dX9_hazyBySeed_10 : decode cX9_hazyBySeed 10 = .ok (.iload_n 2, 1) := by decide +kernel
theorem dX9_hazyBySeed_11 : decode cX9_hazyBySeed 11 = .ok (.ldc_w 307, 3) := by decide +kernel
theorem dX9_hazyBySeed_14 : decode cX9_hazyBySeed 14 = .ok (.imul, 1) := by decide +kernel
theorem dX9_hazyBySeed_15 : decode cX9_hazyBySeed 15 = .ok (.sipush 12345, 3) := by decide +kernel
theorem dX9_hazyBySeed_18 : decode cX9_hazyBySeed 18 = .ok (.iadd, 1) := by decide +kernel
theorem dX9_hazyBySeed_19 : decode cX9_hazyBySeed 19 = .ok (.istore_n 2, 1) := by decide +kernel
theorem dX9_hazyBySeed_20 : decode cX9_hazyBySeed 20 = .ok (.aload_n 0, 1) := by decide +kernel
theorem dX9_hazyBySeed_21 : decode cX9_hazyBySeed 21 = .ok (.getfield 19, 3) := by decide +kernel
theorem dX9_hazyBySeed_24 : decode cX9_hazyBySeed 24 = .ok (.getfield 140, 3) := by decide +kernel
theorem dX9_hazyBySeed_27 : decode cX9_hazyBySeed 27 = .ok (.iload_n 3, 1) := by decide +kernel
theorem dX9_hazyBySeed_28 : decode cX9_hazyBySeed 28 = .ok (.iload_n 2, 1) := by decide +kernel
theorem dX9_hazyBySeed_29 : decode cX9_hazyBySeed 29 = .ok (.bipush 9, 2) := by decide +kernel
theorem dX9_hazyBySeed_31 : decode cX9_hazyBySeed 31 = .ok (.iushr, 1) := by decide +kernel
theorem dX9_hazyBySeed_32 : decode cX9_hazyBySeed 32 = .ok (.bipush 19, 2) := by decide +kernel
theorem dX9_hazyBySeed_34 : decode cX9_hazyBySeed 34 = .ok (.irem, 1) := by decide +kernel
theorem dX9_hazyBySeed_35 : decode cX9_hazyBySeed 35 = .ok (.bipush (-9), 2) := by decide +kernel
theorem dX9_hazyBySeed_37 : decode cX9_hazyBySeed 37 = .ok (.iadd, 1) := by decide +kernel
theorem dX9_hazyBySeed_38 : decode cX9_hazyBySeed 38 = .ok (.iastore, 1) := by decide +kernel
theorem dX9_hazyBySeed_39 : decode cX9_hazyBySeed 39 = .ok (.iinc 3 1, 3) := by decide +kernel
theorem dX9_hazyBySeed_42 : decode cX9_hazyBySeed 42 = .ok (.goto (-38), 3) := by decide +kernel
theorem dX9_hazyBySeed_45 : decode cX9_hazyBySeed 45 = .ok (.aload_n 0, 1) := by decide +kernel
theorem dX9_hazyBySeed_46 : decode cX9_hazyBySeed 46 = .ok (.getfield 36, 3) := by decide +kernel
theorem dX9_hazyBySeed_49 : decode cX9_hazyBySeed 49 = .ok (.aload_n 0, 1) := by decide +kernel
theorem dX9_hazyBySeed_50 : decode cX9_hazyBySeed 50 = .ok (.getfield 19, 3) := by decide +kernel
theorem dX9_hazyBySeed_53 : decode cX9_hazyBySeed 53 = .ok (.invokevirtual 187, 3) := by decide +kernel
theorem dX9_hazyBySeed_56 : decode cX9_hazyBySeed 56 = .ok (.ireturn, 1) := by decide +kernel
theorem dX9_commonDivisor_0 : decode cX9_commonDivisor 0 = .ok (.iload_n 1, 1) := by decide +kernel
theorem dX9_commonDivisor_1 : decode cX9_commonDivisor 1 = .ok (.istore_n 2, 1) := by decide +kernel
theorem dX9_commonDivisor_2 : decode cX9_commonDivisor 2 = .ok (.iload_n 2, 1) := by decide +kernel
theorem dX9_commonDivisor_3 : decode cX9_commonDivisor 3 = .ok (.iconst 1, 1) := by decide +kernel
theorem dX9_commonDivisor_4 : decode cX9_commonDivisor 4 = .ok (.if_icmp .le 23, 3) := by decide +kernel
theorem dX9_commonDivisor_7 : decode cX9_commonDivisor 7 = .ok (.iload_n 0, 1) := by decide +kernel
theorem dX9_commonDivisor_8 : decode cX9_commonDivisor 8 = .ok (.iload_n 2, 1) := by decide +kernel
theorem dX9_commonDivisor_9 : decode cX9_commonDivisor 9 = .ok (.irem, 1) := by decide +kernel
theorem dX9_commonDivisor_10 : decode cX9_commonDivisor 10 = .ok (.ifCond .ne 11, 3) := by decide +kernel
theorem dX9_commonDivisor_13 : decode cX9_commonDivisor 13 = .ok (.iload_n 1, 1) := by decide +kernel
theorem dX9_commonDivisor_14 : decode cX9_commonDivisor 14 = .ok (.iload_n 2, 1) := by decide +kernel
theorem dX9_commonDivisor_15 : decode cX9_commonDivisor 15 = .ok (.irem, 1) := by decide +kernel
theorem dX9_commonDivisor_16 : decode cX9_commonDivisor 16 = .ok (.ifCond .ne 5, 3) := by decide +kernel
theorem dX9_commonDivisor_19 : decode cX9_commonDivisor 19 = .ok (.iload_n 2, 1) := by decide +kernel
theorem dX9_commonDivisor_20 : decode cX9_commonDivisor 20 = .ok (.ireturn, 1) := by decide +kernel
theorem dX9_commonDivisor_21 : decode cX9_commonDivisor 21 = .ok (.iinc 2 (-1), 3) := by decide +kernel
theorem dX9_commonDivisor_24 : decode cX9_commonDivisor 24 = .ok (.goto (-22), 3) := by decide +kernel
theorem dX9_commonDivisor_27 : decode cX9_commonDivisor 27 = .ok (.iconst 1, 1) := by decide +kernel
theorem dX9_commonDivisor_28 : decode cX9_commonDivisor 28 = .ok (.ireturn, 1) := by decide +kernel
theorem dX9_sheet_0 : decode cX9_sheet 0 = .ok (.iload_n 1, 1) := by decide +kernel
theorem dX9_sheet_1 : decode cX9_sheet 1 = .ok (.invokestatic 247, 3) := by decide +kernel
theorem dX9_sheet_4 : decode cX9_sheet 4 = .ok (.ifCond .eq 15, 3) := by decide +kernel
theorem dX9_sheet_7 : decode cX9_sheet 7 = .ok (.iload_n 2, 1) := by decide +kernel
theorem dX9_sheet_8 : decode cX9_sheet 8 = .ok (.iconst (-1), 1) := by decide +kernel
theorem dX9_sheet_9 : decode cX9_sheet 9 = .ok (.if_icmp .eq 13, 3) := by decide +kernel
theorem dX9_sheet_12 : decode cX9_sheet 12 = .ok (.iload_n 2, 1) := by decide +kernel
theorem dX9_sheet_13 : decode cX9_sheet 13 = .ok (.invokestatic 308, 3) := by decide +kernel
theorem dX9_sheet_16 : decode cX9_sheet 16 = .ok (.ifCond .ne 6, 3) := by decide +kernel
theorem dX9_sheet_19 : decode cX9_sheet 19 = .ok (.bipush (-2), 2) := by decide +kernel
theorem dX9_sheet_21 : decode cX9_sheet 21 = .ok (.ireturn, 1) := by decide +kernel
theorem dX9_sheet_22 : decode cX9_sheet 22 = .ok (.iload_n 2, 1) := by decide +kernel
theorem dX9_sheet_23 : decode cX9_sheet 23 = .ok (.iconst (-1), 1) := by decide +kernel
theorem dX9_sheet_24 : decode cX9_sheet 24 = .ok (.if_icmp .ne 16, 3) := by decide +kernel
theorem dX9_sheet_27 : decode cX9_sheet 27 = .ok (.aload_n 0, 1) := by decide +kernel
theorem dX9_sheet_28 : decode cX9_sheet 28 = .ok (.getfield 53, 3) := by decide +kernel
theorem dX9_sheet_31 : decode cX9_sheet 31 = .ok (.iload_n 1, 1) := by decide +kernel
theorem dX9_sheet_32 : decode cX9_sheet 32 = .ok (.aaload, 1) := by decide +kernel
theorem dX9_sheet_33 : decode cX9_sheet 33 = .ok (.iload_n 2, 1) := by decide +kernel
theorem dX9_sheet_34 : decode cX9_sheet 34 = .ok (.iconst 0, 1) := by decide +kernel
theorem dX9_sheet_35 : decode cX9_sheet 35 = .ok (.invokevirtual 274, 3) := by decide +kernel
theorem dX9_sheet_38 : decode cX9_sheet 38 = .ok (.iconst 1, 1) := by decide +kernel
theorem dX9_sheet_39 : decode cX9_sheet 39 = .ok (.ireturn, 1) := by decide +kernel
theorem dX9_sheet_40 : decode cX9_sheet 40 = .ok (.iload_n 3, 1) := by decide +kernel
theorem dX9_sheet_41 : decode cX9_sheet 41 = .ok (.bipush 40, 2) := by decide +kernel
theorem dX9_sheet_43 : decode cX9_sheet 43 = .ok (.if_icmp .le 6, 3) := by decide +kernel
theorem dX9_sheet_46 : decode cX9_sheet 46 = .ok (.bipush (-2), 2) := by decide +kernel
theorem dX9_sheet_48 : decode cX9_sheet 48 = .ok (.ireturn, 1) := by decide +kernel
theorem dX9_sheet_49 : decode cX9_sheet 49 = .ok (.iload_n 3, 1) := by decide +kernel
theorem dX9_sheet_50 : decode cX9_sheet 50 = .ok (.ifCond .ge 6, 3) := by decide +kernel
theorem dX9_sheet_53 : decode cX9_sheet 53 = .ok (.bipush (-14), 2) := by decide +kernel
theorem dX9_sheet_55 : decode cX9_sheet 55 = .ok (.ireturn, 1) := by decide +kernel
theorem dX9_sheet_56 : decode cX9_sheet 56 = .ok (.aload_n 0, 1) := by decide +kernel
theorem dX9_sheet_57 : decode cX9_sheet 57 = .ok (.getfield 53, 3) := by decide +kernel
theorem dX9_sheet_60 : decode cX9_sheet 60 = .ok (.iload_n 1, 1) := by decide +kernel
theorem dX9_sheet_61 : decode cX9_sheet 61 = .ok (.aaload, 1) := by decide +kernel
theorem dX9_sheet_62 : decode cX9_sheet 62 = .ok (.iload_n 2, 1) := by decide +kernel
theorem dX9_sheet_63 : decode cX9_sheet 63 = .ok (.iload_n 3, 1) := by decide +kernel
theorem dX9_sheet_64 : decode cX9_sheet 64 = .ok (.invokevirtual 274, 3) := by decide +kernel
theorem dX9_sheet_67 : decode cX9_sheet 67 = .ok (.iconst 1, 1) := by decide +kernel
theorem dX9_sheet_68 : decode cX9_sheet 68 = .ok (.ireturn, 1) := by decide +kernel
theorem dX9_cell_0 : decode cX9_cell 0 = .ok (.iload_n 1, 1) := by decide +kernel
theorem dX9_cell_1 : decode cX9_cell 1 = .ok (.invokestatic 247, 3) := by decide +kernel
theorem dX9_cell_4 : decode cX9_cell 4 = .ok (.ifCond .ne 6, 3) := by decide +kernel
theorem dX9_cell_7 : decode cX9_cell 7 = .ok (.bipush (-2), 2) := by decide +kernel
theorem dX9_cell_9 : decode cX9_cell 9 = .ok (.ireturn, 1) := by decide +kernel
theorem dX9_cell_10 : decode cX9_cell 10 = .ok (.aload_n 0, 1) := by decide +kernel
theorem dX9_cell_11 : decode cX9_cell 11 = .ok (.getfield 53, 3) := by decide +kernel
theorem dX9_cell_14 : decode cX9_cell 14 = .ok (.iload_n 1, 1) := by decide +kernel
theorem dX9_cell_15 : decode cX9_cell 15 = .ok (.aaload, 1) := by decide +kernel
theorem dX9_cell_16 : decode cX9_cell 16 = .ok (.astore 4, 2) := by decide +kernel
theorem dX9_cell_18 : decode cX9_cell 18 = .ok (.aload 4, 2) := by decide +kernel
theorem dX9_cell_20 : decode cX9_cell 20 = .ok (.invokevirtual 250, 3) := by decide +kernel
theorem dX9_cell_23 : decode cX9_cell 23 = .ok (.ifCond .eq 6, 3) := by decide +kernel
theorem dX9_cell_26 : decode cX9_cell 26 = .ok (.bipush (-11), 2) := by decide +kernel
theorem dX9_cell_28 : decode cX9_cell 28 = .ok (.ireturn, 1) := by decide +kernel
theorem dX9_cell_29 : decode cX9_cell 29 = .ok (.aload 4, 2) := by decide +kernel
theorem dX9_cell_31 : decode cX9_cell 31 = .ok (.iload_n 2, 1) := by decide +kernel
theorem dX9_cell_32 : decode cX9_cell 32 = .ok (.invokevirtual 311, 3) := by decide +kernel
theorem dX9_cell_35 : decode cX9_cell 35 = .ok (.ifCond .ne 6, 3) := by decide +kernel
theorem dX9_cell_38 : decode cX9_cell 38 = .ok (.bipush (-12), 2) := by decide +kernel
theorem dX9_cell_40 : decode cX9_cell 40 = .ok (.ireturn, 1) := by decide +kernel
theorem dX9_cell_41 : decode cX9_cell 41 = .ok (.aload 4, 2) := by decide +kernel
theorem dX9_cell_43 : decode cX9_cell 43 = .ok (.iload_n 2, 1) := by decide +kernel
theorem dX9_cell_44 : decode cX9_cell 44 = .ok (.iload_n 3, 1) := by decide +kernel
theorem dX9_cell_45 : decode cX9_cell 45 = .ok (.invokevirtual 278, 3) := by decide +kernel
theorem dX9_cell_48 : decode cX9_cell 48 = .ok (.iconst 1, 1) := by decide +kernel
theorem dX9_cell_49 : decode cX9_cell 49 = .ok (.ireturn, 1) := by decide +kernel
theorem dX9_copy_0 : decode cX9_copy 0 = .ok (.iload_n 1, 1) := by decide +kernel
theorem dX9_copy_1 : decode cX9_copy 1 = .ok (.invokestatic 247, 3) := by decide +kernel
theorem dX9_copy_4 : decode cX9_copy 4 = .ok (.ifCond .eq 10, 3) := by decide +kernel
theorem dX9_copy_7 : decode cX9_copy 7 = .ok (.iload_n 3, 1) := by decide +kernel
theorem dX9_copy_8 : decode cX9_copy 8 = .ok (.invokestatic 247, 3) := by decide +kernel
theorem dX9_copy_11 : decode cX9_copy 11 = .ok (.ifCond .ne 6, 3) := by decide +kernel
theorem dX9_copy_14 : decode cX9_copy 14 = .ok (.bipush (-2), 2) := by decide +kernel
theorem dX9_copy_16 : decode cX9_copy 16 = .ok (.ireturn, 1) := by decide +kernel
theorem dX9_copy_17 : decode cX9_copy 17 = .ok (.aload_n 0, 1) := by decide +kernel
theorem dX9_copy_18 : decode cX9_copy 18 = .ok (.getfield 53, 3) := by decide +kernel
theorem dX9_copy_21 : decode cX9_copy 21 = .ok (.iload_n 1, 1) := by decide +kernel
theorem dX9_copy_22 : decode cX9_copy 22 = .ok (.aaload, 1) := by decide +kernel
theorem dX9_copy_23 : decode cX9_copy 23 = .ok (.astore 6, 2) := by decide +kernel
theorem dX9_copy_25 : decode cX9_copy 25 = .ok (.aload_n 0, 1) := by decide +kernel
theorem dX9_copy_26 : decode cX9_copy 26 = .ok (.getfield 53, 3) := by decide +kernel
theorem dX9_copy_29 : decode cX9_copy 29 = .ok (.iload_n 3, 1) := by decide +kernel
theorem dX9_copy_30 : decode cX9_copy 30 = .ok (.aaload, 1) := by decide +kernel
theorem dX9_copy_31 : decode cX9_copy 31 = .ok (.astore 7, 2) := by decide +kernel
theorem dX9_copy_33 : decode cX9_copy 33 = .ok (.aload 6, 2) := by decide +kernel
theorem dX9_copy_35 : decode cX9_copy 35 = .ok (.invokevirtual 250, 3) := by decide +kernel
theorem dX9_copy_38 : decode cX9_copy 38 = .ok (.ifCond .ne 11, 3) := by decide +kernel
theorem dX9_copy_41 : decode cX9_copy 41 = .ok (.aload 7, 2) := by decide +kernel
theorem dX9_copy_43 : decode cX9_copy 43 = .ok (.invokevirtual 250, 3) := by decide +kernel
theorem dX9_copy_46 : decode cX9_copy 46 = .ok (.ifCond .eq 6, 3) := by decide +kernel
theorem dX9_copy_49 : decode cX9_copy 49 = .ok (.bipush (-11), 2) := by decide +kernel
theorem dX9_copy_51 : decode cX9_copy 51 = .ok (.ireturn, 1) := by decide +kernel
theorem dX9_copy_52 : decode cX9_copy 52 = .ok (.aload 6, 2) := by decide +kernel
theorem dX9_copy_54 : decode cX9_copy 54 = .ok (.getfield 312, 3) := by decide +kernel
theorem dX9_copy_57 : decode cX9_copy 57 = .ok (.aload 7, 2) := by decide +kernel
theorem dX9_copy_59 : decode cX9_copy 59 = .ok (.getfield 312, 3) := by decide +kernel
theorem dX9_copy_62 : decode cX9_copy 62 = .ok (.if_icmp .eq 6, 3) := by decide +kernel
theorem dX9_copy_65 : decode cX9_copy 65 = .ok (.bipush (-13), 2) := by decide +kernel
theorem dX9_copy_67 : decode cX9_copy 67 = .ok (.ireturn, 1) := by decide +kernel
theorem dX9_copy_68 : decode cX9_copy 68 = .ok (.aload 6, 2) := by decide +kernel
theorem dX9_copy_70 : decode cX9_copy 70 = .ok (.iload_n 2, 1) := by decide +kernel
theorem dX9_copy_71 : decode cX9_copy 71 = .ok (.iload 5, 2) := by decide +kernel
theorem dX9_copy_73 : decode cX9_copy 73 = .ok (.invokevirtual 315, 3) := by decide +kernel
theorem dX9_copy_76 : decode cX9_copy 76 = .ok (.ifCond .eq 15, 3) := by decide +kernel
theorem dX9_copy_79 : decode cX9_copy 79 = .ok (.aload 7, 2) := by decide +kernel
theorem dX9_copy_81 : decode cX9_copy 81 = .ok (.iload 4, 2) := by decide +kernel
theorem dX9_copy_83 : decode cX9_copy 83 = .ok (.iload 5, 2) := by decide +kernel
theorem dX9_copy_85 : decode cX9_copy 85 = .ok (.invokevirtual 315, 3) := by decide +kernel
theorem dX9_copy_88 : decode cX9_copy 88 = .ok (.ifCond .ne 6, 3) := by decide +kernel
theorem dX9_copy_91 : decode cX9_copy 91 = .ok (.bipush (-12), 2) := by decide +kernel
theorem dX9_copy_93 : decode cX9_copy 93 = .ok (.ireturn, 1) := by decide +kernel
theorem dX9_copy_94 : decode cX9_copy 94 = .ok (.aload 6, 2) := by decide +kernel
theorem dX9_copy_96 : decode cX9_copy 96 = .ok (.getfield 294, 3) := by decide +kernel
theorem dX9_copy_99 : decode cX9_copy 99 = .ok (.iload_n 2, 1) := by decide +kernel
theorem dX9_copy_100 : decode cX9_copy 100 = .ok (.aload 7, 2) := by decide +kernel
theorem dX9_copy_102 : decode cX9_copy 102 = .ok (.getfield 294, 3) := by decide +kernel
theorem dX9_copy_105 : decode cX9_copy 105 = .ok (.iload 4, 2) := by decide +kernel
theorem dX9_copy_107 : decode cX9_copy 107 = .ok (.iload 5, 2) := by decide +kernel
theorem dX9_copy_109 : decode cX9_copy 109 = .ok (.invokestatic 318, 3) := by decide +kernel
theorem dX9_copy_112 : decode cX9_copy 112 = .ok (.iload 5, 2) := by decide +kernel
theorem dX9_copy_114 : decode cX9_copy 114 = .ok (.ireturn, 1) := by decide +kernel
theorem dX9_people_0 : decode cX9_people 0 = .ok (.iload_n 1, 1) := by decide +kernel
theorem dX9_people_1 : decode cX9_people 1 = .ok (.invokestatic 247, 3) := by decide +kernel
theorem dX9_people_4 : decode cX9_people 4 = .ok (.ifCond .eq 22, 3) := by decide +kernel
theorem dX9_people_7 : decode cX9_people 7 = .ok (.iload_n 2, 1) := by decide +kernel
theorem dX9_people_8 : decode cX9_people 8 = .ok (.invokestatic 308, 3) := by decide +kernel
theorem dX9_people_11 : decode cX9_people 11 = .ok (.ifCond .eq 15, 3) := by decide +kernel
theorem dX9_people_14 : decode cX9_people 14 = .ok (.iload 4, 2) := by decide +kernel
theorem dX9_people_16 : decode cX9_people 16 = .ok (.ifCond .lt 10, 3) := by decide +kernel
theorem dX9_people_19 : decode cX9_people 19 = .ok (.iload 4, 2) := by decide +kernel
theorem dX9_people_21 : decode cX9_people 21 = .ok (.bipush 6, 2) := by decide +kernel
theorem dX9_people_23 : decode cX9_people 23 = .ok (.if_icmp .le 6, 3) := by decide +kernel
theorem dX9_people_26 : decode cX9_people 26 = .ok (.bipush (-2), 2) := by decide +kernel
theorem dX9_people_28 : decode cX9_people 28 = .ok (.ireturn, 1) := by decide +kernel
theorem dX9_people_29 : decode cX9_people 29 = .ok (.aload_n 0, 1) := by decide +kernel
theorem dX9_people_30 : decode cX9_people 30 = .ok (.getfield 53, 3) := by decide +kernel
theorem dX9_people_33 : decode cX9_people 33 = .ok (.iload_n 1, 1) := by decide +kernel
theorem dX9_people_34 : decode cX9_people 34 = .ok (.aaload, 1) := by decide +kernel
theorem dX9_people_35 : decode cX9_people 35 = .ok (.astore 5, 2) := by decide +kernel
theorem dX9_people_37 : decode cX9_people 37 = .ok (.aload 5, 2) := by decide +kernel
theorem dX9_people_39 : decode cX9_people 39 = .ok (.invokevirtual 250, 3) := by decide +kernel
theorem dX9_people_42 : decode cX9_people 42 = .ok (.ifCond .eq 6, 3) := by decide +kernel
theorem dX9_people_45 : decode cX9_people 45 = .ok (.bipush (-11), 2) := by decide +kernel
theorem dX9_people_47 : decode cX9_people 47 = .ok (.ireturn, 1) := by decide +kernel
theorem dX9_people_48 : decode cX9_people 48 = .ok (.aload 5, 2) := by decide +kernel
theorem dX9_people_50 : decode cX9_people 50 = .ok (.getfield 312, 3) := by decide +kernel
theorem dX9_people_53 : decode cX9_people 53 = .ok (.iload_n 2, 1) := by decide +kernel
theorem dX9_people_54 : decode cX9_people 54 = .ok (.if_icmp .eq 6, 3) := by decide +kernel
theorem dX9_people_57 : decode cX9_people 57 = .ok (.bipush (-13), 2) := by decide +kernel
theorem dX9_people_59 : decode cX9_people 59 = .ok (.ireturn, 1) := by decide +kernel
theorem dX9_people_60 : decode cX9_people 60 = .ok (.iconst 0, 1) := by decide +kernel
theorem dX9_people_61 : decode cX9_people 61 = .ok (.istore 6, 2) := by decide +kernel
theorem dX9_people_63 : decode cX9_people 63 = .ok (.iconst 0, 1) := by decide +kernel
theorem dX9_people_64 : decode cX9_people 64 = .ok (.istore 7, 2) := by decide +kernel
theorem dX9_people_66 : decode cX9_people 66 = .ok (.iload 7, 2) := by decide +kernel
theorem dX9_people_68 : decode cX9_people 68 = .ok (.iload 4, 2) := by decide +kernel
theorem dX9_people_70 : decode cX9_people 70 = .ok (.if_icmp .ge 87, 3) := by decide +kernel
theorem dX9_people_73 : decode cX9_people 73 = .ok (.aload 5, 2) := by decide +kernel
theorem dX9_people_75 : decode cX9_people 75 = .ok (.iload_n 3, 1) := by decide +kernel
theorem dX9_people_76 : decode cX9_people 76 = .ok (.invokevirtual 311, 3) := by decide +kernel
theorem dX9_people_79 : decode cX9_people 79 = .ok (.ifCond .eq 33, 3) := by decide +kernel
theorem dX9_people_82 : decode cX9_people 82 = .ok (.aload 5, 2) := by decide +kernel
theorem dX9_people_84 : decode cX9_people 84 = .ok (.iload_n 3, 1) := by decide +kernel
theorem dX9_people_85 : decode cX9_people 85 = .ok (.iconst 2, 1) := by decide +kernel
theorem dX9_people_86 : decode cX9_people 86 = .ok (.iload 7, 2) := by decide +kernel
theorem dX9_people_88 : decode cX9_people 88 = .ok (.imul, 1) := by decide +kernel
theorem dX9_people_89 : decode cX9_people 89 = .ok (.iadd, 1) := by decide +kernel
theorem dX9_people_90 : decode cX9_people 90 = .ok (.invokevirtual 311, 3) := by decide +kernel
theorem dX9_people_93 : decode cX9_people 93 = .ok (.ifCond .eq 19, 3) := by decide +kernel
theorem dX9_people_96 : decode cX9_people 96 = .ok (.aload 5, 2) := by decide +kernel
theorem dX9_people_98 : decode cX9_people 98 = .ok (.iload_n 3, 1) := by decide +kernel
theorem dX9_people_99 : decode cX9_people 99 = .ok (.iconst 2, 1) := by decide +kernel
theorem dX9_people_100 : decode cX9_people 100 = .ok (.iload 7, 2) := by decide +kernel
theorem dX9_people_102 : decode cX9_people 102 = .ok (.imul, 1) := by decide +kernel
theorem dX9_people_103 : decode cX9_people 103 = .ok (.iadd, 1) := by decide +kernel
theorem dX9_people_104 : decode cX9_people 104 = .ok (.iconst 1, 1) := by decide +kernel
theorem dX9_people_105 : decode cX9_people 105 = .ok (.iadd, 1) := by decide +kernel
theorem dX9_people_106 : decode cX9_people 106 = .ok (.invokevirtual 311, 3) := by decide +kernel
theorem dX9_people_109 : decode cX9_people 109 = .ok (.ifCond .ne 6, 3) := by decide +kernel
theorem dX9_people_112 : decode cX9_people 112 = .ok (.bipush (-12), 2) := by decide +kernel
theorem dX9_people_114 : decode cX9_people 114 = .ok (.ireturn, 1) := by decide +kernel
theorem dX9_people_115 : decode cX9_people 115 = .ok (.aload_n 0, 1) := by decide +kernel
theorem dX9_people_116 : decode cX9_people 116 = .ok (.aload 5, 2) := by decide +kernel
theorem dX9_people_118 : decode cX9_people 118 = .ok (.getfield 294, 3) := by decide +kernel
theorem dX9_people_121 : decode cX9_people 121 = .ok (.iload_n 3, 1) := by decide +kernel
theorem dX9_people_122 : decode cX9_people 122 = .ok (.iconst 2, 1) := by decide +kernel
theorem dX9_people_123 : decode cX9_people 123 = .ok (.iload 7, 2) := by decide +kernel
theorem dX9_people_125 : decode cX9_people 125 = .ok (.imul, 1) := by decide +kernel
theorem dX9_people_126 : decode cX9_people 126 = .ok (.iadd, 1) := by decide +kernel
theorem dX9_people_127 : decode cX9_people 127 = .ok (.iaload, 1) := by decide +kernel
theorem dX9_people_128 : decode cX9_people 128 = .ok (.aload 5, 2) := by decide +kernel
theorem dX9_people_130 : decode cX9_people 130 = .ok (.getfield 294, 3) := by decide +kernel
theorem dX9_people_133 : decode cX9_people 133 = .ok (.iload_n 3, 1) := by decide +kernel
theorem dX9_people_134 : decode cX9_people 134 = .ok (.iconst 2, 1) := by decide +kernel
theorem dX9_people_135 : decode cX9_people 135 = .ok (.iload 7, 2) := by decide +kernel
theorem dX9_people_137 : decode cX9_people 137 = .ok (.imul, 1) := by decide +kernel
theorem dX9_people_138 : decode cX9_people 138 = .ok (.iadd, 1) := by decide +kernel
theorem dX9_people_139 : decode cX9_people 139 = .ok (.iconst 1, 1) := by decide +kernel
theorem dX9_people_140 : decode cX9_people 140 = .ok (.iadd, 1) := by decide +kernel
theorem dX9_people_141 : decode cX9_people 141 = .ok (.iaload, 1) := by decide +kernel
theorem dX9_people_142 : decode cX9_people 142 = .ok (.invokevirtual 324, 3) := by decide +kernel
theorem dX9_people_145 : decode cX9_people 145 = .ok (.ifCond .lt 6, 3) := by decide +kernel
theorem dX9_people_148 : decode cX9_people 148 = .ok (.iinc 6 1, 3) := by decide +kernel
theorem dX9_people_151 : decode cX9_people 151 = .ok (.iinc 7 1, 3) := by decide +kernel
theorem dX9_people_154 : decode cX9_people 154 = .ok (.goto (-88), 3) := by decide +kernel
theorem dX9_people_157 : decode cX9_people 157 = .ok (.iload 6, 2) := by decide +kernel
theorem dX9_people_159 : decode cX9_people 159 = .ok (.ireturn, 1) := by decide +kernel
theorem dX9_taken_0 : decode cX9_taken 0 = .ok (.iload_n 2, 1) := by decide +kernel
theorem dX9_taken_1 : decode cX9_taken 1 = .ok (.ifCond .lt 9, 3) := by decide +kernel
theorem dX9_taken_4 : decode cX9_taken 4 = .ok (.iload_n 2, 1) := by decide +kernel
theorem dX9_taken_5 : decode cX9_taken 5 = .ok (.bipush 6, 2) := by decide +kernel
theorem dX9_taken_7 : decode cX9_taken 7 = .ok (.if_icmp .lt 6, 3) := by decide +kernel
theorem dX9_taken_10 : decode cX9_taken 10 = .ok (.bipush (-2), 2) := by decide +kernel
theorem dX9_taken_12 : decode cX9_taken 12 = .ok (.ireturn, 1) := by decide +kernel
theorem dX9_taken_13 : decode cX9_taken 13 = .ok (.aload_n 0, 1) := by decide +kernel
theorem dX9_taken_14 : decode cX9_taken 14 = .ok (.getfield 10, 3) := by decide +kernel
theorem dX9_taken_17 : decode cX9_taken 17 = .ok (.iload_n 1, 1) := by decide +kernel
theorem dX9_taken_18 : decode cX9_taken 18 = .ok (.invokevirtual 107, 3) := by decide +kernel
theorem dX9_taken_21 : decode cX9_taken 21 = .ok (.ifCond .ne 6, 3) := by decide +kernel
theorem dX9_taken_24 : decode cX9_taken 24 = .ok (.bipush (-11), 2) := by decide +kernel
theorem dX9_taken_26 : decode cX9_taken 26 = .ok (.ireturn, 1) := by decide +kernel
theorem dX9_taken_27 : decode cX9_taken 27 = .ok (.aload_n 0, 1) := by decide +kernel
theorem dX9_taken_28 : decode cX9_taken 28 = .ok (.getfield 10, 3) := by decide +kernel
theorem dX9_taken_31 : decode cX9_taken 31 = .ok (.getfield 117, 3) := by decide +kernel
theorem dX9_taken_34 : decode cX9_taken 34 = .ok (.iload_n 1, 1) := by decide +kernel
theorem dX9_taken_35 : decode cX9_taken 35 = .ok (.iaload, 1) := by decide +kernel
theorem dX9_taken_36 : decode cX9_taken 36 = .ok (.iload_n 2, 1) := by decide +kernel
theorem dX9_taken_37 : decode cX9_taken 37 = .ok (.invokestatic 327, 3) := by decide +kernel
theorem dX9_taken_40 : decode cX9_taken 40 = .ok (.ifCond .eq 15, 3) := by decide +kernel
theorem dX9_taken_43 : decode cX9_taken 43 = .ok (.aload_n 0, 1) := by decide +kernel
theorem dX9_taken_44 : decode cX9_taken 44 = .ok (.getfield 10, 3) := by decide +kernel
theorem dX9_taken_47 : decode cX9_taken 47 = .ok (.getfield 146, 3) := by decide +kernel
theorem dX9_taken_50 : decode cX9_taken 50 = .ok (.iload_n 1, 1) := by decide +kernel
theorem dX9_taken_51 : decode cX9_taken 51 = .ok (.iaload, 1) := by decide +kernel
theorem dX9_taken_52 : decode cX9_taken 52 = .ok (.goto 5, 3) := by decide +kernel
theorem dX9_taken_55 : decode cX9_taken 55 = .ok (.bipush (-13), 2) := by decide +kernel
theorem dX9_taken_57 : decode cX9_taken 57 = .ok (.ireturn, 1) := by decide +kernel
theorem dX9_isSheet_0 : decode cX9_isSheet 0 = .ok (.iload_n 0, 1) := by decide +kernel
theorem dX9_isSheet_1 : decode cX9_isSheet 1 = .ok (.ifCond .lt 12, 3) := by decide +kernel
theorem dX9_isSheet_4 : decode cX9_isSheet 4 = .ok (.iload_n 0, 1) := by decide +kernel
theorem dX9_isSheet_5 : decode cX9_isSheet 5 = .ok (.iconst 4, 1) := by decide +kernel
theorem dX9_isSheet_6 : decode cX9_isSheet 6 = .ok (.if_icmp .ge 7, 3) := by decide +kernel
theorem dX9_isSheet_9 : decode cX9_isSheet 9 = .ok (.iconst 1, 1) := by decide +kernel
theorem dX9_isSheet_10 : decode cX9_isSheet 10 = .ok (.goto 4, 3) := by decide +kernel
theorem dX9_isSheet_13 : decode cX9_isSheet 13 = .ok (.iconst 0, 1) := by decide +kernel
theorem dX9_isSheet_14 : decode cX9_isSheet 14 = .ok (.ireturn, 1) := by decide +kernel
theorem dX9_isSort_0 : decode cX9_isSort 0 = .ok (.iload_n 0, 1) := by decide +kernel
theorem dX9_isSort_1 : decode cX9_isSort 1 = .ok (.ifCond .lt 12, 3) := by decide +kernel
theorem dX9_isSort_4 : decode cX9_isSort 4 = .ok (.iload_n 0, 1) := by decide +kernel
theorem dX9_isSort_5 : decode cX9_isSort 5 = .ok (.iconst 2, 1) := by decide +kernel
theorem dX9_isSort_6 : decode cX9_isSort 6 = .ok (.if_icmp .gt 7, 3) := by decide +kernel
theorem dX9_isSort_9 : decode cX9_isSort 9 = .ok (.iconst 1, 1) := by decide +kernel
theorem dX9_isSort_10 : decode cX9_isSort 10 = .ok (.goto 4, 3) := by decide +kernel
theorem dX9_isSort_13 : decode cX9_isSort 13 = .ok (.iconst 0, 1) := by decide +kernel
theorem dX9_isSort_14 : decode cX9_isSort 14 = .ok (.ireturn, 1) := by decide +kernel
theorem dX9_within_0 : decode cX9_within 0 = .ok (.iload_n 1, 1) := by decide +kernel
theorem dX9_within_1 : decode cX9_within 1 = .ok (.iload_n 0, 1) := by decide +kernel
theorem dX9_within_2 : decode cX9_within 2 = .ok (.if_icmp .ge 7, 3) := by decide +kernel
theorem dX9_within_5 : decode cX9_within 5 = .ok (.iload_n 0, 1) := by decide +kernel
theorem dX9_within_6 : decode cX9_within 6 = .ok (.goto 13, 3) := by decide +kernel
theorem dX9_within_9 : decode cX9_within 9 = .ok (.iload_n 1, 1) := by decide +kernel
theorem dX9_within_10 : decode cX9_within 10 = .ok (.iload_n 2, 1) := by decide +kernel
theorem dX9_within_11 : decode cX9_within 11 = .ok (.if_icmp .le 7, 3) := by decide +kernel
theorem dX9_within_14 : decode cX9_within 14 = .ok (.iload_n 2, 1) := by decide +kernel
theorem dX9_within_15 : decode cX9_within 15 = .ok (.goto 4, 3) := by decide +kernel
theorem dX9_within_18 : decode cX9_within 18 = .ok (.iload_n 1, 1) := by decide +kernel
theorem dX9_within_19 : decode cX9_within 19 = .ok (.ireturn, 1) := by decide +kernel
