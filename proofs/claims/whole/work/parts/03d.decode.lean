theorem dX10_not0_22 : decode cX10_not0 22 = .ok (.ifCond .ne 5, 3) := by decide +kernel
theorem dX10_not0_25 : decode cX10_not0 25 = .ok (.iconst 0, 1) := by decide +kernel
theorem dX10_not0_26 : decode cX10_not0 26 = .ok (.ireturn, 1) := by decide +kernel
theorem dX10_not0_27 : decode cX10_not0 27 = .ok (.aload_n 0, 1) := by decide +kernel
theorem dX10_not0_28 : decode cX10_not0 28 = .ok (.invokevirtual 325, 3) := by decide +kernel
theorem dX10_not0_31 : decode cX10_not0 31 = .ok (.istore_n 1, 1) := by decide +kernel
theorem dX10_not0_32 : decode cX10_not0 32 = .ok (.aload_n 0, 1) := by decide +kernel
theorem dX10_not0_33 : decode cX10_not0 33 = .ok (.dup, 1) := by decide +kernel
theorem dX10_not0_34 : decode cX10_not0 34 = .ok (.getfield 198, 3) := by decide +kernel
theorem dX10_not0_37 : decode cX10_not0 37 = .ok (.iconst 1, 1) := by decide +kernel
theorem dX10_not0_38 : decode cX10_not0 38 = .ok (.isub, 1) := by decide +kernel
theorem dX10_not0_39 : decode cX10_not0 39 = .ok (.putfield 198, 3) := by decide +kernel
theorem dX10_not0_42 : decode cX10_not0 42 = .ok (.iload_n 1, 1) := by decide +kernel
theorem dX10_not0_43 : decode cX10_not0 43 = .ok (.ifCond .ne 7, 3) := by decide +kernel
theorem dX10_not0_46 : decode cX10_not0 46 = .ok (.iconst 1, 1) := by decide +kernel
theorem dX10_not0_47 : decode cX10_not0 47 = .ok (.goto 4, 3) := by decide +kernel
theorem dX10_not0_50 : decode cX10_not0 50 = .ok (.iconst 0, 1) := by decide +kernel
theorem dX10_not0_51 : decode cX10_not0 51 = .ok (.ireturn, 1) := by decide +kernel
theorem dX10_not0_52 : decode cX10_not0 52 = .ok (.aload_n 0, 1) := by decide +kernel
theorem dX10_not0_53 : decode cX10_not0 53 = .ok (.invokevirtual 340, 3) := by decide +kernel
theorem dX10_not0_56 : decode cX10_not0 56 = .ok (.istore_n 1, 1) := by decide +kernel
theorem dX10_not0_57 : decode cX10_not0 57 = .ok (.aload_n 0, 1) := by decide +kernel
theorem dX10_not0_58 : decode cX10_not0 58 = .ok (.bipush 60, 2) := by decide +kernel
theorem dX10_not0_60 : decode cX10_not0 60 = .ok (.invokevirtual 229, 3) := by decide +kernel
theorem dX10_not0_63 : decode cX10_not0 63 = .ok (.ifCond .ne 14, 3) := by decide +kernel
theorem dX10_not0_66 : decode cX10_not0 66 = .ok (.aload_n 0, 1) := by decide +kernel
theorem dX10_not0_67 : decode cX10_not0 67 = .ok (.bipush 61, 2) := by decide +kernel
theorem dX10_not0_69 : decode cX10_not0 69 = .ok (.invokevirtual 229, 3) := by decide +kernel
theorem dX10_not0_72 : decode cX10_not0 72 = .ok (.ifCond .ne 5, 3) := by decide +kernel
theorem dX10_not0_75 : decode cX10_not0 75 = .ok (.iload_n 1, 1) := by decide +kernel
theorem dX10_not0_76 : decode cX10_not0 76 = .ok (.ireturn, 1) := by decide +kernel
theorem dX10_not0_77 : decode cX10_not0 77 = .ok (.aload_n 0, 1) := by decide +kernel
theorem dX10_not0_78 : decode cX10_not0 78 = .ok (.getfield 182, 3) := by decide +kernel
theorem dX10_not0_81 : decode cX10_not0 81 = .ok (.ldc2_w 251, 3) := by decide +kernel
theorem dX10_not0_84 : decode cX10_not0 84 = .ok (.lcmp, 1) := by decide +kernel
theorem dX10_not0_85 : decode cX10_not0 85 = .ok (.ifCond .ne 7, 3) := by decide +kernel
theorem dX10_not0_88 : decode cX10_not0 88 = .ok (.iconst 1, 1) := by decide +kernel
theorem dX10_not0_89 : decode cX10_not0 89 = .ok (.goto 4, 3) := by decide +kernel
theorem dX10_not0_92 : decode cX10_not0 92 = .ok (.iconst 0, 1) := by decide +kernel
theorem dX10_not0_93 : decode cX10_not0 93 = .ok (.istore_n 2, 1) := by decide +kernel
theorem dX10_not0_94 : decode cX10_not0 94 = .ok (.aload_n 0, 1) := by decide +kernel
theorem dX10_not0_95 : decode cX10_not0 95 = .ok (.invokevirtual 204, 3) := by decide +kernel
theorem dX10_not0_98 : decode cX10_not0 98 = .ok (.aload_n 0, 1) := by decide +kernel
theorem dX10_not0_99 : decode cX10_not0 99 = .ok (.invokevirtual 340, 3) := by decide +kernel
theorem dX10_not0_102 : decode cX10_not0 102 = .ok (.istore_n 3, 1) := by decide +kernel
theorem dX10_not0_103 : decode cX10_not0 103 = .ok (.iload_n 2, 1) := by decide +kernel
theorem dX10_not0_104 : decode cX10_not0 104 = .ok (.ifCond .eq 11, 3) := by decide +kernel
theorem dX10_not0_107 : decode cX10_not0 107 = .ok (.iload_n 1, 1) := by decide +kernel
theorem dX10_not0_108 : decode cX10_not0 108 = .ok (.iload_n 3, 1) := by decide +kernel
theorem dX10_not0_109 : decode cX10_not0 109 = .ok (.if_icmp .ge 15, 3) := by decide +kernel
theorem dX10_not0_112 : decode cX10_not0 112 = .ok (.goto 8, 3) := by decide +kernel
theorem dX10_not0_115 : decode cX10_not0 115 = .ok (.iload_n 1, 1) := by decide +kernel
theorem dX10_not0_116 : decode cX10_not0 116 = .ok (.iload_n 3, 1) := by decide +kernel
theorem dX10_not0_117 : decode cX10_not0 117 = .ok (.if_icmp .ne 7, 3) := by decide +kernel
theorem dX10_not0_120 : decode cX10_not0 120 = .ok (.iconst 1, 1) := by decide +kernel
theorem dX10_not0_121 : decode cX10_not0 121 = .ok (.goto 4, 3) := by decide +kernel
theorem dX10_not0_124 : decode cX10_not0 124 = .ok (.iconst 0, 1) := by decide +kernel
theorem dX10_not0_125 : decode cX10_not0 125 = .ok (.ireturn, 1) := by decide +kernel
theorem dX10_both0_0 : decode cX10_both0 0 = .ok (.aload_n 0, 1) := by decide +kernel
theorem dX10_both0_1 : decode cX10_both0 1 = .ok (.invokevirtual 343, 3) := by decide +kernel
theorem dX10_both0_4 : decode cX10_both0 4 = .ok (.istore_n 1, 1) := by decide +kernel
theorem dX10_both0_5 : decode cX10_both0 5 = .ok (.aload_n 0, 1) := by decide +kernel
theorem dX10_both0_6 : decode cX10_both0 6 = .ok (.bipush 97, 2) := by decide +kernel
theorem dX10_both0_8 : decode cX10_both0 8 = .ok (.bipush 110, 2) := by decide +kernel
theorem dX10_both0_10 : decode cX10_both0 10 = .ok (.bipush 100, 2) := by decide +kernel
theorem dX10_both0_12 : decode cX10_both0 12 = .ok (.iconst 0, 1) := by decide +kernel
theorem dX10_both0_13 : decode cX10_both0 13 = .ok (.iconst 0, 1) := by decide +kernel
theorem dX10_both0_14 : decode cX10_both0 14 = .ok (.iconst 0, 1) := by decide +kernel
theorem dX10_both0_15 : decode cX10_both0 15 = .ok (.iconst 0, 1) := by decide +kernel
theorem dX10_both0_16 : decode cX10_both0 16 = .ok (.iconst 0, 1) := by decide +kernel
theorem dX10_both0_17 : decode cX10_both0 17 = .ok (.invokevirtual 207, 3) := by decide +kernel
theorem dX10_both0_20 : decode cX10_both0 20 = .ok (.ifCond .eq 29, 3) := by decide +kernel
theorem dX10_both0_23 : decode cX10_both0 23 = .ok (.aload_n 0, 1) := by decide +kernel
theorem dX10_both0_24 : decode cX10_both0 24 = .ok (.invokevirtual 204, 3) := by decide +kernel
theorem dX10_both0_27 : decode cX10_both0 27 = .ok (.aload_n 0, 1) := by decide +kernel
theorem dX10_both0_28 : decode cX10_both0 28 = .ok (.invokevirtual 343, 3) := by decide +kernel
theorem dX10_both0_31 : decode cX10_both0 31 = .ok (.istore_n 2, 1) := by decide +kernel
theorem dX10_both0_32 : decode cX10_both0 32 = .ok (.iload_n 1, 1) := by decide +kernel
theorem dX10_both0_33 : decode cX10_both0 33 = .ok (.ifCond .eq 11, 3) := by decide +kernel
theorem dX10_both0_36 : decode cX10_both0 36 = .ok (.iload_n 2, 1) := by decide +kernel
theorem dX10_both0_37 : decode cX10_both0 37 = .ok (.ifCond .eq 7, 3) := by decide +kernel
theorem dX10_both0_40 : decode cX10_both0 40 = .ok (.iconst 1, 1) := by decide +kernel
theorem dX10_both0_41 : decode cX10_both0 41 = .ok (.goto 4, 3) := by decide +kernel
theorem dX10_both0_44 : decode cX10_both0 44 = .ok (.iconst 0, 1) := by decide +kernel
theorem dX10_both0_45 : decode cX10_both0 45 = .ok (.istore_n 1, 1) := by decide +kernel
theorem dX10_both0_46 : decode cX10_both0 46 = .ok (.goto (-41), 3) := by decide +kernel
theorem dX10_both0_49 : decode cX10_both0 49 = .ok (.iload_n 1, 1) := by decide +kernel
theorem dX10_both0_50 : decode cX10_both0 50 = .ok (.ireturn, 1) := by decide +kernel
theorem dX10_either0_0 : decode cX10_either0 0 = .ok (.aload_n 0, 1) := by decide +kernel
theorem dX10_either0_1 : decode cX10_either0 1 = .ok (.invokevirtual 346, 3) := by decide +kernel
theorem dX10_either0_4 : decode cX10_either0 4 = .ok (.istore_n 1, 1) := by decide +kernel
theorem dX10_either0_5 : decode cX10_either0 5 = .ok (.aload_n 0, 1) := by decide +kernel
theorem dX10_either0_6 : decode cX10_either0 6 = .ok (.bipush 111, 2) := by decide +kernel
theorem dX10_either0_8 : decode cX10_either0 8 = .ok (.bipush 114, 2) := by decide +kernel
theorem dX10_either0_10 : decode cX10_either0 10 = .ok (.iconst 0, 1) := by decide +kernel
theorem dX10_either0_11 : decode cX10_either0 11 = .ok (.iconst 0, 1) := by decide +kernel
theorem dX10_either0_12 : decode cX10_either0 12 = .ok (.iconst 0, 1) := by decide +kernel
theorem dX10_either0_13 : decode cX10_either0 13 = .ok (.iconst 0, 1) := by decide +kernel
theorem dX10_either0_14 : decode cX10_either0 14 = .ok (.iconst 0, 1) := by decide +kernel
theorem dX10_either0_15 : decode cX10_either0 15 = .ok (.iconst 0, 1) := by decide +kernel
theorem dX10_either0_16 : decode cX10_either0 16 = .ok (.invokevirtual 207, 3) := by decide +kernel
theorem dX10_either0_19 : decode cX10_either0 19 = .ok (.ifCond .eq 29, 3) := by decide +kernel
theorem dX10_either0_22 : decode cX10_either0 22 = .ok (.aload_n 0, 1) := by decide +kernel
theorem dX10_either0_23 : decode cX10_either0 23 = .ok (.invokevirtual 204, 3) := by decide +kernel
theorem dX10_either0_26 : decode cX10_either0 26 = .ok (.aload_n 0, 1) := by decide +kernel
theorem dX10_either0_27 : decode cX10_either0 27 = .ok (.invokevirtual 346, 3) := by decide +kernel
theorem dX10_either0_30 : decode cX10_either0 30 = .ok (.istore_n 2, 1) := by decide +kernel
theorem dX10_either0_31 : decode cX10_either0 31 = .ok (.iload_n 1, 1) := by decide +kernel
theorem dX10_either0_32 : decode cX10_either0 32 = .ok (.ifCond .ne 7, 3) := by decide +kernel
theorem dX10_either0_35 : decode cX10_either0 35 = .ok (.iload_n 2, 1) := by decide +kernel
theorem dX10_either0_36 : decode cX10_either0 36 = .ok (.ifCond .eq 7, 3) := by decide +kernel
theorem dX10_either0_39 : decode cX10_either0 39 = .ok (.iconst 1, 1) := by decide +kernel
theorem dX10_either0_40 : decode cX10_either0 40 = .ok (.goto 4, 3) := by decide +kernel
theorem dX10_either0_43 : decode cX10_either0 43 = .ok (.iconst 0, 1) := by decide +kernel
theorem dX10_either0_44 : decode cX10_either0 44 = .ok (.istore_n 1, 1) := by decide +kernel
theorem dX10_either0_45 : decode cX10_either0 45 = .ok (.goto (-40), 3) := by decide +kernel
theorem dX10_either0_48 : decode cX10_either0 48 = .ok (.iload_n 1, 1) := by decide +kernel
theorem dX10_either0_49 : decode cX10_either0 49 = .ok (.ireturn, 1) := by decide +kernel
theorem dX10_part_0 : decode cX10_part 0 = .ok (.iload_n 1, 1) := by decide +kernel
theorem dX10_part_1 : decode cX10_part 1 = .ok (.ifCond .ne 7, 3) := by decide +kernel
theorem dX10_part_4 : decode cX10_part 4 = .ok (.aload_n 0, 1) := by decide +kernel
theorem dX10_part_5 : decode cX10_part 5 = .ok (.invokevirtual 201, 3) := by decide +kernel
theorem dX10_part_8 : decode cX10_part 8 = .ok (.aload_n 0, 1) := by decide +kernel
theorem dX10_part_9 : decode cX10_part 9 = .ok (.getfield 188, 3) := by decide +kernel
theorem dX10_part_12 : decode cX10_part 12 = .ok (.ifCond .ne 7, 3) := by decide +kernel
theorem dX10_part_15 : decode cX10_part 15 = .ok (.aload_n 0, 1) := by decide +kernel
theorem dX10_part_16 : decode cX10_part 16 = .ok (.invokevirtual 204, 3) := by decide +kernel
theorem dX10_part_19 : decode cX10_part 19 = .ok (.aload_n 0, 1) := by decide +kernel
theorem dX10_part_20 : decode cX10_part 20 = .ok (.getfield 188, 3) := by decide +kernel
theorem dX10_part_23 : decode cX10_part 23 = .ok (.ifCond .eq 7, 3) := by decide +kernel
theorem dX10_part_26 : decode cX10_part 26 = .ok (.iconst 0, 1) := by decide +kernel
theorem dX10_part_27 : decode cX10_part 27 = .ok (.goto 7, 3) := by decide +kernel
theorem dX10_part_30 : decode cX10_part 30 = .ok (.aload_n 0, 1) := by decide +kernel
theorem dX10_part_31 : decode cX10_part 31 = .ok (.invokevirtual 349, 3) := by decide +kernel
theorem dX10_part_34 : decode cX10_part 34 = .ok (.istore_n 2, 1) := by decide +kernel
theorem dX10_part_35 : decode cX10_part 35 = .ok (.aload_n 0, 1) := by decide +kernel
theorem dX10_part_36 : decode cX10_part 36 = .ok (.bipush 59, 2) := by decide +kernel
theorem dX10_part_38 : decode cX10_part 38 = .ok (.invokevirtual 229, 3) := by decide +kernel
theorem dX10_part_41 : decode cX10_part 41 = .ok (.ifCond .ne 7, 3) := by decide +kernel
theorem dX10_part_44 : decode cX10_part 44 = .ok (.aload_n 0, 1) := by decide +kernel
theorem dX10_part_45 : decode cX10_part 45 = .ok (.invokevirtual 201, 3) := by decide +kernel
theorem dX10_part_48 : decode cX10_part 48 = .ok (.aload_n 0, 1) := by decide +kernel
theorem dX10_part_49 : decode cX10_part 49 = .ok (.getfield 188, 3) := by decide +kernel
theorem dX10_part_52 : decode cX10_part 52 = .ok (.ifCond .ne 7, 3) := by decide +kernel
theorem dX10_part_55 : decode cX10_part 55 = .ok (.aload_n 0, 1) := by decide +kernel
theorem dX10_part_56 : decode cX10_part 56 = .ok (.invokevirtual 204, 3) := by decide +kernel
theorem dX10_part_59 : decode cX10_part 59 = .ok (.iload_n 2, 1) := by decide +kernel
theorem dX10_part_60 : decode cX10_part 60 = .ok (.ireturn, 1) := by decide +kernel
theorem dX10_read_0 : decode cX10_read 0 = .ok (.aload_n 0, 1) := by decide +kernel
theorem dX10_read_1 : decode cX10_read 1 = .ok (.sipush 160, 3) := by decide +kernel
theorem dX10_read_4 : decode cX10_read 4 = .ok (.iload_n 1, 1) := by decide +kernel
theorem dX10_read_5 : decode cX10_read 5 = .ok (.imul, 1) := by decide +kernel
theorem dX10_read_6 : decode cX10_read 6 = .ok (.putfield 159, 3) := by decide +kernel
theorem dX10_read_9 : decode cX10_read 9 = .ok (.aload_n 0, 1) := by decide +kernel
theorem dX10_read_10 : decode cX10_read 10 = .ok (.aload_n 0, 1) := by decide +kernel
theorem dX10_read_11 : decode cX10_read 11 = .ok (.getfield 17, 3) := by decide +kernel
theorem dX10_read_14 : decode cX10_read 14 = .ok (.iload_n 1, 1) := by decide +kernel
theorem dX10_read_15 : decode cX10_read 15 = .ok (.iaload, 1) := by decide +kernel
theorem dX10_read_16 : decode cX10_read 16 = .ok (.putfield 156, 3) := by decide +kernel
theorem dX10_read_19 : decode cX10_read 19 = .ok (.aload_n 0, 1) := by decide +kernel
theorem dX10_read_20 : decode cX10_read 20 = .ok (.iconst 0, 1) := by decide +kernel
theorem dX10_read_21 : decode cX10_read 21 = .ok (.putfield 162, 3) := by decide +kernel
theorem dX10_read_24 : decode cX10_read 24 = .ok (.aload_n 0, 1) := by decide +kernel
theorem dX10_read_25 : decode cX10_read 25 = .ok (.iconst 0, 1) := by decide +kernel
theorem dX10_read_26 : decode cX10_read 26 = .ok (.putfield 198, 3) := by decide +kernel
theorem dX10_read_29 : decode cX10_read 29 = .ok (.aload_n 0, 1) := by decide +kernel
theorem dX10_read_30 : decode cX10_read 30 = .ok (.iconst 0, 1) := by decide +kernel
theorem dX10_read_31 : decode cX10_read 31 = .ok (.putfield 188, 3) := by decide +kernel
theorem dX10_read_34 : decode cX10_read 34 = .ok (.aload_n 0, 1) := by decide +kernel
theorem dX10_read_35 : decode cX10_read 35 = .ok (.invokevirtual 204, 3) := by decide +kernel
theorem dX10_read_38 : decode cX10_read 38 = .ok (.aload_n 0, 1) := by decide +kernel
theorem dX10_read_39 : decode cX10_read 39 = .ok (.aload_n 0, 1) := by decide +kernel
theorem dX10_read_40 : decode cX10_read 40 = .ok (.bipush 116, 2) := by decide +kernel
theorem dX10_read_42 : decode cX10_read 42 = .ok (.bipush 104, 2) := by decide +kernel
theorem dX10_read_44 : decode cX10_read 44 = .ok (.bipush 105, 2) := by decide +kernel
theorem dX10_read_46 : decode cX10_read 46 = .ok (.bipush 110, 2) := by decide +kernel
theorem dX10_read_48 : decode cX10_read 48 = .ok (.bipush 107, 2) := by decide +kernel
theorem dX10_read_50 : decode cX10_read 50 = .ok (.bipush 115, 2) := by decide +kernel
theorem dX10_read_52 : decode cX10_read 52 = .ok (.iconst 0, 1) := by decide +kernel
theorem dX10_read_53 : decode cX10_read 53 = .ok (.iconst 0, 1) := by decide +kernel
theorem dX10_read_54 : decode cX10_read 54 = .ok (.invokevirtual 207, 3) := by decide +kernel
theorem dX10_read_57 : decode cX10_read 57 = .ok (.invokevirtual 352, 3) := by decide +kernel
theorem dX10_read_60 : decode cX10_read 60 = .ok (.istore_n 3, 1) := by decide +kernel
theorem dX10_read_61 : decode cX10_read 61 = .ok (.aload_n 0, 1) := by decide +kernel
theorem dX10_read_62 : decode cX10_read 62 = .ok (.getfield 188, 3) := by decide +kernel
theorem dX10_read_65 : decode cX10_read 65 = .ok (.ifCond .eq 7, 3) := by decide +kernel
theorem dX10_read_68 : decode cX10_read 68 = .ok (.iconst 0, 1) := by decide +kernel
theorem dX10_read_69 : decode cX10_read 69 = .ok (.goto 24, 3) := by decide +kernel
theorem dX10_read_72 : decode cX10_read 72 = .ok (.aload_n 0, 1) := by decide +kernel
theorem dX10_read_73 : decode cX10_read 73 = .ok (.aload_n 0, 1) := by decide +kernel
theorem dX10_read_74 : decode cX10_read 74 = .ok (.bipush 109, 2) := by decide +kernel
theorem dX10_read_76 : decode cX10_read 76 = .ok (.bipush 101, 2) := by decide +kernel
theorem dX10_read_78 : decode cX10_read 78 = .ok (.bipush 110, 2) := by decide +kernel
theorem dX10_read_80 : decode cX10_read 80 = .ok (.bipush 100, 2) := by decide +kernel
theorem dX10_read_82 : decode cX10_read 82 = .ok (.bipush 115, 2) := by decide +kernel
theorem dX10_read_84 : decode cX10_read 84 = .ok (.iconst 0, 1) := by decide +kernel
theorem dX10_read_85 : decode cX10_read 85 = .ok (.iconst 0, 1) := by decide +kernel
theorem dX10_read_86 : decode cX10_read 86 = .ok (.iconst 0, 1) := by decide +kernel
theorem dX10_read_87 : decode cX10_read 87 = .ok (.invokevirtual 207, 3) := by decide +kernel
theorem dX10_read_90 : decode cX10_read 90 = .ok (.invokevirtual 352, 3) := by decide +kernel
theorem dX10_read_93 : decode cX10_read 93 = .ok (.istore 4, 2) := by decide +kernel
theorem dX10_read_95 : decode cX10_read 95 = .ok (.aload_n 0, 1) := by decide +kernel
theorem dX10_read_96 : decode cX10_read 96 = .ok (.getfield 188, 3) := by decide +kernel
theorem dX10_read_99 : decode cX10_read 99 = .ok (.ifCond .eq 7, 3) := by decide +kernel
theorem dX10_read_102 : decode cX10_read 102 = .ok (.iconst 0, 1) := by decide +kernel
theorem dX10_read_103 : decode cX10_read 103 = .ok (.goto 25, 3) := by decide +kernel
theorem dX10_read_106 : decode cX10_read 106 = .ok (.aload_n 0, 1) := by decide +kernel
theorem dX10_read_107 : decode cX10_read 107 = .ok (.aload_n 0, 1) := by decide +kernel
theorem dX10_read_108 : decode cX10_read 108 = .ok (.bipush 99, 2) := by decide +kernel
theorem dX10_read_110 : decode cX10_read 110 = .ok (.bipush 108, 2) := by decide +kernel
theorem dX10_read_112 : decode cX10_read 112 = .ok (.bipush 97, 2) := by decide +kernel
theorem dX10_read_114 : decode cX10_read 114 = .ok (.bipush 105, 2) := by decide +kernel
theorem dX10_read_116 : decode cX10_read 116 = .ok (.bipush 109, 2) := by decide +kernel
theorem dX10_read_118 : decode cX10_read 118 = .ok (.bipush 115, 2) := by decide +kernel
theorem dX10_read_120 : decode cX10_read 120 = .ok (.iconst 0, 1) := by decide +kernel
theorem dX10_read_121 : decode cX10_read 121 = .ok (.iconst 0, 1) := by decide +kernel
theorem dX10_read_122 : decode cX10_read 122 = .ok (.invokevirtual 207, 3) := by decide +kernel
theorem dX10_read_125 : decode cX10_read 125 = .ok (.invokevirtual 352, 3) := by decide +kernel
theorem dX10_read_128 : decode cX10_read 128 = .ok (.istore 5, 2) := by decide +kernel
theorem dX10_read_130 : decode cX10_read 130 = .ok (.aload_n 0, 1) := by decide +kernel
theorem dX10_read_131 : decode cX10_read 131 = .ok (.getfield 188, 3) := by decide +kernel
theorem dX10_read_134 : decode cX10_read 134 = .ok (.ifCond .ne 14, 3) := by decide +kernel
theorem dX10_read_137 : decode cX10_read 137 = .ok (.aload_n 0, 1) := by decide +kernel
theorem dX10_read_138 : decode cX10_read 138 = .ok (.getfield 171, 3) := by decide +kernel
theorem dX10_read_141 : decode cX10_read 141 = .ok (.ifCond .eq 7, 3) := by decide +kernel
theorem dX10_read_144 : decode cX10_read 144 = .ok (.aload_n 0, 1) := by decide +kernel
theorem dX10_read_145 : decode cX10_read 145 = .ok (.invokevirtual 201, 3) := by decide +kernel
theorem dX10_read_148 : decode cX10_read 148 = .ok (.iload_n 2, 1) := by decide +kernel
theorem dX10_read_149 : decode cX10_read 149 = .ok (.ifCond .ne 7, 3) := by decide +kernel
theorem dX10_read_152 : decode cX10_read 152 = .ok (.iload_n 3, 1) := by decide +kernel
theorem dX10_read_153 : decode cX10_read 153 = .ok (.goto 15, 3) := by decide +kernel
theorem dX10_read_156 : decode cX10_read 156 = .ok (.iload_n 2, 1) := by decide +kernel
theorem dX10_read_157 : decode cX10_read 157 = .ok (.iconst 1, 1) := by decide +kernel
theorem dX10_read_158 : decode cX10_read 158 = .ok (.if_icmp .ne 8, 3) := by decide +kernel
theorem dX10_read_161 : decode cX10_read 161 = .ok (.iload 4, 2) := by decide +kernel
theorem dX10_read_163 : decode cX10_read 163 = .ok (.goto 5, 3) := by decide +kernel
theorem dX10_read_166 : decode cX10_read 166 = .ok (.iload 5, 2) := by decide +kernel
theorem dX10_read_168 : decode cX10_read 168 = .ok (.ireturn, 1) := by decide +kernel
theorem dX10_text_0 : decode cX10_text 0 = .ok (.aload_n 0, 1) := by decide +kernel
theorem dX10_text_1 : decode cX10_text 1 = .ok (.getfield 70, 3) := by decide +kernel
theorem dX10_text_4 : decode cX10_text 4 = .ok (.bipush 6, 2) := by decide +kernel
theorem dX10_text_6 : decode cX10_text 6 = .ok (.if_icmp .ne 6, 3) := by decide +kernel
theorem dX10_text_9 : decode cX10_text 9 = .ok (.bipush (-4), 2) := by decide +kernel
theorem dX10_text_11 : decode cX10_text 11 = .ok (.ireturn, 1) := by decide +kernel
theorem dX10_text_12 : decode cX10_text 12 = .ok (.iconst 0, 1) := by decide +kernel
theorem dX10_text_13 : decode cX10_text 13 = .ok (.istore_n 1, 1) := by decide +kernel
theorem dX10_text_14 : decode cX10_text 14 = .ok (.iload_n 1, 1) := by decide +kernel
theorem dX10_text_15 : decode cX10_text 15 = .ok (.aload_n 0, 1) := by decide +kernel
theorem dX10_text_16 : decode cX10_text 16 = .ok (.getfield 153, 3) := by decide +kernel
theorem dX10_text_19 : decode cX10_text 19 = .ok (.if_icmp .ge 30, 3) := by decide +kernel
theorem dX10_text_22 : decode cX10_text 22 = .ok (.aload_n 0, 1) := by decide +kernel
theorem dX10_text_23 : decode cX10_text 23 = .ok (.getfield 13, 3) := by decide +kernel
theorem dX10_text_26 : decode cX10_text 26 = .ok (.sipush 160, 3) := by decide +kernel
theorem dX10_text_29 : decode cX10_text 29 = .ok (.aload_n 0, 1) := by decide +kernel
theorem dX10_text_30 : decode cX10_text 30 = .ok (.getfield 70, 3) := by decide +kernel
theorem dX10_text_33 : decode cX10_text 33 = .ok (.imul, 1) := by decide +kernel
theorem dX10_text_34 : decode cX10_text 34 = .ok (.iload_n 1, 1) := by decide +kernel
theorem dX10_text_35 : decode cX10_text 35 = .ok (.iadd, 1) := by decide +kernel
theorem dX10_text_36 : decode cX10_text 36 = .ok (.aload_n 0, 1) := by decide +kernel
theorem dX10_text_37 : decode cX10_text 37 = .ok (.getfield 20, 3) := by decide +kernel
theorem dX10_text_40 : decode cX10_text 40 = .ok (.iload_n 1, 1) := by decide +kernel
theorem dX10_text_41 : decode cX10_text 41 = .ok (.iaload, 1) := by decide +kernel
theorem dX10_text_42 : decode cX10_text 42 = .ok (.iastore, 1) := by decide +kernel
theorem dX10_text_43 : decode cX10_text 43 = .ok (.iinc 1 1, 3) := by decide +kernel
theorem dX10_text_46 : decode cX10_text 46 = .ok (.goto (-32), 3) := by decide +kernel
theorem dX10_text_49 : decode cX10_text 49 = .ok (.aload_n 0, 1) := by decide +kernel
theorem dX10_text_50 : decode cX10_text 50 = .ok (.getfield 17, 3) := by decide +kernel
theorem dX10_text_53 : decode cX10_text 53 = .ok (.aload_n 0, 1) := by decide +kernel
theorem dX10_text_54 : decode cX10_text 54 = .ok (.getfield 70, 3) := by decide +kernel
theorem dX10_text_57 : decode cX10_text 57 = .ok (.aload_n 0, 1) := by decide +kernel
theorem dX10_text_58 : decode cX10_text 58 = .ok (.getfield 153, 3) := by decide +kernel
theorem dX10_text_61 : decode cX10_text 61 = .ok (.iastore, 1) := by decide +kernel
theorem dX10_text_62 : decode cX10_text 62 = .ok (.aload_n 0, 1) := by decide +kernel
theorem dX10_text_63 : decode cX10_text 63 = .ok (.iconst 0, 1) := by decide +kernel
theorem dX10_text_64 : decode cX10_text 64 = .ok (.putfield 153, 3) := by decide +kernel
theorem dX10_text_67 : decode cX10_text 67 = .ok (.aload_n 0, 1) := by decide +kernel
theorem dX10_text_68 : decode cX10_text 68 = .ok (.aload_n 0, 1) := by decide +kernel
theorem dX10_text_69 : decode cX10_text 69 = .ok (.getfield 70, 3) := by decide +kernel
theorem dX10_text_72 : decode cX10_text 72 = .ok (.iconst 0, 1) := by decide +kernel
theorem dX10_text_73 : decode cX10_text 73 = .ok (.invokevirtual 356, 3) := by decide +kernel
theorem dX10_text_76 : decode cX10_text 76 = .ok (.istore_n 1, 1) := by decide +kernel
theorem dX10_text_77 : decode cX10_text 77 = .ok (.aload_n 0, 1) := by decide +kernel
theorem dX10_text_78 : decode cX10_text 78 = .ok (.getfield 188, 3) := by decide +kernel
theorem dX10_text_81 : decode cX10_text 81 = .ok (.ifCond .eq 11, 3) := by decide +kernel
theorem dX10_text_84 : decode cX10_text 84 = .ok (.bipush (-100), 2) := by decide +kernel
theorem dX10_text_86 : decode cX10_text 86 = .ok (.aload_n 0, 1) := by decide +kernel
theorem dX10_text_87 : decode cX10_text 87 = .ok (.getfield 192, 3) := by decide +kernel
theorem dX10_text_90 : decode cX10_text 90 = .ok (.isub, 1) := by decide +kernel
theorem dX10_text_91 : decode cX10_text 91 = .ok (.ireturn, 1) := by decide +kernel
theorem dX10_text_92 : decode cX10_text 92 = .ok (.aload_n 0, 1) := by decide +kernel
theorem dX10_text_93 : decode cX10_text 93 = .ok (.dup, 1) := by decide +kernel
theorem dX10_text_94 : decode cX10_text 94 = .ok (.getfield 70, 3) := by decide +kernel
theorem dX10_text_97 : decode cX10_text 97 = .ok (.iconst 1, 1) := by decide +kernel
theorem dX10_text_98 : decode cX10_text 98 = .ok (.iadd, 1) := by decide +kernel
theorem dX10_text_99 : decode cX10_text 99 = .ok (.putfield 70, 3) := by decide +kernel
theorem dX10_text_102 : decode cX10_text 102 = .ok (.aload_n 0, 1) := by decide +kernel
theorem dX10_text_103 : decode cX10_text 103 = .ok (.getfield 70, 3) := by decide +kernel
theorem dX10_text_106 : decode cX10_text 106 = .ok (.iconst 1, 1) := by decide +kernel
theorem dX10_text_107 : decode cX10_text 107 = .ok (.isub, 1) := by decide +kernel
theorem dX10_text_108 : decode cX10_text 108 = .ok (.ireturn, 1) := by decide +kernel
theorem dX10_force_0 : decode cX10_force 0 = .ok (.iload_n 1, 1) := by decide +kernel
theorem dX10_force_1 : decode cX10_force 1 = .ok (.i2l, 1) := by decide +kernel
theorem dX10_force_2 : decode cX10_force 2 = .ok (.lconst 0, 1) := by decide +kernel
theorem dX10_force_3 : decode cX10_force 3 = .ok (.aload_n 0, 1) := by decide +kernel
theorem dX10_force_4 : decode cX10_force 4 = .ok (.getfield 70, 3) := by decide +kernel
theorem dX10_force_7 : decode cX10_force 7 = .ok (.iconst 1, 1) := by decide +kernel
theorem dX10_force_8 : decode cX10_force 8 = .ok (.isub, 1) := by decide +kernel
theorem dX10_force_9 : decode cX10_force 9 = .ok (.i2l, 1) := by decide +kernel
theorem dX10_force_10 : decode cX10_force 10 = .ok (.invokestatic 76, 3) := by decide +kernel
theorem dX10_force_13 : decode cX10_force 13 = .ok (.ifCond .ne 6, 3) := by decide +kernel
theorem dX10_force_16 : decode cX10_force 16 = .ok (.bipush (-2), 2) := by decide +kernel
theorem dX10_force_18 : decode cX10_force 18 = .ok (.ireturn, 1) := by decide +kernel
theorem dX10_force_19 : decode cX10_force 19 = .ok (.aload_n 0, 1) := by decide +kernel
theorem dX10_force_20 : decode cX10_force 20 = .ok (.getfield 116, 3) := by decide +kernel
theorem dX10_force_23 : decode cX10_force 23 = .ok (.istore_n 2, 1) := by decide +kernel
theorem dX10_force_24 : decode cX10_force 24 = .ok (.aload_n 0, 1) := by decide +kernel
theorem dX10_force_25 : decode cX10_force 25 = .ok (.iload_n 1, 1) := by decide +kernel
theorem dX10_force_26 : decode cX10_force 26 = .ok (.putfield 116, 3) := by decide +kernel
theorem dX10_force_29 : decode cX10_force 29 = .ok (.iload_n 2, 1) := by decide +kernel
theorem dX10_force_30 : decode cX10_force 30 = .ok (.ireturn, 1) := by decide +kernel
theorem dX10_asks_0 : decode cX10_asks 0 = .ok (.aload_n 0, 1) := by decide +kernel
theorem dX10_asks_1 : decode cX10_asks 1 = .ok (.iload_n 3, 1) := by decide +kernel
theorem dX10_asks_2 : decode cX10_asks 2 = .ok (.iconst (-1), 1) := by decide +kernel
theorem dX10_asks_3 : decode cX10_asks 3 = .ok (.if_icmp .ne 7, 3) := by decide +kernel
theorem dX10_asks_6 : decode cX10_asks 6 = .ok (.iconst 0, 1) := by decide +kernel
theorem dX10_asks_7 : decode cX10_asks 7 = .ok (.goto 9, 3) := by decide +kernel
theorem dX10_asks_10 : decode cX10_asks 10 = .ok (.aload_n 0, 1) := by decide +kernel
theorem dX10_asks_11 : decode cX10_asks 11 = .ok (.getfield 26, 3) := by decide +kernel
theorem dX10_asks_14 : decode cX10_asks 14 = .ok (.iload_n 3, 1) := by decide +kernel
theorem dX10_asks_15 : decode cX10_asks 15 = .ok (.iaload, 1) := by decide +kernel
theorem dX10_asks_16 : decode cX10_asks 16 = .ok (.putfield 211, 3) := by decide +kernel
theorem dX10_asks_19 : decode cX10_asks 19 = .ok (.aload_n 0, 1) := by decide +kernel
theorem dX10_asks_20 : decode cX10_asks 20 = .ok (.iload_n 3, 1) := by decide +kernel
theorem dX10_asks_21 : decode cX10_asks 21 = .ok (.iconst (-1), 1) := by decide +kernel
theorem dX10_asks_22 : decode cX10_asks 22 = .ok (.if_icmp .ne 7, 3) := by decide +kernel
theorem dX10_asks_25 : decode cX10_asks 25 = .ok (.iconst 0, 1) := by decide +kernel
theorem dX10_asks_26 : decode cX10_asks 26 = .ok (.goto 4, 3) := by decide +kernel
theorem dX10_asks_29 : decode cX10_asks 29 = .ok (.iload_n 3, 1) := by decide +kernel
theorem dX10_asks_30 : decode cX10_asks 30 = .ok (.putfield 214, 3) := by decide +kernel
theorem dX10_asks_33 : decode cX10_asks 33 = .ok (.aload_n 0, 1) := by decide +kernel
theorem dX10_asks_34 : decode cX10_asks 34 = .ok (.aload_n 0, 1) := by decide +kernel
theorem dX10_asks_35 : decode cX10_asks 35 = .ok (.getfield 23, 3) := by decide +kernel
theorem dX10_asks_38 : decode cX10_asks 38 = .ok (.iconst 0, 1) := by decide +kernel
theorem dX10_asks_39 : decode cX10_asks 39 = .ok (.iaload, 1) := by decide +kernel
theorem dX10_asks_40 : decode cX10_asks 40 = .ok (.putfield 217, 3) := by decide +kernel
theorem dX10_asks_43 : decode cX10_asks 43 = .ok (.aload_n 0, 1) := by decide +kernel
theorem dX10_asks_44 : decode cX10_asks 44 = .ok (.aload_n 0, 1) := by decide +kernel
theorem dX10_asks_45 : decode cX10_asks 45 = .ok (.getfield 32, 3) := by decide +kernel
theorem dX10_asks_48 : decode cX10_asks 48 = .ok (.iconst 2, 1) := by decide +kernel
theorem dX10_asks_49 : decode cX10_asks 49 = .ok (.iload_n 2, 1) := by decide +kernel
theorem dX10_asks_50 : decode cX10_asks 50 = .ok (.imul, 1) := by decide +kernel
theorem dX10_asks_51 : decode cX10_asks 51 = .ok (.iaload, 1) := by decide +kernel
theorem dX10_asks_52 : decode cX10_asks 52 = .ok (.putfield 220, 3) := by decide +kernel
theorem dX10_asks_55 : decode cX10_asks 55 = .ok (.aload_n 0, 1) := by decide +kernel
theorem dX10_asks_56 : decode cX10_asks 56 = .ok (.iload_n 3, 1) := by decide +kernel
theorem dX10_asks_57 : decode cX10_asks 57 = .ok (.iconst (-1), 1) := by decide +kernel
theorem dX10_asks_58 : decode cX10_asks 58 = .ok (.if_icmp .ne 7, 3) := by decide +kernel
theorem dX10_asks_61 : decode cX10_asks 61 = .ok (.iconst 0, 1) := by decide +kernel
theorem dX10_asks_62 : decode cX10_asks 62 = .ok (.goto 11, 3) := by decide +kernel
theorem dX10_asks_65 : decode cX10_asks 65 = .ok (.aload_n 0, 1) := by decide +kernel
theorem dX10_asks_66 : decode cX10_asks 66 = .ok (.getfield 113, 3) := by decide +kernel
theorem dX10_asks_69 : decode cX10_asks 69 = .ok (.iload_n 3, 1) := by decide +kernel
theorem dX10_asks_70 : decode cX10_asks 70 = .ok (.ishr, 1) := by decide +kernel
theorem dX10_asks_71 : decode cX10_asks 71 = .ok (.iconst 1, 1) := by decide +kernel
theorem dX10_asks_72 : decode cX10_asks 72 = .ok (.iand, 1) := by decide +kernel
theorem dX10_asks_73 : decode cX10_asks 73 = .ok (.putfield 223, 3) := by decide +kernel
theorem dX10_asks_76 : decode cX10_asks 76 = .ok (.aload_n 0, 1) := by decide +kernel
theorem dX10_asks_77 : decode cX10_asks 77 = .ok (.iload_n 3, 1) := by decide +kernel
theorem dX10_asks_78 : decode cX10_asks 78 = .ok (.iconst 1, 1) := by decide +kernel
theorem dX10_asks_79 : decode cX10_asks 79 = .ok (.if_icmp .ge 7, 3) := by decide +kernel
theorem dX10_asks_82 : decode cX10_asks 82 = .ok (.iconst 0, 1) := by decide +kernel
theorem dX10_asks_83 : decode cX10_asks 83 = .ok (.goto 11, 3) := by decide +kernel
theorem dX10_asks_86 : decode cX10_asks 86 = .ok (.aload_n 0, 1) := by decide +kernel
theorem dX10_asks_87 : decode cX10_asks 87 = .ok (.getfield 26, 3) := by decide +kernel
theorem dX10_asks_90 : decode cX10_asks 90 = .ok (.iload_n 3, 1) := by decide +kernel
theorem dX10_asks_91 : decode cX10_asks 91 = .ok (.iconst 1, 1) := by decide +kernel
theorem dX10_asks_92 : decode cX10_asks 92 = .ok (.isub, 1) := by decide +kernel
theorem dX10_asks_93 : decode cX10_asks 93 = .ok (.iaload, 1) := by decide +kernel
theorem dX10_asks_94 : decode cX10_asks 94 = .ok (.putfield 226, 3) := by decide +kernel
theorem dX10_asks_97 : decode cX10_asks 97 = .ok (.aload_n 0, 1) := by decide +kernel
theorem dX10_asks_98 : decode cX10_asks 98 = .ok (.aload_n 0, 1) := by decide +kernel
theorem dX10_asks_99 : decode cX10_asks 99 = .ok (.getfield 116, 3) := by decide +kernel
theorem dX10_asks_102 : decode cX10_asks 102 = .ok (.iload_n 1, 1) := by decide +kernel
theorem dX10_asks_103 : decode cX10_asks 103 = .ok (.invokevirtual 356, 3) := by decide +kernel
theorem dX10_asks_106 : decode cX10_asks 106 = .ok (.iload_n 1, 1) := by decide +kernel
theorem dX10_asks_107 : decode cX10_asks 107 = .ok (.ifCond .ne 8, 3) := by decide +kernel
theorem dX10_asks_110 : decode cX10_asks 110 = .ok (.bipush (-99), 2) := by decide +kernel
theorem dX10_asks_112 : decode cX10_asks 112 = .ok (.goto 4, 3) := by decide +kernel
theorem dX10_asks_115 : decode cX10_asks 115 = .ok (.iconst 0, 1) := by decide +kernel
theorem dX10_asks_116 : decode cX10_asks 116 = .ok (.bipush 99, 2) := by decide +kernel
theorem dX10_asks_118 : decode cX10_asks 118 = .ok (.invokestatic 359, 3) := by decide +kernel
theorem dX10_asks_121 : decode cX10_asks 121 = .ok (.ireturn, 1) := by decide +kernel
theorem dX10_thinksOf_0 : decode cX10_thinksOf 0 = .ok (.aload_n 0, 1) := by decide +kernel
theorem dX10_thinksOf_1 : decode cX10_thinksOf 1 = .ok (.getfield 29, 3) := by decide +kernel
theorem dX10_thinksOf_4 : decode cX10_thinksOf 4 = .ok (.iload_n 1, 1) := by decide +kernel
theorem dX10_thinksOf_5 : decode cX10_thinksOf 5 = .ok (.iaload, 1) := by decide +kernel
theorem dX10_thinksOf_6 : decode cX10_thinksOf 6 = .ok (.istore_n 3, 1) := by decide +kernel
theorem dX10_thinksOf_7 : decode cX10_thinksOf 7 = .ok (.aload_n 0, 1) := by decide +kernel
theorem dX10_thinksOf_8 : decode cX10_thinksOf 8 = .ok (.getfield 32, 3) := by decide +kernel
theorem dX10_thinksOf_11 : decode cX10_thinksOf 11 = .ok (.iconst 2, 1) := by decide +kernel
theorem dX10_thinksOf_12 : decode cX10_thinksOf 12 = .ok (.iload_n 1, 1) := by decide +kernel
theorem dX10_thinksOf_13 : decode cX10_thinksOf 13 = .ok (.imul, 1) := by decide +kernel
theorem dX10_thinksOf_14 : decode cX10_thinksOf 14 = .ok (.iaload, 1) := by decide +kernel
theorem dX10_thinksOf_15 : decode cX10_thinksOf 15 = .ok (.istore 4, 2) := by decide +kernel
theorem dX10_thinksOf_17 : decode cX10_thinksOf 17 = .ok (.iload_n 3, 1) := by decide +kernel
theorem dX10_thinksOf_18 : decode cX10_thinksOf 18 = .ok (.iconst 4, 1) := by decide +kernel
theorem dX10_thinksOf_19 : decode cX10_thinksOf 19 = .ok (.if_icmp .ne 12, 3) := by decide +kernel
theorem dX10_thinksOf_22 : decode cX10_thinksOf 22 = .ok (.iload_n 2, 1) := by decide +kernel
theorem dX10_thinksOf_23 : decode cX10_thinksOf 23 = .ok (.bipush 7, 2) := by decide +kernel
theorem dX10_thinksOf_25 : decode cX10_thinksOf 25 = .ok (.if_icmp .ne 6, 3) := by decide +kernel
theorem dX10_thinksOf_28 : decode cX10_thinksOf 28 = .ok (.bipush 9, 2) := by decide +kernel
theorem dX10_thinksOf_30 : decode cX10_thinksOf 30 = .ok (.ireturn, 1) := by decide +kernel
theorem dX10_thinksOf_31 : decode cX10_thinksOf 31 = .ok (.iload_n 3, 1) := by decide +kernel
theorem dX10_thinksOf_32 : decode cX10_thinksOf 32 = .ok (.iconst 2, 1) := by decide +kernel
theorem dX10_thinksOf_33 : decode cX10_thinksOf 33 = .ok (.if_icmp .eq 8, 3) := by decide +kernel
theorem dX10_thinksOf_36 : decode cX10_thinksOf 36 = .ok (.iload_n 3, 1) := by decide +kernel
theorem dX10_thinksOf_37 : decode cX10_thinksOf 37 = .ok (.iconst 4, 1) := by decide +kernel
theorem dX10_thinksOf_38 : decode cX10_thinksOf 38 = .ok (.if_icmp .ne 14, 3) := by decide +kernel
theorem dX10_thinksOf_41 : decode cX10_thinksOf 41 = .ok (.iload_n 2, 1) := by decide +kernel
theorem dX10_thinksOf_42 : decode cX10_thinksOf 42 = .ok (.iload 4, 2) := by decide +kernel
theorem dX10_thinksOf_44 : decode cX10_thinksOf 44 = .ok (.bipush 8, 2) := by decide +kernel
theorem dX10_thinksOf_46 : decode cX10_thinksOf 46 = .ok (.irem, 1) := by decide +kernel
theorem dX10_thinksOf_47 : decode cX10_thinksOf 47 = .ok (.if_icmp .eq 5, 3) := by decide +kernel
theorem dX10_thinksOf_50 : decode cX10_thinksOf 50 = .ok (.iconst 0, 1) := by decide +kernel
theorem dX10_thinksOf_51 : decode cX10_thinksOf 51 = .ok (.ireturn, 1) := by decide +kernel
theorem dX10_thinksOf_52 : decode cX10_thinksOf 52 = .ok (.aload_n 0, 1) := by decide +kernel
theorem dX10_thinksOf_53 : decode cX10_thinksOf 53 = .ok (.iconst 0, 1) := by decide +kernel
theorem dX10_thinksOf_54 : decode cX10_thinksOf 54 = .ok (.iload_n 1, 1) := by decide +kernel
theorem dX10_thinksOf_55 : decode cX10_thinksOf 55 = .ok (.iload_n 2, 1) := by decide +kernel
theorem dX10_thinksOf_56 : decode cX10_thinksOf 56 = .ok (.invokevirtual 363, 3) := by decide +kernel
theorem dX10_thinksOf_59 : decode cX10_thinksOf 59 = .ok (.istore 5, 2) := by decide +kernel
theorem dX10_thinksOf_61 : decode cX10_thinksOf 61 = .ok (.iload 5, 2) := by decide +kernel
theorem dX10_thinksOf_63 : decode cX10_thinksOf 63 = .ok (.ifCond .ge 7, 3) := by decide +kernel
theorem dX10_thinksOf_66 : decode cX10_thinksOf 66 = .ok (.iconst 0, 1) := by decide +kernel
theorem dX10_thinksOf_67 : decode cX10_thinksOf 67 = .ok (.goto 5, 3) := by decide +kernel
theorem dX10_thinksOf_70 : decode cX10_thinksOf 70 = .ok (.iload 5, 2) := by decide +kernel
theorem dX10_thinksOf_72 : decode cX10_thinksOf 72 = .ok (.istore 6, 2) := by decide +kernel
theorem dX10_thinksOf_74 : decode cX10_thinksOf 74 = .ok (.iload_n 3, 1) := by decide +kernel
theorem dX10_thinksOf_75 : decode cX10_thinksOf 75 = .ok (.iconst 1, 1) := by decide +kernel
theorem dX10_thinksOf_76 : decode cX10_thinksOf 76 = .ok (.if_icmp .ne 8, 3) := by decide +kernel
theorem dX10_thinksOf_79 : decode cX10_thinksOf 79 = .ok (.iload 6, 2) := by decide +kernel
theorem dX10_thinksOf_81 : decode cX10_thinksOf 81 = .ok (.goto 66, 3) := by decide +kernel
theorem dX10_thinksOf_84 : decode cX10_thinksOf 84 = .ok (.iload_n 3, 1) := by decide +kernel
theorem dX10_thinksOf_85 : decode cX10_thinksOf 85 = .ok (.iconst 3, 1) := by decide +kernel
theorem dX10_thinksOf_86 : decode cX10_thinksOf 86 = .ok (.if_icmp .ne 26, 3) := by decide +kernel
theorem dX10_thinksOf_89 : decode cX10_thinksOf 89 = .ok (.aload_n 0, 1) := by decide +kernel
theorem dX10_thinksOf_90 : decode cX10_thinksOf 90 = .ok (.getfield 23, 3) := by decide +kernel
theorem dX10_thinksOf_93 : decode cX10_thinksOf 93 = .ok (.iconst 0, 1) := by decide +kernel
theorem dX10_thinksOf_94 : decode cX10_thinksOf 94 = .ok (.iaload, 1) := by decide +kernel
theorem dX10_thinksOf_95 : decode cX10_thinksOf 95 = .ok (.iload 4, 2) := by decide +kernel
theorem dX10_thinksOf_97 : decode cX10_thinksOf 97 = .ok (.if_icmp .ge 10, 3) := by decide +kernel
theorem dX10_thinksOf_100 : decode cX10_thinksOf 100 = .ok (.iload 6, 2) := by decide +kernel
theorem dX10_thinksOf_102 : decode cX10_thinksOf 102 = .ok (.iconst 5, 1) := by decide +kernel
theorem dX10_thinksOf_103 : decode cX10_thinksOf 103 = .ok (.isub, 1) := by decide +kernel
theorem dX10_thinksOf_104 : decode cX10_thinksOf 104 = .ok (.goto 43, 3) := by decide +kernel
theorem dX10_thinksOf_107 : decode cX10_thinksOf 107 = .ok (.iload 6, 2) := by decide +kernel
theorem dX10_thinksOf_109 : decode cX10_thinksOf 109 = .ok (.goto 38, 3) := by decide +kernel
theorem dX10_thinksOf_112 : decode cX10_thinksOf 112 = .ok (.iload_n 3, 1) := by decide +kernel
theorem dX10_thinksOf_113 : decode cX10_thinksOf 113 = .ok (.iconst 2, 1) := by decide +kernel
theorem dX10_thinksOf_114 : decode cX10_thinksOf 114 = .ok (.if_icmp .eq 8, 3) := by decide +kernel
theorem dX10_thinksOf_117 : decode cX10_thinksOf 117 = .ok (.iload_n 3, 1) := by decide +kernel
theorem dX10_thinksOf_118 : decode cX10_thinksOf 118 = .ok (.iconst 4, 1) := by decide +kernel
theorem dX10_thinksOf_119 : decode cX10_thinksOf 119 = .ok (.if_icmp .ne 10, 3) := by decide +kernel
theorem dX10_thinksOf_122 : decode cX10_thinksOf 122 = .ok (.iconst 2, 1) := by decide +kernel
theorem dX10_thinksOf_123 : decode cX10_thinksOf 123 = .ok (.iload 5, 2) := by decide +kernel
theorem dX10_thinksOf_125 : decode cX10_thinksOf 125 = .ok (.imul, 1) := by decide +kernel
theorem dX10_thinksOf_126 : decode cX10_thinksOf 126 = .ok (.goto 21, 3) := by decide +kernel
theorem dX10_thinksOf_129 : decode cX10_thinksOf 129 = .ok (.iload_n 3, 1) := by decide +kernel
theorem dX10_thinksOf_130 : decode cX10_thinksOf 130 = .ok (.iconst 5, 1) := by decide +kernel
theorem dX10_thinksOf_131 : decode cX10_thinksOf 131 = .ok (.if_icmp .ne 14, 3) := by decide +kernel
theorem dX10_thinksOf_134 : decode cX10_thinksOf 134 = .ok (.iload 5, 2) := by decide +kernel
theorem dX10_thinksOf_136 : decode cX10_thinksOf 136 = .ok (.ifCond .ge 9, 3) := by decide +kernel
theorem dX10_thinksOf_139 : decode cX10_thinksOf 139 = .ok (.iload 5, 2) := by decide +kernel
theorem dX10_thinksOf_141 : decode cX10_thinksOf 141 = .ok (.ineg, 1) := by decide +kernel
theorem dX10_thinksOf_142 : decode cX10_thinksOf 142 = .ok (.goto 5, 3) := by decide +kernel
theorem dX10_thinksOf_145 : decode cX10_thinksOf 145 = .ok (.iload 5, 2) := by decide +kernel
theorem dX10_thinksOf_147 : decode cX10_thinksOf 147 = .ok (.bipush (-99), 2) := by decide +kernel
theorem dX10_thinksOf_149 : decode cX10_thinksOf 149 = .ok (.bipush 99, 2) := by decide +kernel
theorem dX10_thinksOf_151 : decode cX10_thinksOf 151 = .ok (.invokestatic 359, 3) := by decide +kernel
theorem dX10_thinksOf_154 : decode cX10_thinksOf 154 = .ok (.ireturn, 1) := by decide +kernel
theorem dX10_mendingOf_0 : decode cX10_mendingOf 0 = .ok (.aload_n 0, 1) := by decide +kernel
theorem dX10_mendingOf_1 : decode cX10_mendingOf 1 = .ok (.getfield 29, 3) := by decide +kernel
theorem dX10_mendingOf_4 : decode cX10_mendingOf 4 = .ok (.iload_n 1, 1) := by decide +kernel
theorem dX10_mendingOf_5 : decode cX10_mendingOf 5 = .ok (.iaload, 1) := by decide +kernel
theorem dX10_mendingOf_6 : decode cX10_mendingOf 6 = .ok (.istore_n 3, 1) := by decide +kernel
theorem dX10_mendingOf_7 : decode cX10_mendingOf 7 = .ok (.iload_n 3, 1) := by decide +kernel
theorem dX10_mendingOf_8 : decode cX10_mendingOf 8 = .ok (.iconst 2, 1) := by decide +kernel
theorem dX10_mendingOf_9 : decode cX10_mendingOf 9 = .ok (.if_icmp .eq 13, 3) := by decide +kernel
theorem dX10_mendingOf_12 : decode cX10_mendingOf 12 = .ok (.iload_n 3, 1) := by decide +kernel
theorem dX10_mendingOf_13 : decode cX10_mendingOf 13 = .ok (.iconst 4, 1) := by decide +kernel
theorem dX10_mendingOf_14 : decode cX10_mendingOf 14 = .ok (.if_icmp .eq 8, 3) := by decide +kernel
theorem dX10_mendingOf_17 : decode cX10_mendingOf 17 = .ok (.iload_n 3, 1) := by decide +kernel
theorem dX10_mendingOf_18 : decode cX10_mendingOf 18 = .ok (.iconst 5, 1) := by decide +kernel
theorem dX10_mendingOf_19 : decode cX10_mendingOf 19 = .ok (.if_icmp .ne 14, 3) := by decide +kernel
theorem dX10_mendingOf_22 : decode cX10_mendingOf 22 = .ok (.iload_n 3, 1) := by decide +kernel
theorem dX10_mendingOf_23 : decode cX10_mendingOf 23 = .ok (.iconst 5, 1) := by decide +kernel
theorem dX10_mendingOf_24 : decode cX10_mendingOf 24 = .ok (.if_icmp .ne 7, 3) := by decide +kernel
theorem dX10_mendingOf_27 : decode cX10_mendingOf 27 = .ok (.iconst 0, 1) := by decide +kernel
theorem dX10_mendingOf_28 : decode cX10_mendingOf 28 = .ok (.goto 4, 3) := by decide +kernel
theorem dX10_mendingOf_31 : decode cX10_mendingOf 31 = .ok (.iconst 1, 1) := by decide +kernel
theorem dX10_mendingOf_32 : decode cX10_mendingOf 32 = .ok (.ireturn, 1) := by decide +kernel
theorem dX10_mendingOf_33 : decode cX10_mendingOf 33 = .ok (.aload_n 0, 1) := by decide +kernel
theorem dX10_mendingOf_34 : decode cX10_mendingOf 34 = .ok (.iconst 1, 1) := by decide +kernel
theorem dX10_mendingOf_35 : decode cX10_mendingOf 35 = .ok (.iload_n 1, 1) := by decide +kernel
theorem dX10_mendingOf_36 : decode cX10_mendingOf 36 = .ok (.iload_n 2, 1) := by decide +kernel
theorem dX10_mendingOf_37 : decode cX10_mendingOf 37 = .ok (.invokevirtual 363, 3) := by decide +kernel
theorem dX10_mendingOf_40 : decode cX10_mendingOf 40 = .ok (.istore 4, 2) := by decide +kernel
theorem dX10_mendingOf_42 : decode cX10_mendingOf 42 = .ok (.iload_n 3, 1) := by decide +kernel
theorem dX10_mendingOf_43 : decode cX10_mendingOf 43 = .ok (.iconst 1, 1) := by decide +kernel
theorem dX10_mendingOf_44 : decode cX10_mendingOf 44 = .ok (.if_icmp .ne 10, 3) := by decide +kernel
theorem dX10_mendingOf_47 : decode cX10_mendingOf 47 = .ok (.iload 4, 2) := by decide +kernel
theorem dX10_mendingOf_49 : decode cX10_mendingOf 49 = .ok (.iconst 2, 1) := by decide +kernel
theorem dX10_mendingOf_50 : decode cX10_mendingOf 50 = .ok (.idiv, 1) := by decide +kernel
theorem dX10_mendingOf_51 : decode cX10_mendingOf 51 = .ok (.goto 26, 3) := by decide +kernel
theorem dX10_mendingOf_54 : decode cX10_mendingOf 54 = .ok (.iload_n 3, 1) := by decide +kernel
theorem dX10_mendingOf_55 : decode cX10_mendingOf 55 = .ok (.iconst 3, 1) := by decide +kernel
theorem dX10_mendingOf_56 : decode cX10_mendingOf 56 = .ok (.if_icmp .ne 19, 3) := by decide +kernel
theorem dX10_mendingOf_59 : decode cX10_mendingOf 59 = .ok (.iload 4, 2) := by decide +kernel
theorem dX10_mendingOf_61 : decode cX10_mendingOf 61 = .ok (.iconst 2, 1) := by decide +kernel
theorem dX10_mendingOf_62 : decode cX10_mendingOf 62 = .ok (.idiv, 1) := by decide +kernel
theorem dX10_mendingOf_63 : decode cX10_mendingOf 63 = .ok (.aload_n 0, 1) := by decide +kernel
theorem dX10_mendingOf_64 : decode cX10_mendingOf 64 = .ok (.getfield 32, 3) := by decide +kernel
theorem dX10_mendingOf_67 : decode cX10_mendingOf 67 = .ok (.iconst 2, 1) := by decide +kernel
theorem dX10_mendingOf_68 : decode cX10_mendingOf 68 = .ok (.iload_n 1, 1) := by decide +kernel
theorem dX10_mendingOf_69 : decode cX10_mendingOf 69 = .ok (.imul, 1) := by decide +kernel
theorem dX10_mendingOf_70 : decode cX10_mendingOf 70 = .ok (.iaload, 1) := by decide +kernel
theorem dX10_mendingOf_71 : decode cX10_mendingOf 71 = .ok (.iadd, 1) := by decide +kernel
theorem dX10_mendingOf_72 : decode cX10_mendingOf 72 = .ok (.goto 5, 3) := by decide +kernel
theorem dX10_mendingOf_75 : decode cX10_mendingOf 75 = .ok (.iload 4, 2) := by decide +kernel
theorem dX10_mendingOf_77 : decode cX10_mendingOf 77 = .ok (.iconst 0, 1) := by decide +kernel
theorem dX10_mendingOf_78 : decode cX10_mendingOf 78 = .ok (.bipush 99, 2) := by decide +kernel
theorem dX10_mendingOf_80 : decode cX10_mendingOf 80 = .ok (.invokestatic 359, 3) := by decide +kernel
theorem dX10_mendingOf_83 : decode cX10_mendingOf 83 = .ok (.ireturn, 1) := by decide +kernel
theorem dX10_memoryOf_0 : decode cX10_memoryOf 0 = .ok (.iconst 0, 1) := by decide +kernel
theorem dX10_memoryOf_1 : decode cX10_memoryOf 1 = .ok (.istore_n 2, 1) := by decide +kernel
theorem dX10_memoryOf_2 : decode cX10_memoryOf 2 = .ok (.iconst 0, 1) := by decide +kernel
theorem dX10_memoryOf_3 : decode cX10_memoryOf 3 = .ok (.istore_n 3, 1) := by decide +kernel
theorem dX10_memoryOf_4 : decode cX10_memoryOf 4 = .ok (.iload_n 3, 1) := by decide +kernel
theorem dX10_memoryOf_5 : decode cX10_memoryOf 5 = .ok (.bipush 8, 2) := by decide +kernel
theorem dX10_memoryOf_7 : decode cX10_memoryOf 7 = .ok (.if_icmp .ge 18, 3) := by decide +kernel
theorem dX10_memoryOf_10 : decode cX10_memoryOf 10 = .ok (.iload_n 2, 1) := by decide +kernel
theorem dX10_memoryOf_11 : decode cX10_memoryOf 11 = .ok (.aload_n 0, 1) := by decide +kernel
theorem dX10_memoryOf_12 : decode cX10_memoryOf 12 = .ok (.iload_n 1, 1) := by decide +kernel
theorem dX10_memoryOf_13 : decode cX10_memoryOf 13 = .ok (.iload_n 3, 1) := by decide +kernel
theorem dX10_memoryOf_14 : decode cX10_memoryOf 14 = .ok (.invokevirtual 133, 3) := by decide +kernel
theorem dX10_memoryOf_17 : decode cX10_memoryOf 17 = .ok (.iadd, 1) := by decide +kernel
theorem dX10_memoryOf_18 : decode cX10_memoryOf 18 = .ok (.istore_n 2, 1) := by decide +kernel
theorem dX10_memoryOf_19 : decode cX10_memoryOf 19 = .ok (.iinc 3 1, 3) := by decide +kernel
theorem dX10_memoryOf_22 : decode cX10_memoryOf 22 = .ok (.goto (-18), 3) := by decide +kernel
theorem dX10_memoryOf_25 : decode cX10_memoryOf 25 = .ok (.iload_n 2, 1) := by decide +kernel
theorem dX10_memoryOf_26 : decode cX10_memoryOf 26 = .ok (.ireturn, 1) := by decide +kernel
theorem dX10_isHazy_0 : decode cX10_isHazy 0 = .ok (.aload_n 0, 1) := by decide +kernel
theorem dX10_isHazy_1 : decode cX10_isHazy 1 = .ok (.iload_n 1, 1) := by decide +kernel
theorem dX10_isHazy_2 : decode cX10_isHazy 2 = .ok (.invokevirtual 139, 3) := by decide +kernel
theorem dX10_isHazy_5 : decode cX10_isHazy 5 = .ok (.aload_n 0, 1) := by decide +kernel
theorem dX10_isHazy_6 : decode cX10_isHazy 6 = .ok (.getfield 23, 3) := by decide +kernel
theorem dX10_isHazy_9 : decode cX10_isHazy 9 = .ok (.iconst 1, 1) := by decide +kernel
theorem dX10_isHazy_10 : decode cX10_isHazy 10 = .ok (.iaload, 1) := by decide +kernel
theorem dX10_isHazy_11 : decode cX10_isHazy 11 = .ok (.if_icmp .lt 7, 3) := by decide +kernel
theorem dX10_isHazy_14 : decode cX10_isHazy 14 = .ok (.iconst 1, 1) := by decide +kernel
theorem dX10_isHazy_15 : decode cX10_isHazy 15 = .ok (.goto 4, 3) := by decide +kernel
theorem dX10_isHazy_18 : decode cX10_isHazy 18 = .ok (.iconst 0, 1) := by decide +kernel
theorem dX10_isHazy_19 : decode cX10_isHazy 19 = .ok (.ireturn, 1) := by decide +kernel
theorem dX10_claimsOf_0 : decode cX10_claimsOf 0 = .ok (.aload_n 0, 1) := by decide +kernel
theorem dX10_claimsOf_1 : decode cX10_claimsOf 1 = .ok (.getfield 29, 3) := by decide +kernel
theorem dX10_claimsOf_4 : decode cX10_claimsOf 4 = .ok (.iload_n 1, 1) := by decide +kernel
theorem dX10_claimsOf_5 : decode cX10_claimsOf 5 = .ok (.iaload, 1) := by decide +kernel
theorem dX10_claimsOf_6 : decode cX10_claimsOf 6 = .ok (.istore_n 2, 1) := by decide +kernel
theorem dX10_claimsOf_7 : decode cX10_claimsOf 7 = .ok (.aload_n 0, 1) := by decide +kernel
theorem dX10_claimsOf_8 : decode cX10_claimsOf 8 = .ok (.iload_n 1, 1) := by decide +kernel
theorem dX10_claimsOf_9 : decode cX10_claimsOf 9 = .ok (.invokevirtual 142, 3) := by decide +kernel
theorem dX10_claimsOf_12 : decode cX10_claimsOf 12 = .ok (.ifCond .ne 13, 3) := by decide +kernel
theorem dX10_claimsOf_15 : decode cX10_claimsOf 15 = .ok (.iload_n 2, 1) := by decide +kernel
theorem dX10_claimsOf_16 : decode cX10_claimsOf 16 = .ok (.iconst 2, 1) := by decide +kernel
theorem dX10_claimsOf_17 : decode cX10_claimsOf 17 = .ok (.if_icmp .eq 8, 3) := by decide +kernel
theorem dX10_claimsOf_20 : decode cX10_claimsOf 20 = .ok (.iload_n 2, 1) := by decide +kernel
theorem dX10_claimsOf_21 : decode cX10_claimsOf 21 = .ok (.iconst 4, 1) := by decide +kernel
theorem dX10_claimsOf_22 : decode cX10_claimsOf 22 = .ok (.if_icmp .ne 5, 3) := by decide +kernel
theorem dX10_claimsOf_25 : decode cX10_claimsOf 25 = .ok (.iconst 0, 1) := by decide +kernel
theorem dX10_claimsOf_26 : decode cX10_claimsOf 26 = .ok (.ireturn, 1) := by decide +kernel
theorem dX10_claimsOf_27 : decode cX10_claimsOf 27 = .ok (.iload_n 2, 1) := by decide +kernel
theorem dX10_claimsOf_28 : decode cX10_claimsOf 28 = .ok (.iconst 5, 1) := by decide +kernel
theorem dX10_claimsOf_29 : decode cX10_claimsOf 29 = .ok (.if_icmp .ne 13, 3) := by decide +kernel
theorem dX10_claimsOf_32 : decode cX10_claimsOf 32 = .ok (.aload_n 0, 1) := by decide +kernel
theorem dX10_claimsOf_33 : decode cX10_claimsOf 33 = .ok (.getfield 32, 3) := by decide +kernel
theorem dX10_claimsOf_36 : decode cX10_claimsOf 36 = .ok (.iconst 2, 1) := by decide +kernel
theorem dX10_claimsOf_37 : decode cX10_claimsOf 37 = .ok (.iload_n 1, 1) := by decide +kernel
theorem dX10_claimsOf_38 : decode cX10_claimsOf 38 = .ok (.imul, 1) := by decide +kernel
theorem dX10_claimsOf_39 : decode cX10_claimsOf 39 = .ok (.iaload, 1) := by decide +kernel
theorem dX10_claimsOf_40 : decode cX10_claimsOf 40 = .ok (.ineg, 1) := by decide +kernel
theorem dX10_claimsOf_41 : decode cX10_claimsOf 41 = .ok (.ireturn, 1) := by decide +kernel
theorem dX10_claimsOf_42 : decode cX10_claimsOf 42 = .ok (.aload_n 0, 1) := by decide +kernel
theorem dX10_claimsOf_43 : decode cX10_claimsOf 43 = .ok (.iconst 2, 1) := by decide +kernel
theorem dX10_claimsOf_44 : decode cX10_claimsOf 44 = .ok (.iload_n 1, 1) := by decide +kernel
theorem dX10_claimsOf_45 : decode cX10_claimsOf 45 = .ok (.iconst (-1), 1) := by decide +kernel
theorem dX10_claimsOf_46 : decode cX10_claimsOf 46 = .ok (.invokevirtual 363, 3) := by decide +kernel
theorem dX10_claimsOf_49 : decode cX10_claimsOf 49 = .ok (.istore_n 3, 1) := by decide +kernel
theorem dX10_claimsOf_50 : decode cX10_claimsOf 50 = .ok (.iload_n 2, 1) := by decide +kernel
theorem dX10_claimsOf_51 : decode cX10_claimsOf 51 = .ok (.iconst 3, 1) := by decide +kernel
theorem dX10_claimsOf_52 : decode cX10_claimsOf 52 = .ok (.if_icmp .ne 9, 3) := by decide +kernel
theorem dX10_claimsOf_55 : decode cX10_claimsOf 55 = .ok (.iconst 2, 1) := by decide +kernel
theorem dX10_claimsOf_56 : decode cX10_claimsOf 56 = .ok (.iload_n 3, 1) := by decide +kernel
theorem dX10_claimsOf_57 : decode cX10_claimsOf 57 = .ok (.imul, 1) := by decide +kernel
theorem dX10_claimsOf_58 : decode cX10_claimsOf 58 = .ok (.goto 4, 3) := by decide +kernel
theorem dX10_claimsOf_61 : decode cX10_claimsOf 61 = .ok (.iload_n 3, 1) := by decide +kernel
theorem dX10_claimsOf_62 : decode cX10_claimsOf 62 = .ok (.bipush (-99), 2) := by decide +kernel
theorem dX10_claimsOf_64 : decode cX10_claimsOf 64 = .ok (.sipush 999, 3) := by decide +kernel
theorem dX10_claimsOf_67 : decode cX10_claimsOf 67 = .ok (.invokestatic 359, 3) := by decide +kernel
theorem dX10_claimsOf_70 : decode cX10_claimsOf 70 = .ok (.ireturn, 1) := by decide +kernel
theorem dX10_costOf_0 : decode cX10_costOf 0 = .ok (.iconst 0, 1) := by decide +kernel
theorem dX10_costOf_1 : decode cX10_costOf 1 = .ok (.istore_n 2, 1) := by decide +kernel
theorem dX10_costOf_2 : decode cX10_costOf 2 = .ok (.iconst 0, 1) := by decide +kernel
theorem dX10_costOf_3 : decode cX10_costOf 3 = .ok (.istore_n 3, 1) := by decide +kernel
theorem dX10_costOf_4 : decode cX10_costOf 4 = .ok (.iload_n 3, 1) := by decide +kernel
theorem dX10_costOf_5 : decode cX10_costOf 5 = .ok (.aload_n 0, 1) := by decide +kernel
theorem dX10_costOf_6 : decode cX10_costOf 6 = .ok (.getfield 73, 3) := by decide +kernel
theorem dX10_costOf_9 : decode cX10_costOf 9 = .ok (.if_icmp .ge 18, 3) := by decide +kernel
theorem dX10_costOf_12 : decode cX10_costOf 12 = .ok (.iload_n 2, 1) := by decide +kernel
theorem dX10_costOf_13 : decode cX10_costOf 13 = .ok (.aload_n 0, 1) := by decide +kernel
theorem dX10_costOf_14 : decode cX10_costOf 14 = .ok (.iload_n 3, 1) := by decide +kernel
theorem dX10_costOf_15 : decode cX10_costOf 15 = .ok (.iload_n 1, 1) := by decide +kernel
theorem dX10_costOf_16 : decode cX10_costOf 16 = .ok (.invokevirtual 136, 3) := by decide +kernel
theorem dX10_costOf_19 : decode cX10_costOf 19 = .ok (.iadd, 1) := by decide +kernel
theorem dX10_costOf_20 : decode cX10_costOf 20 = .ok (.istore_n 2, 1) := by decide +kernel
theorem dX10_costOf_21 : decode cX10_costOf 21 = .ok (.iinc 3 1, 3) := by decide +kernel
theorem dX10_costOf_24 : decode cX10_costOf 24 = .ok (.goto (-20), 3) := by decide +kernel
theorem dX10_costOf_27 : decode cX10_costOf 27 = .ok (.iload_n 2, 1) := by decide +kernel
theorem dX10_costOf_28 : decode cX10_costOf 28 = .ok (.ireturn, 1) := by decide +kernel
theorem dX10_dueAll_0 : decode cX10_dueAll 0 = .ok (.iconst 0, 1) := by decide +kernel
theorem dX10_dueAll_1 : decode cX10_dueAll 1 = .ok (.istore_n 1, 1) := by decide +kernel
theorem dX10_dueAll_2 : decode cX10_dueAll 2 = .ok (.iconst 0, 1) := by decide +kernel
theorem dX10_dueAll_3 : decode cX10_dueAll 3 = .ok (.istore_n 2, 1) := by decide +kernel
theorem dX10_dueAll_4 : decode cX10_dueAll 4 = .ok (.iload_n 2, 1) := by decide +kernel
theorem dX10_dueAll_5 : decode cX10_dueAll 5 = .ok (.aload_n 0, 1) := by decide +kernel
theorem dX10_dueAll_6 : decode cX10_dueAll 6 = .ok (.getfield 73, 3) := by decide +kernel
theorem dX10_dueAll_9 : decode cX10_dueAll 9 = .ok (.if_icmp .ge 17, 3) := by decide +kernel
theorem dX10_dueAll_12 : decode cX10_dueAll 12 = .ok (.iload_n 1, 1) := by decide +kernel
theorem dX10_dueAll_13 : decode cX10_dueAll 13 = .ok (.aload_n 0, 1) := by decide +kernel
theorem dX10_dueAll_14 : decode cX10_dueAll 14 = .ok (.iload_n 2, 1) := by decide +kernel
theorem dX10_dueAll_15 : decode cX10_dueAll 15 = .ok (.invokevirtual 145, 3) := by decide +kernel
theorem dX10_dueAll_18 : decode cX10_dueAll 18 = .ok (.iadd, 1) := by decide +kernel
theorem dX10_dueAll_19 : decode cX10_dueAll 19 = .ok (.istore_n 1, 1) := by decide +kernel
theorem dX10_dueAll_20 : decode cX10_dueAll 20 = .ok (.iinc 2 1, 3) := by decide +kernel
theorem dX10_dueAll_23 : decode cX10_dueAll 23 = .ok (.goto (-19), 3) := by decide +kernel
theorem dX10_dueAll_26 : decode cX10_dueAll 26 = .ok (.iload_n 1, 1) := by decide +kernel
theorem dX10_dueAll_27 : decode cX10_dueAll 27 = .ok (.ireturn, 1) := by decide +kernel
theorem dX10_paysAll_0 : decode cX10_paysAll 0 = .ok (.iconst 0, 1) := by decide +kernel
theorem dX10_paysAll_1 : decode cX10_paysAll 1 = .ok (.istore_n 1, 1) := by decide +kernel
theorem dX10_paysAll_2 : decode cX10_paysAll 2 = .ok (.iconst 0, 1) := by decide +kernel
theorem dX10_paysAll_3 : decode cX10_paysAll 3 = .ok (.istore_n 2, 1) := by decide +kernel
theorem dX10_paysAll_4 : decode cX10_paysAll 4 = .ok (.iload_n 2, 1) := by decide +kernel
theorem dX10_paysAll_5 : decode cX10_paysAll 5 = .ok (.aload_n 0, 1) := by decide +kernel
theorem dX10_paysAll_6 : decode cX10_paysAll 6 = .ok (.getfield 73, 3) := by decide +kernel
theorem dX10_paysAll_9 : decode cX10_paysAll 9 = .ok (.if_icmp .ge 22, 3) := by decide +kernel
theorem dX10_paysAll_12 : decode cX10_paysAll 12 = .ok (.iload_n 1, 1) := by decide +kernel
theorem dX10_paysAll_13 : decode cX10_paysAll 13 = .ok (.aload_n 0, 1) := by decide +kernel
theorem dX10_paysAll_14 : decode cX10_paysAll 14 = .ok (.getfield 32, 3) := by decide +kernel
theorem dX10_paysAll_17 : decode cX10_paysAll 17 = .ok (.iconst 2, 1) := by decide +kernel
theorem dX10_paysAll_18 : decode cX10_paysAll 18 = .ok (.iload_n 2, 1) := by decide +kernel
theorem dX10_paysAll_19 : decode cX10_paysAll 19 = .ok (.imul, 1) := by decide +kernel
theorem dX10_paysAll_20 : decode cX10_paysAll 20 = .ok (.iconst 1, 1) := by decide +kernel
theorem dX10_paysAll_21 : decode cX10_paysAll 21 = .ok (.iadd, 1) := by decide +kernel
theorem dX10_paysAll_22 : decode cX10_paysAll 22 = .ok (.iaload, 1) := by decide +kernel
theorem dX10_paysAll_23 : decode cX10_paysAll 23 = .ok (.iadd, 1) := by decide +kernel
theorem dX10_paysAll_24 : decode cX10_paysAll 24 = .ok (.istore_n 1, 1) := by decide +kernel
theorem dX10_paysAll_25 : decode cX10_paysAll 25 = .ok (.iinc 2 1, 3) := by decide +kernel
theorem dX10_paysAll_28 : decode cX10_paysAll 28 = .ok (.goto (-24), 3) := by decide +kernel
theorem dX10_paysAll_31 : decode cX10_paysAll 31 = .ok (.iload_n 1, 1) := by decide +kernel
theorem dX10_paysAll_32 : decode cX10_paysAll 32 = .ok (.ireturn, 1) := by decide +kernel
theorem dX10_hazyMany_0 : decode cX10_hazyMany 0 = .ok (.iconst 0, 1) := by decide +kernel
theorem dX10_hazyMany_1 : decode cX10_hazyMany 1 = .ok (.istore_n 1, 1) := by decide +kernel
theorem dX10_hazyMany_2 : decode cX10_hazyMany 2 = .ok (.iconst 0, 1) := by decide +kernel
theorem dX10_hazyMany_3 : decode cX10_hazyMany 3 = .ok (.istore_n 2, 1) := by decide +kernel
theorem dX10_hazyMany_4 : decode cX10_hazyMany 4 = .ok (.iload_n 2, 1) := by decide +kernel
theorem dX10_hazyMany_5 : decode cX10_hazyMany 5 = .ok (.aload_n 0, 1) := by decide +kernel
theorem dX10_hazyMany_6 : decode cX10_hazyMany 6 = .ok (.getfield 73, 3) := by decide +kernel
theorem dX10_hazyMany_9 : decode cX10_hazyMany 9 = .ok (.if_icmp .ge 25, 3) := by decide +kernel
theorem dX10_hazyMany_12 : decode cX10_hazyMany 12 = .ok (.iload_n 1, 1) := by decide +kernel
theorem dX10_hazyMany_13 : decode cX10_hazyMany 13 = .ok (.aload_n 0, 1) := by decide +kernel
theorem dX10_hazyMany_14 : decode cX10_hazyMany 14 = .ok (.iload_n 2, 1) := by decide +kernel
theorem dX10_hazyMany_15 : decode cX10_hazyMany 15 = .ok (.invokevirtual 142, 3) := by decide +kernel
theorem dX10_hazyMany_18 : decode cX10_hazyMany 18 = .ok (.ifCond .eq 7, 3) := by decide +kernel
theorem dX10_hazyMany_21 : decode cX10_hazyMany 21 = .ok (.iconst 1, 1) := by decide +kernel
theorem dX10_hazyMany_22 : decode cX10_hazyMany 22 = .ok (.goto 4, 3) := by decide +kernel
theorem dX10_hazyMany_25 : decode cX10_hazyMany 25 = .ok (.iconst 0, 1) := by decide +kernel
theorem dX10_hazyMany_26 : decode cX10_hazyMany 26 = .ok (.iadd, 1) := by decide +kernel
theorem dX10_hazyMany_27 : decode cX10_hazyMany 27 = .ok (.istore_n 1, 1) := by decide +kernel
theorem dX10_hazyMany_28 : decode cX10_hazyMany 28 = .ok (.iinc 2 1, 3) := by decide +kernel
theorem dX10_hazyMany_31 : decode cX10_hazyMany 31 = .ok (.goto (-27), 3) := by decide +kernel
theorem dX10_hazyMany_34 : decode cX10_hazyMany 34 = .ok (.iload_n 1, 1) := by decide +kernel
theorem dX10_hazyMany_35 : decode cX10_hazyMany 35 = .ok (.ireturn, 1) := by decide +kernel
theorem dX10_passes_0 : decode cX10_passes 0 = .ok (.aload_n 0, 1) := by decide +kernel
theorem dX10_passes_1 : decode cX10_passes 1 = .ok (.invokevirtual 366, 3) := by decide +kernel
theorem dX10_passes_4 : decode cX10_passes 4 = .ok (.istore_n 2, 1) := by decide +kernel
theorem dX10_passes_5 : decode cX10_passes 5 = .ok (.aload_n 0, 1) := by decide +kernel
theorem dX10_passes_6 : decode cX10_passes 6 = .ok (.getfield 23, 3) := by decide +kernel
theorem dX10_passes_9 : decode cX10_passes 9 = .ok (.iconst 2, 1) := by decide +kernel
theorem dX10_passes_10 : decode cX10_passes 10 = .ok (.aload_n 0, 1) := by decide +kernel
theorem dX10_passes_11 : decode cX10_passes 11 = .ok (.getfield 23, 3) := by decide +kernel
theorem dX10_passes_14 : decode cX10_passes 14 = .ok (.iconst 2, 1) := by decide +kernel
theorem dX10_passes_15 : decode cX10_passes 15 = .ok (.iaload, 1) := by decide +kernel
theorem dX10_passes_16 : decode cX10_passes 16 = .ok (.iload_n 1, 1) := by decide +kernel
theorem dX10_passes_17 : decode cX10_passes 17 = .ok (.iadd, 1) := by decide +kernel
theorem dX10_passes_18 : decode cX10_passes 18 = .ok (.ldc 89, 2) := by decide +kernel
theorem dX10_passes_20 : decode cX10_passes 20 = .ok (.ldc 90, 2) := by decide +kernel
theorem dX10_passes_22 : decode cX10_passes 22 = .ok (.invokestatic 359, 3) := by decide +kernel
theorem dX10_passes_25 : decode cX10_passes 25 = .ok (.iastore, 1) := by decide +kernel
theorem dX10_passes_26 : decode cX10_passes 26 = .ok (.aload_n 0, 1) := by decide +kernel
theorem dX10_passes_27 : decode cX10_passes 27 = .ok (.getfield 23, 3) := by decide +kernel
theorem dX10_passes_30 : decode cX10_passes 30 = .ok (.iconst 2, 1) := by decide +kernel
theorem dX10_passes_31 : decode cX10_passes 31 = .ok (.aload_n 0, 1) := by decide +kernel
theorem dX10_passes_32 : decode cX10_passes 32 = .ok (.getfield 23, 3) := by decide +kernel
theorem dX10_passes_35 : decode cX10_passes 35 = .ok (.iconst 2, 1) := by decide +kernel
theorem dX10_passes_36 : decode cX10_passes 36 = .ok (.iaload, 1) := by decide +kernel
theorem dX10_passes_37 : decode cX10_passes 37 = .ok (.iload_n 2, 1) := by decide +kernel
theorem dX10_passes_38 : decode cX10_passes 38 = .ok (.isub, 1) := by decide +kernel
theorem dX10_passes_39 : decode cX10_passes 39 = .ok (.ldc 89, 2) := by decide +kernel
theorem dX10_passes_41 : decode cX10_passes 41 = .ok (.ldc 90, 2) := by decide +kernel
theorem dX10_passes_43 : decode cX10_passes 43 = .ok (.invokestatic 359, 3) := by decide +kernel
theorem dX10_passes_46 : decode cX10_passes 46 = .ok (.iastore, 1) := by decide +kernel
theorem dX10_passes_47 : decode cX10_passes 47 = .ok (.aload_n 0, 1) := by decide +kernel
theorem dX10_passes_48 : decode cX10_passes 48 = .ok (.getfield 23, 3) := by decide +kernel
theorem dX10_passes_51 : decode cX10_passes 51 = .ok (.iconst 0, 1) := by decide +kernel
theorem dX10_passes_52 : decode cX10_passes 52 = .ok (.dup2, 1) := by decide +kernel
theorem dX10_passes_53 : decode cX10_passes 53 = .ok (.iaload, 1) := by decide +kernel
theorem dX10_passes_54 : decode cX10_passes 54 = .ok (.iconst 1, 1) := by decide +kernel
theorem dX10_passes_55 : decode cX10_passes 55 = .ok (.iadd, 1) := by decide +kernel
theorem dX10_passes_56 : decode cX10_passes 56 = .ok (.iastore, 1) := by decide +kernel
theorem dX10_passes_57 : decode cX10_passes 57 = .ok (.return_, 1) := by decide +kernel
theorem dX10_year_0 : decode cX10_year 0 = .ok (.aload_n 0, 1) := by decide +kernel
theorem dX10_year_1 : decode cX10_year 1 = .ok (.getfield 23, 3) := by decide +kernel
theorem dX10_year_4 : decode cX10_year 4 = .ok (.iconst 0, 1) := by decide +kernel
theorem dX10_year_5 : decode cX10_year 5 = .ok (.iaload, 1) := by decide +kernel
theorem dX10_year_6 : decode cX10_year 6 = .ok (.bipush 99, 2) := by decide +kernel
theorem dX10_year_8 : decode cX10_year 8 = .ok (.if_icmp .ne 6, 3) := by decide +kernel
theorem dX10_year_11 : decode cX10_year 11 = .ok (.ldc 104, 2) := by decide +kernel
theorem dX10_year_13 : decode cX10_year 13 = .ok (.ireturn, 1) := by decide +kernel
theorem dX10_year_14 : decode cX10_year 14 = .ok (.aload_n 0, 1) := by decide +kernel
theorem dX10_year_15 : decode cX10_year 15 = .ok (.aload_n 0, 1) := by decide +kernel
theorem dX10_year_16 : decode cX10_year 16 = .ok (.invokevirtual 369, 3) := by decide +kernel
theorem dX10_year_19 : decode cX10_year 19 = .ok (.invokevirtual 372, 3) := by decide +kernel
theorem dX10_year_22 : decode cX10_year 22 = .ok (.aload_n 0, 1) := by decide +kernel
theorem dX10_year_23 : decode cX10_year 23 = .ok (.getfield 23, 3) := by decide +kernel
theorem dX10_year_26 : decode cX10_year 26 = .ok (.iconst 2, 1) := by decide +kernel
theorem dX10_year_27 : decode cX10_year 27 = .ok (.iaload, 1) := by decide +kernel
theorem dX10_year_28 : decode cX10_year 28 = .ok (.ireturn, 1) := by decide +kernel
theorem dX10_right_0 : decode cX10_right 0 = .ok (.iload_n 1, 1) := by decide +kernel
theorem dX10_right_1 : decode cX10_right 1 = .ok (.invokestatic 82, 3) := by decide +kernel
theorem dX10_right_4 : decode cX10_right 4 = .ok (.ifCond .ne 6, 3) := by decide +kernel
theorem dX10_right_7 : decode cX10_right 7 = .ok (.bipush (-2), 2) := by decide +kernel
theorem dX10_right_9 : decode cX10_right 9 = .ok (.ireturn, 1) := by decide +kernel
theorem dX10_right_10 : decode cX10_right 10 = .ok (.aload_n 0, 1) := by decide +kernel
theorem dX10_right_11 : decode cX10_right 11 = .ok (.getfield 113, 3) := by decide +kernel
theorem dX10_right_14 : decode cX10_right 14 = .ok (.iload_n 1, 1) := by decide +kernel
theorem dX10_right_15 : decode cX10_right 15 = .ok (.ishr, 1) := by decide +kernel
theorem dX10_right_16 : decode cX10_right 16 = .ok (.iconst 1, 1) := by decide +kernel
theorem dX10_right_17 : decode cX10_right 17 = .ok (.iand, 1) := by decide +kernel
theorem dX10_right_18 : decode cX10_right 18 = .ok (.iconst 1, 1) := by decide +kernel
theorem dX10_right_19 : decode cX10_right 19 = .ok (.if_icmp .ne 6, 3) := by decide +kernel
theorem dX10_right_22 : decode cX10_right 22 = .ok (.bipush (-3), 2) := by decide +kernel
theorem dX10_right_24 : decode cX10_right 24 = .ok (.ireturn, 1) := by decide +kernel
theorem dX10_right_25 : decode cX10_right 25 = .ok (.aload_n 0, 1) := by decide +kernel
theorem dX10_right_26 : decode cX10_right 26 = .ok (.iload_n 1, 1) := by decide +kernel
theorem dX10_right_27 : decode cX10_right 27 = .ok (.invokevirtual 148, 3) := by decide +kernel
theorem dX10_right_30 : decode cX10_right 30 = .ok (.istore_n 2, 1) := by decide +kernel
theorem dX10_right_31 : decode cX10_right 31 = .ok (.aload_n 0, 1) := by decide +kernel
theorem dX10_right_32 : decode cX10_right 32 = .ok (.getfield 23, 3) := by decide +kernel
theorem dX10_right_35 : decode cX10_right 35 = .ok (.iconst 2, 1) := by decide +kernel
theorem dX10_right_36 : decode cX10_right 36 = .ok (.aload_n 0, 1) := by decide +kernel
theorem dX10_right_37 : decode cX10_right 37 = .ok (.getfield 23, 3) := by decide +kernel
theorem dX10_right_40 : decode cX10_right 40 = .ok (.iconst 2, 1) := by decide +kernel
theorem dX10_right_41 : decode cX10_right 41 = .ok (.iaload, 1) := by decide +kernel
theorem dX10_right_42 : decode cX10_right 42 = .ok (.iload_n 2, 1) := by decide +kernel
theorem dX10_right_43 : decode cX10_right 43 = .ok (.isub, 1) := by decide +kernel
theorem dX10_right_44 : decode cX10_right 44 = .ok (.ldc 89, 2) := by decide +kernel
theorem dX10_right_46 : decode cX10_right 46 = .ok (.ldc 90, 2) := by decide +kernel
theorem dX10_right_48 : decode cX10_right 48 = .ok (.invokestatic 359, 3) := by decide +kernel
theorem dX10_right_51 : decode cX10_right 51 = .ok (.iastore, 1) := by decide +kernel
theorem dX10_right_52 : decode cX10_right 52 = .ok (.aload_n 0, 1) := by decide +kernel
theorem dX10_right_53 : decode cX10_right 53 = .ok (.dup, 1) := by decide +kernel
theorem dX10_right_54 : decode cX10_right 54 = .ok (.getfield 113, 3) := by decide +kernel
theorem dX10_right_57 : decode cX10_right 57 = .ok (.iconst 1, 1) := by decide +kernel
theorem dX10_right_58 : decode cX10_right 58 = .ok (.iload_n 1, 1) := by decide +kernel
theorem dX10_right_59 : decode cX10_right 59 = .ok (.ishl, 1) := by decide +kernel
theorem dX10_right_60 : decode cX10_right 60 = .ok (.ior, 1) := by decide +kernel
theorem dX10_right_61 : decode cX10_right 61 = .ok (.putfield 113, 3) := by decide +kernel
theorem dX10_right_64 : decode cX10_right 64 = .ok (.iload_n 2, 1) := by decide +kernel
theorem dX10_right_65 : decode cX10_right 65 = .ok (.ireturn, 1) := by decide +kernel
theorem dX10_run_0 : decode cX10_run 0 = .ok (.iload_n 1, 1) := by decide +kernel
theorem dX10_run_1 : decode cX10_run 1 = .ok (.i2l, 1) := by decide +kernel
theorem dX10_run_2 : decode cX10_run 2 = .ok (.lconst 0, 1) := by decide +kernel
theorem dX10_run_3 : decode cX10_run 3 = .ok (.ldc2_w 376, 3) := by decide +kernel
theorem dX10_run_6 : decode cX10_run 6 = .ok (.invokestatic 76, 3) := by decide +kernel
theorem dX10_run_9 : decode cX10_run 9 = .ok (.ifCond .eq 15, 3) := by decide +kernel
theorem dX10_run_12 : decode cX10_run 12 = .ok (.iload_n 2, 1) := by decide +kernel
theorem dX10_run_13 : decode cX10_run 13 = .ok (.i2l, 1) := by decide +kernel
theorem dX10_run_14 : decode cX10_run 14 = .ok (.lconst 0, 1) := by decide +kernel
theorem dX10_run_15 : decode cX10_run 15 = .ok (.ldc2_w 378, 3) := by decide +kernel
theorem dX10_run_18 : decode cX10_run 18 = .ok (.invokestatic 76, 3) := by decide +kernel
theorem dX10_run_21 : decode cX10_run 21 = .ok (.ifCond .ne 6, 3) := by decide +kernel
theorem dX10_run_24 : decode cX10_run 24 = .ok (.ldc 104, 2) := by decide +kernel
theorem dX10_run_26 : decode cX10_run 26 = .ok (.ireturn, 1) := by decide +kernel
theorem dX10_run_27 : decode cX10_run 27 = .ok (.aload_n 0, 1) := by decide +kernel
theorem dX10_run_28 : decode cX10_run 28 = .ok (.getfield 23, 3) := by decide +kernel
theorem dX10_run_31 : decode cX10_run 31 = .ok (.iconst 0, 1) := by decide +kernel
theorem dX10_run_32 : decode cX10_run 32 = .ok (.iaload, 1) := by decide +kernel
theorem dX10_run_33 : decode cX10_run 33 = .ok (.istore_n 3, 1) := by decide +kernel
theorem dX10_run_34 : decode cX10_run 34 = .ok (.aload_n 0, 1) := by decide +kernel
theorem dX10_run_35 : decode cX10_run 35 = .ok (.getfield 23, 3) := by decide +kernel
theorem dX10_run_38 : decode cX10_run 38 = .ok (.iconst 2, 1) := by decide +kernel
theorem dX10_run_39 : decode cX10_run 39 = .ok (.iaload, 1) := by decide +kernel
theorem dX10_run_40 : decode cX10_run 40 = .ok (.istore 4, 2) := by decide +kernel
theorem dX10_run_42 : decode cX10_run 42 = .ok (.iconst (-1), 1) := by decide +kernel
theorem dX10_run_43 : decode cX10_run 43 = .ok (.istore 5, 2) := by decide +kernel
theorem dX10_run_45 : decode cX10_run 45 = .ok (.iconst 0, 1) := by decide +kernel
theorem dX10_run_46 : decode cX10_run 46 = .ok (.istore 6, 2) := by decide +kernel
theorem dX10_run_48 : decode cX10_run 48 = .ok (.iload 6, 2) := by decide +kernel
theorem dX10_run_50 : decode cX10_run 50 = .ok (.iload_n 1, 1) := by decide +kernel
theorem dX10_run_51 : decode cX10_run 51 = .ok (.if_icmp .ge 41, 3) := by decide +kernel
theorem dX10_run_54 : decode cX10_run 54 = .ok (.aload_n 0, 1) := by decide +kernel
theorem dX10_run_55 : decode cX10_run 55 = .ok (.aload_n 0, 1) := by decide +kernel
theorem dX10_run_56 : decode cX10_run 56 = .ok (.invokevirtual 369, 3) := by decide +kernel
theorem dX10_run_59 : decode cX10_run 59 = .ok (.invokevirtual 372, 3) := by decide +kernel
theorem dX10_run_62 : decode cX10_run 62 = .ok (.iload 5, 2) := by decide +kernel
theorem dX10_run_64 : decode cX10_run 64 = .ok (.iconst (-1), 1) := by decide +kernel
theorem dX10_run_65 : decode cX10_run 65 = .ok (.if_icmp .ne 17, 3) := by decide +kernel
theorem dX10_run_68 : decode cX10_run 68 = .ok (.aload_n 0, 1) := by decide +kernel
theorem dX10_run_69 : decode cX10_run 69 = .ok (.getfield 23, 3) := by decide +kernel
theorem dX10_run_72 : decode cX10_run 72 = .ok (.iconst 2, 1) := by decide +kernel
theorem dX10_run_73 : decode cX10_run 73 = .ok (.iaload, 1) := by decide +kernel
theorem dX10_run_74 : decode cX10_run 74 = .ok (.ifCond .ge 8, 3) := by decide +kernel
theorem dX10_run_77 : decode cX10_run 77 = .ok (.iload 6, 2) := by decide +kernel
theorem dX10_run_79 : decode cX10_run 79 = .ok (.goto 5, 3) := by decide +kernel
theorem dX10_run_82 : decode cX10_run 82 = .ok (.iload 5, 2) := by decide +kernel
theorem dX10_run_84 : decode cX10_run 84 = .ok (.istore 5, 2) := by decide +kernel
theorem dX10_run_86 : decode cX10_run 86 = .ok (.iinc 6 1, 3) := by decide +kernel
theorem dX10_run_89 : decode cX10_run 89 = .ok (.goto (-41), 3) := by decide +kernel
theorem dX10_run_92 : decode cX10_run 92 = .ok (.iload_n 2, 1) := by decide +kernel
theorem dX10_run_93 : decode cX10_run 93 = .ok (.ifCond .ne 12, 3) := by decide +kernel
theorem dX10_run_96 : decode cX10_run 96 = .ok (.aload_n 0, 1) := by decide +kernel
theorem dX10_run_97 : decode cX10_run 97 = .ok (.getfield 23, 3) := by decide +kernel
theorem dX10_run_100 : decode cX10_run 100 = .ok (.iconst 2, 1) := by decide +kernel
theorem dX10_run_101 : decode cX10_run 101 = .ok (.iaload, 1) := by decide +kernel
theorem dX10_run_102 : decode cX10_run 102 = .ok (.goto 17, 3) := by decide +kernel
theorem dX10_run_105 : decode cX10_run 105 = .ok (.iload_n 2, 1) := by decide +kernel
theorem dX10_run_106 : decode cX10_run 106 = .ok (.iconst 1, 1) := by decide +kernel
theorem dX10_run_107 : decode cX10_run 107 = .ok (.if_icmp .ne 10, 3) := by decide +kernel
theorem dX10_run_110 : decode cX10_run 110 = .ok (.aload_n 0, 1) := by decide +kernel
theorem dX10_run_111 : decode cX10_run 111 = .ok (.invokevirtual 380, 3) := by decide +kernel
theorem dX10_run_114 : decode cX10_run 114 = .ok (.goto 5, 3) := by decide +kernel
theorem dX10_run_117 : decode cX10_run 117 = .ok (.iload 5, 2) := by decide +kernel
theorem dX10_run_119 : decode cX10_run 119 = .ok (.istore 6, 2) := by decide +kernel
theorem dX10_run_121 : decode cX10_run 121 = .ok (.aload_n 0, 1) := by decide +kernel
theorem dX10_run_122 : decode cX10_run 122 = .ok (.getfield 23, 3) := by decide +kernel
theorem dX10_run_125 : decode cX10_run 125 = .ok (.iconst 0, 1) := by decide +kernel
theorem dX10_run_126 : decode cX10_run 126 = .ok (.iload_n 3, 1) := by decide +kernel
theorem dX10_run_127 : decode cX10_run 127 = .ok (.iastore, 1) := by decide +kernel
theorem dX10_run_128 : decode cX10_run 128 = .ok (.aload_n 0, 1) := by decide +kernel
theorem dX10_run_129 : decode cX10_run 129 = .ok (.getfield 23, 3) := by decide +kernel
theorem dX10_run_132 : decode cX10_run 132 = .ok (.iconst 2, 1) := by decide +kernel
theorem dX10_run_133 : decode cX10_run 133 = .ok (.iload 4, 2) := by decide +kernel
theorem dX10_run_135 : decode cX10_run 135 = .ok (.iastore, 1) := by decide +kernel
theorem dX10_run_136 : decode cX10_run 136 = .ok (.iload 6, 2) := by decide +kernel
theorem dX10_run_138 : decode cX10_run 138 = .ok (.ireturn, 1) := by decide +kernel
theorem dX10_costBy_0 : decode cX10_costBy 0 = .ok (.iconst 0, 1) := by decide +kernel
theorem dX10_costBy_1 : decode cX10_costBy 1 = .ok (.istore_n 2, 1) := by decide +kernel
theorem dX10_costBy_2 : decode cX10_costBy 2 = .ok (.iconst 0, 1) := by decide +kernel
theorem dX10_costBy_3 : decode cX10_costBy 3 = .ok (.istore_n 3, 1) := by decide +kernel
theorem dX10_costBy_4 : decode cX10_costBy 4 = .ok (.iload_n 3, 1) := by decide +kernel
theorem dX10_costBy_5 : decode cX10_costBy 5 = .ok (.bipush 8, 2) := by decide +kernel
theorem dX10_costBy_7 : decode cX10_costBy 7 = .ok (.if_icmp .ge 30, 3) := by decide +kernel
theorem dX10_costBy_10 : decode cX10_costBy 10 = .ok (.iload_n 2, 1) := by decide +kernel
theorem dX10_costBy_11 : decode cX10_costBy 11 = .ok (.iload_n 1, 1) := by decide +kernel
theorem dX10_costBy_12 : decode cX10_costBy 12 = .ok (.iload_n 3, 1) := by decide +kernel
theorem dX10_costBy_13 : decode cX10_costBy 13 = .ok (.ishr, 1) := by decide +kernel
theorem dX10_costBy_14 : decode cX10_costBy 14 = .ok (.iconst 1, 1) := by decide +kernel
theorem dX10_costBy_15 : decode cX10_costBy 15 = .ok (.iand, 1) := by decide +kernel
theorem dX10_costBy_16 : decode cX10_costBy 16 = .ok (.iconst 1, 1) := by decide +kernel
theorem dX10_costBy_17 : decode cX10_costBy 17 = .ok (.if_icmp .ne 11, 3) := by decide +kernel
theorem dX10_costBy_20 : decode cX10_costBy 20 = .ok (.aload_n 0, 1) := by decide +kernel
theorem dX10_costBy_21 : decode cX10_costBy 21 = .ok (.iload_n 3, 1) := by decide +kernel
theorem dX10_costBy_22 : decode cX10_costBy 22 = .ok (.invokevirtual 148, 3) := by decide +kernel
theorem dX10_costBy_25 : decode cX10_costBy 25 = .ok (.goto 4, 3) := by decide +kernel
theorem dX10_costBy_28 : decode cX10_costBy 28 = .ok (.iconst 0, 1) := by decide +kernel
theorem dX10_costBy_29 : decode cX10_costBy 29 = .ok (.iadd, 1) := by decide +kernel
theorem dX10_costBy_30 : decode cX10_costBy 30 = .ok (.istore_n 2, 1) := by decide +kernel
theorem dX10_costBy_31 : decode cX10_costBy 31 = .ok (.iinc 3 1, 3) := by decide +kernel
theorem dX10_costBy_34 : decode cX10_costBy 34 = .ok (.goto (-30), 3) := by decide +kernel
theorem dX10_costBy_37 : decode cX10_costBy 37 = .ok (.iload_n 2, 1) := by decide +kernel
theorem dX10_costBy_38 : decode cX10_costBy 38 = .ok (.ireturn, 1) := by decide +kernel
theorem dX10_society_0 : decode cX10_society 0 = .ok (.iload_n 1, 1) := by decide +kernel
theorem dX10_society_1 : decode cX10_society 1 = .ok (.i2l, 1) := by decide +kernel
theorem dX10_society_2 : decode cX10_society 2 = .ok (.lconst 0, 1) := by decide +kernel
theorem dX10_society_3 : decode cX10_society 3 = .ok (.ldc2_w 383, 3) := by decide +kernel
theorem dX10_society_6 : decode cX10_society 6 = .ok (.invokestatic 76, 3) := by decide +kernel
theorem dX10_society_9 : decode cX10_society 9 = .ok (.ifCond .ne 6, 3) := by decide +kernel
theorem dX10_society_12 : decode cX10_society 12 = .ok (.ldc 104, 2) := by decide +kernel
theorem dX10_society_14 : decode cX10_society 14 = .ok (.ireturn, 1) := by decide +kernel
theorem dX10_society_15 : decode cX10_society 15 = .ok (.iload_n 1, 1) := by decide +kernel
theorem dX10_society_16 : decode cX10_society 16 = .ok (.iconst 3, 1) := by decide +kernel
theorem dX10_society_17 : decode cX10_society 17 = .ok (.if_icmp .eq 53, 3) := by decide +kernel
theorem dX10_society_20 : decode cX10_society 20 = .ok (.iload_n 1, 1) := by decide +kernel
theorem dX10_society_21 : decode cX10_society 21 = .ok (.ifCond .ne 10, 3) := by decide +kernel
theorem dX10_society_24 : decode cX10_society 24 = .ok (.aload_n 0, 1) := by decide +kernel
theorem dX10_society_25 : decode cX10_society 25 = .ok (.invokevirtual 380, 3) := by decide +kernel
theorem dX10_society_28 : decode cX10_society 28 = .ok (.goto 41, 3) := by decide +kernel
theorem dX10_society_31 : decode cX10_society 31 = .ok (.iload_n 1, 1) := by decide +kernel
theorem dX10_society_32 : decode cX10_society 32 = .ok (.iconst 1, 1) := by decide +kernel
theorem dX10_society_33 : decode cX10_society 33 = .ok (.if_icmp .ne 10, 3) := by decide +kernel
theorem dX10_society_36 : decode cX10_society 36 = .ok (.aload_n 0, 1) := by decide +kernel
theorem dX10_society_37 : decode cX10_society 37 = .ok (.invokevirtual 366, 3) := by decide +kernel
theorem dX10_society_40 : decode cX10_society 40 = .ok (.goto 29, 3) := by decide +kernel
theorem dX10_society_43 : decode cX10_society 43 = .ok (.iload_n 1, 1) := by decide +kernel
theorem dX10_society_44 : decode cX10_society 44 = .ok (.iconst 2, 1) := by decide +kernel
theorem dX10_society_45 : decode cX10_society 45 = .ok (.if_icmp .ne 10, 3) := by decide +kernel
theorem dX10_society_48 : decode cX10_society 48 = .ok (.aload_n 0, 1) := by decide +kernel
theorem dX10_society_49 : decode cX10_society 49 = .ok (.invokevirtual 369, 3) := by decide +kernel
theorem dX10_society_52 : decode cX10_society 52 = .ok (.goto 17, 3) := by decide +kernel
theorem dX10_society_55 : decode cX10_society 55 = .ok (.aload_n 0, 1) := by decide +kernel
theorem dX10_society_56 : decode cX10_society 56 = .ok (.sipush 255, 3) := by decide +kernel
theorem dX10_society_59 : decode cX10_society 59 = .ok (.aload_n 0, 1) := by decide +kernel
theorem dX10_society_60 : decode cX10_society 60 = .ok (.getfield 113, 3) := by decide +kernel
theorem dX10_society_63 : decode cX10_society 63 = .ok (.iconst (-1), 1) := by decide +kernel
theorem dX10_society_64 : decode cX10_society 64 = .ok (.ixor, 1) := by decide +kernel
theorem dX10_society_65 : decode cX10_society 65 = .ok (.iand, 1) := by decide +kernel
theorem dX10_society_66 : decode cX10_society 66 = .ok (.invokevirtual 385, 3) := by decide +kernel
theorem dX10_society_69 : decode cX10_society 69 = .ok (.ireturn, 1) := by decide +kernel
theorem dX10_society_70 : decode cX10_society 70 = .ok (.sipush 255, 3) := by decide +kernel
theorem dX10_society_73 : decode cX10_society 73 = .ok (.istore_n 2, 1) := by decide +kernel
theorem dX10_society_74 : decode cX10_society 74 = .ok (.iconst 0, 1) := by decide +kernel
theorem dX10_society_75 : decode cX10_society 75 = .ok (.istore_n 3, 1) := by decide +kernel
theorem dX10_society_76 : decode cX10_society 76 = .ok (.iload_n 3, 1) := by decide +kernel
theorem dX10_society_77 : decode cX10_society 77 = .ok (.aload_n 0, 1) := by decide +kernel
theorem dX10_society_78 : decode cX10_society 78 = .ok (.getfield 73, 3) := by decide +kernel
theorem dX10_society_81 : decode cX10_society 81 = .ok (.if_icmp .ge 54, 3) := by decide +kernel
theorem dX10_society_84 : decode cX10_society 84 = .ok (.iconst 0, 1) := by decide +kernel
theorem dX10_society_85 : decode cX10_society 85 = .ok (.istore 4, 2) := by decide +kernel
theorem dX10_society_87 : decode cX10_society 87 = .ok (.iload 4, 2) := by decide +kernel
theorem dX10_society_89 : decode cX10_society 89 = .ok (.bipush 8, 2) := by decide +kernel
theorem dX10_society_91 : decode cX10_society 91 = .ok (.if_icmp .ge 38, 3) := by decide +kernel
theorem dX10_society_94 : decode cX10_society 94 = .ok (.iload_n 2, 1) := by decide +kernel
theorem dX10_society_95 : decode cX10_society 95 = .ok (.aload_n 0, 1) := by decide +kernel
theorem dX10_society_96 : decode cX10_society 96 = .ok (.iload_n 3, 1) := by decide +kernel
theorem dX10_society_97 : decode cX10_society 97 = .ok (.iload 4, 2) := by decide +kernel
theorem dX10_society_99 : decode cX10_society 99 = .ok (.invokevirtual 133, 3) := by decide +kernel
theorem dX10_society_102 : decode cX10_society 102 = .ok (.ifCond .ne 9, 3) := by decide +kernel
theorem dX10_society_105 : decode cX10_society 105 = .ok (.sipush 255, 3) := by decide +kernel
theorem dX10_society_108 : decode cX10_society 108 = .ok (.goto 13, 3) := by decide +kernel
theorem dX10_society_111 : decode cX10_society 111 = .ok (.sipush 255, 3) := by decide +kernel
theorem dX10_society_114 : decode cX10_society 114 = .ok (.iconst 1, 1) := by decide +kernel
theorem dX10_society_115 : decode cX10_society 115 = .ok (.iload 4, 2) := by decide +kernel
theorem dX10_society_117 : decode cX10_society 117 = .ok (.ishl, 1) := by decide +kernel
theorem dX10_society_118 : decode cX10_society 118 = .ok (.iconst (-1), 1) := by decide +kernel
theorem dX10_society_119 : decode cX10_society 119 = .ok (.ixor, 1) := by decide +kernel
theorem dX10_society_120 : decode cX10_society 120 = .ok (.iand, 1) := by decide +kernel
theorem dX10_society_121 : decode cX10_society 121 = .ok (.iand, 1) := by decide +kernel
theorem dX10_society_122 : decode cX10_society 122 = .ok (.istore_n 2, 1) := by decide +kernel
theorem dX10_society_123 : decode cX10_society 123 = .ok (.iinc 4 1, 3) := by decide +kernel
theorem dX10_society_126 : decode cX10_society 126 = .ok (.goto (-39), 3) := by decide +kernel
theorem dX10_society_129 : decode cX10_society 129 = .ok (.iinc 3 1, 3) := by decide +kernel
theorem dX10_society_132 : decode cX10_society 132 = .ok (.goto (-56), 3) := by decide +kernel
theorem dX10_society_135 : decode cX10_society 135 = .ok (.iload_n 2, 1) := by decide +kernel
theorem dX10_society_136 : decode cX10_society 136 = .ok (.ireturn, 1) := by decide +kernel
theorem dX10_prices_0 : decode cX10_prices 0 = .ok (.iconst 0, 1) := by decide +kernel
theorem dX10_prices_1 : decode cX10_prices 1 = .ok (.istore_n 1, 1) := by decide +kernel
theorem dX10_prices_2 : decode cX10_prices 2 = .ok (.iload_n 1, 1) := by decide +kernel
theorem dX10_prices_3 : decode cX10_prices 3 = .ok (.bipush 8, 2) := by decide +kernel
theorem dX10_prices_5 : decode cX10_prices 5 = .ok (.if_icmp .ge 20, 3) := by decide +kernel
theorem dX10_prices_8 : decode cX10_prices 8 = .ok (.aload_n 0, 1) := by decide +kernel
theorem dX10_prices_9 : decode cX10_prices 9 = .ok (.getfield 35, 3) := by decide +kernel
theorem dX10_prices_12 : decode cX10_prices 12 = .ok (.iload_n 1, 1) := by decide +kernel
theorem dX10_prices_13 : decode cX10_prices 13 = .ok (.aload_n 0, 1) := by decide +kernel
theorem dX10_prices_14 : decode cX10_prices 14 = .ok (.iload_n 1, 1) := by decide +kernel
theorem dX10_prices_15 : decode cX10_prices 15 = .ok (.invokevirtual 148, 3) := by decide +kernel
theorem dX10_prices_18 : decode cX10_prices 18 = .ok (.iastore, 1) := by decide +kernel
theorem dX10_prices_19 : decode cX10_prices 19 = .ok (.iinc 1 1, 3) := by decide +kernel
theorem dX10_prices_22 : decode cX10_prices 22 = .ok (.goto (-20), 3) := by decide +kernel
theorem dX10_prices_25 : decode cX10_prices 25 = .ok (.return_, 1) := by decide +kernel
theorem dX10_priceOf_0 : decode cX10_priceOf 0 = .ok (.iconst 0, 1) := by decide +kernel
theorem dX10_priceOf_1 : decode cX10_priceOf 1 = .ok (.istore_n 2, 1) := by decide +kernel
theorem dX10_priceOf_2 : decode cX10_priceOf 2 = .ok (.iconst 0, 1) := by decide +kernel
theorem dX10_priceOf_3 : decode cX10_priceOf 3 = .ok (.istore_n 3, 1) := by decide +kernel
theorem dX10_priceOf_4 : decode cX10_priceOf 4 = .ok (.iload_n 3, 1) := by decide +kernel
theorem dX10_priceOf_5 : decode cX10_priceOf 5 = .ok (.bipush 8, 2) := by decide +kernel
theorem dX10_priceOf_7 : decode cX10_priceOf 7 = .ok (.if_icmp .ge 31, 3) := by decide +kernel
theorem dX10_priceOf_10 : decode cX10_priceOf 10 = .ok (.iload_n 2, 1) := by decide +kernel
theorem dX10_priceOf_11 : decode cX10_priceOf 11 = .ok (.iload_n 1, 1) := by decide +kernel
theorem dX10_priceOf_12 : decode cX10_priceOf 12 = .ok (.iload_n 3, 1) := by decide +kernel
theorem dX10_priceOf_13 : decode cX10_priceOf 13 = .ok (.ishr, 1) := by decide +kernel
theorem dX10_priceOf_14 : decode cX10_priceOf 14 = .ok (.iconst 1, 1) := by decide +kernel
theorem dX10_priceOf_15 : decode cX10_priceOf 15 = .ok (.iand, 1) := by decide +kernel
theorem dX10_priceOf_16 : decode cX10_priceOf 16 = .ok (.iconst 1, 1) := by decide +kernel
theorem dX10_priceOf_17 : decode cX10_priceOf 17 = .ok (.if_icmp .ne 12, 3) := by decide +kernel
theorem dX10_priceOf_20 : decode cX10_priceOf 20 = .ok (.aload_n 0, 1) := by decide +kernel
theorem dX10_priceOf_21 : decode cX10_priceOf 21 = .ok (.getfield 35, 3) := by decide +kernel
theorem dX10_priceOf_24 : decode cX10_priceOf 24 = .ok (.iload_n 3, 1) := by decide +kernel
theorem dX10_priceOf_25 : decode cX10_priceOf 25 = .ok (.iaload, 1) := by decide +kernel
theorem dX10_priceOf_26 : decode cX10_priceOf 26 = .ok (.goto 4, 3) := by decide +kernel
theorem dX10_priceOf_29 : decode cX10_priceOf 29 = .ok (.iconst 0, 1) := by decide +kernel
theorem dX10_priceOf_30 : decode cX10_priceOf 30 = .ok (.iadd, 1) := by decide +kernel
theorem dX10_priceOf_31 : decode cX10_priceOf 31 = .ok (.istore_n 2, 1) := by decide +kernel
theorem dX10_priceOf_32 : decode cX10_priceOf 32 = .ok (.iinc 3 1, 3) := by decide +kernel
theorem dX10_priceOf_35 : decode cX10_priceOf 35 = .ok (.goto (-31), 3) := by decide +kernel
theorem dX10_priceOf_38 : decode cX10_priceOf 38 = .ok (.iload_n 2, 1) := by decide +kernel
theorem dX10_priceOf_39 : decode cX10_priceOf 39 = .ok (.ireturn, 1) := by decide +kernel
theorem dX10_hazyBy_0 : decode cX10_hazyBy 0 = .ok (.aload_n 0, 1) := by decide +kernel
theorem dX10_hazyBy_1 : decode cX10_hazyBy 1 = .ok (.getfield 113, 3) := by decide +kernel
theorem dX10_hazyBy_4 : decode cX10_hazyBy 4 = .ok (.istore_n 2, 1) := by decide +kernel
theorem dX10_hazyBy_5 : decode cX10_hazyBy 5 = .ok (.aload_n 0, 1) := by decide +kernel
theorem dX10_hazyBy_6 : decode cX10_hazyBy 6 = .ok (.dup, 1) := by decide +kernel
theorem dX10_hazyBy_7 : decode cX10_hazyBy 7 = .ok (.getfield 113, 3) := by decide +kernel
theorem dX10_hazyBy_10 : decode cX10_hazyBy 10 = .ok (.iload_n 1, 1) := by decide +kernel
theorem dX10_hazyBy_11 : decode cX10_hazyBy 11 = .ok (.ior, 1) := by decide +kernel
theorem dX10_hazyBy_12 : decode cX10_hazyBy 12 = .ok (.putfield 113, 3) := by decide +kernel
theorem dX10_hazyBy_15 : decode cX10_hazyBy 15 = .ok (.aload_n 0, 1) := by decide +kernel
theorem dX10_hazyBy_16 : decode cX10_hazyBy 16 = .ok (.invokevirtual 380, 3) := by decide +kernel
theorem dX10_hazyBy_19 : decode cX10_hazyBy 19 = .ok (.istore_n 3, 1) := by decide +kernel
theorem dX10_hazyBy_20 : decode cX10_hazyBy 20 = .ok (.aload_n 0, 1) := by decide +kernel
theorem dX10_hazyBy_21 : decode cX10_hazyBy 21 = .ok (.iload_n 2, 1) := by decide +kernel
theorem dX10_hazyBy_22 : decode cX10_hazyBy 22 = .ok (.putfield 113, 3) := by decide +kernel
theorem dX10_hazyBy_25 : decode cX10_hazyBy 25 = .ok (.iload_n 3, 1) := by decide +kernel
theorem dX10_hazyBy_26 : decode cX10_hazyBy 26 = .ok (.ireturn, 1) := by decide +kernel
theorem dX10_cheapest_0 : decode cX10_cheapest 0 = .ok (.iload_n 1, 1) := by decide +kernel
theorem dX10_cheapest_1 : decode cX10_cheapest 1 = .ok (.i2l, 1) := by decide +kernel
theorem dX10_cheapest_2 : decode cX10_cheapest 2 = .ok (.lconst 0, 1) := by decide +kernel
theorem dX10_cheapest_3 : decode cX10_cheapest 3 = .ok (.ldc2_w 91, 3) := by decide +kernel
theorem dX10_cheapest_6 : decode cX10_cheapest 6 = .ok (.invokestatic 76, 3) := by decide +kernel
theorem dX10_cheapest_9 : decode cX10_cheapest 9 = .ok (.ifCond .eq 13, 3) := by decide +kernel
theorem dX10_cheapest_12 : decode cX10_cheapest 12 = .ok (.iload_n 2, 1) := by decide +kernel
theorem dX10_cheapest_13 : decode cX10_cheapest 13 = .ok (.i2l, 1) := by decide +kernel
theorem dX10_cheapest_14 : decode cX10_cheapest 14 = .ok (.lconst 0, 1) := by decide +kernel
theorem dX10_cheapest_15 : decode cX10_cheapest 15 = .ok (.lconst 1, 1) := by decide +kernel
theorem dX10_cheapest_16 : decode cX10_cheapest 16 = .ok (.invokestatic 76, 3) := by decide +kernel
theorem dX10_cheapest_19 : decode cX10_cheapest 19 = .ok (.ifCond .ne 6, 3) := by decide +kernel
theorem dX10_cheapest_22 : decode cX10_cheapest 22 = .ok (.bipush (-2), 2) := by decide +kernel
theorem dX10_cheapest_24 : decode cX10_cheapest 24 = .ok (.ireturn, 1) := by decide +kernel
theorem dX10_cheapest_25 : decode cX10_cheapest 25 = .ok (.aload_n 0, 1) := by decide +kernel
theorem dX10_cheapest_26 : decode cX10_cheapest 26 = .ok (.invokevirtual 388, 3) := by decide +kernel
theorem dX10_cheapest_29 : decode cX10_cheapest 29 = .ok (.iconst (-1), 1) := by decide +kernel
theorem dX10_cheapest_30 : decode cX10_cheapest 30 = .ok (.istore_n 3, 1) := by decide +kernel
theorem dX10_cheapest_31 : decode cX10_cheapest 31 = .ok (.iconst 0, 1) := by decide +kernel
theorem dX10_cheapest_32 : decode cX10_cheapest 32 = .ok (.istore 4, 2) := by decide +kernel
theorem dX10_cheapest_34 : decode cX10_cheapest 34 = .ok (.iload 4, 2) := by decide +kernel
theorem dX10_cheapest_36 : decode cX10_cheapest 36 = .ok (.sipush 256, 3) := by decide +kernel
theorem dX10_cheapest_39 : decode cX10_cheapest 39 = .ok (.if_icmp .ge 51, 3) := by decide +kernel
theorem dX10_cheapest_42 : decode cX10_cheapest 42 = .ok (.iload 4, 2) := by decide +kernel
theorem dX10_cheapest_44 : decode cX10_cheapest 44 = .ok (.aload_n 0, 1) := by decide +kernel
theorem dX10_cheapest_45 : decode cX10_cheapest 45 = .ok (.getfield 113, 3) := by decide +kernel
theorem dX10_cheapest_48 : decode cX10_cheapest 48 = .ok (.iand, 1) := by decide +kernel
theorem dX10_cheapest_49 : decode cX10_cheapest 49 = .ok (.ifCond .ne 35, 3) := by decide +kernel
theorem dX10_cheapest_52 : decode cX10_cheapest 52 = .ok (.iload_n 3, 1) := by decide +kernel
theorem dX10_cheapest_53 : decode cX10_cheapest 53 = .ok (.iconst (-1), 1) := by decide +kernel
theorem dX10_cheapest_54 : decode cX10_cheapest 54 = .ok (.if_icmp .eq 17, 3) := by decide +kernel
theorem dX10_cheapest_57 : decode cX10_cheapest 57 = .ok (.aload_n 0, 1) := by decide +kernel
theorem dX10_cheapest_58 : decode cX10_cheapest 58 = .ok (.iload 4, 2) := by decide +kernel
theorem dX10_cheapest_60 : decode cX10_cheapest 60 = .ok (.invokevirtual 391, 3) := by decide +kernel
theorem dX10_cheapest_63 : decode cX10_cheapest 63 = .ok (.aload_n 0, 1) := by decide +kernel
theorem dX10_cheapest_64 : decode cX10_cheapest 64 = .ok (.iload_n 3, 1) := by decide +kernel
theorem dX10_cheapest_65 : decode cX10_cheapest 65 = .ok (.invokevirtual 391, 3) := by decide +kernel
theorem dX10_cheapest_68 : decode cX10_cheapest 68 = .ok (.if_icmp .ge 16, 3) := by decide +kernel
theorem dX10_cheapest_71 : decode cX10_cheapest 71 = .ok (.aload_n 0, 1) := by decide +kernel
theorem dX10_cheapest_72 : decode cX10_cheapest 72 = .ok (.iload 4, 2) := by decide +kernel
theorem dX10_cheapest_74 : decode cX10_cheapest 74 = .ok (.invokevirtual 394, 3) := by decide +kernel
theorem dX10_cheapest_77 : decode cX10_cheapest 77 = .ok (.iload_n 1, 1) := by decide +kernel
theorem dX10_cheapest_78 : decode cX10_cheapest 78 = .ok (.if_icmp .lt 6, 3) := by decide +kernel
theorem dX10_cheapest_81 : decode cX10_cheapest 81 = .ok (.iload 4, 2) := by decide +kernel
theorem dX10_cheapest_83 : decode cX10_cheapest 83 = .ok (.istore_n 3, 1) := by decide +kernel
theorem dX10_cheapest_84 : decode cX10_cheapest 84 = .ok (.iinc 4 1, 3) := by decide +kernel
theorem dX10_cheapest_87 : decode cX10_cheapest 87 = .ok (.goto (-53), 3) := by decide +kernel
theorem dX10_cheapest_90 : decode cX10_cheapest 90 = .ok (.iload_n 3, 1) := by decide +kernel
theorem dX10_cheapest_91 : decode cX10_cheapest 91 = .ok (.iconst (-1), 1) := by decide +kernel
theorem dX10_cheapest_92 : decode cX10_cheapest 92 = .ok (.if_icmp .eq 7, 3) := by decide +kernel
theorem dX10_cheapest_95 : decode cX10_cheapest 95 = .ok (.iload_n 2, 1) := by decide +kernel
theorem dX10_cheapest_96 : decode cX10_cheapest 96 = .ok (.ifCond .ne 7, 3) := by decide +kernel
theorem dX10_cheapest_99 : decode cX10_cheapest 99 = .ok (.iload_n 3, 1) := by decide +kernel
theorem dX10_cheapest_100 : decode cX10_cheapest 100 = .ok (.goto 8, 3) := by decide +kernel
theorem dX10_cheapest_103 : decode cX10_cheapest 103 = .ok (.aload_n 0, 1) := by decide +kernel
theorem dX10_cheapest_104 : decode cX10_cheapest 104 = .ok (.iload_n 3, 1) := by decide +kernel
theorem dX10_cheapest_105 : decode cX10_cheapest 105 = .ok (.invokevirtual 391, 3) := by decide +kernel
theorem dX10_cheapest_108 : decode cX10_cheapest 108 = .ok (.ireturn, 1) := by decide +kernel
theorem dX10_most_0 : decode cX10_most 0 = .ok (.iload_n 1, 1) := by decide +kernel
theorem dX10_most_1 : decode cX10_most 1 = .ok (.i2l, 1) := by decide +kernel
theorem dX10_most_2 : decode cX10_most 2 = .ok (.lconst 0, 1) := by decide +kernel
theorem dX10_most_3 : decode cX10_most 3 = .ok (.ldc2_w 397, 3) := by decide +kernel
theorem dX10_most_6 : decode cX10_most 6 = .ok (.invokestatic 76, 3) := by decide +kernel
theorem dX10_most_9 : decode cX10_most 9 = .ok (.ifCond .eq 15, 3) := by decide +kernel
theorem dX10_most_12 : decode cX10_most 12 = .ok (.iload_n 2, 1) := by decide +kernel
theorem dX10_most_13 : decode cX10_most 13 = .ok (.i2l, 1) := by decide +kernel
theorem dX10_most_14 : decode cX10_most 14 = .ok (.lconst 0, 1) := by decide +kernel
theorem dX10_most_15 : decode cX10_most 15 = .ok (.ldc2_w 378, 3) := by decide +kernel
theorem dX10_most_18 : decode cX10_most 18 = .ok (.invokestatic 76, 3) := by decide +kernel
theorem dX10_most_21 : decode cX10_most 21 = .ok (.ifCond .ne 6, 3) := by decide +kernel
theorem dX10_most_24 : decode cX10_most 24 = .ok (.bipush (-2), 2) := by decide +kernel
theorem dX10_most_26 : decode cX10_most 26 = .ok (.ireturn, 1) := by decide +kernel
theorem dX10_most_27 : decode cX10_most 27 = .ok (.aload_n 0, 1) := by decide +kernel
theorem dX10_most_28 : decode cX10_most 28 = .ok (.invokevirtual 388, 3) := by decide +kernel
theorem dX10_most_31 : decode cX10_most 31 = .ok (.iconst (-1), 1) := by decide +kernel
theorem dX10_most_32 : decode cX10_most 32 = .ok (.istore_n 3, 1) := by decide +kernel
theorem dX10_most_33 : decode cX10_most 33 = .ok (.iconst 0, 1) := by decide +kernel
theorem dX10_most_34 : decode cX10_most 34 = .ok (.istore 4, 2) := by decide +kernel
theorem dX10_most_36 : decode cX10_most 36 = .ok (.iconst 0, 1) := by decide +kernel
theorem dX10_most_37 : decode cX10_most 37 = .ok (.istore 5, 2) := by decide +kernel
theorem dX10_most_39 : decode cX10_most 39 = .ok (.iload 5, 2) := by decide +kernel
theorem dX10_most_41 : decode cX10_most 41 = .ok (.sipush 256, 3) := by decide +kernel
theorem dX10_most_44 : decode cX10_most 44 = .ok (.if_icmp .ge 77, 3) := by decide +kernel
theorem dX10_most_47 : decode cX10_most 47 = .ok (.iload 5, 2) := by decide +kernel
theorem dX10_most_49 : decode cX10_most 49 = .ok (.aload_n 0, 1) := by decide +kernel
theorem dX10_most_50 : decode cX10_most 50 = .ok (.getfield 113, 3) := by decide +kernel
theorem dX10_most_53 : decode cX10_most 53 = .ok (.iand, 1) := by decide +kernel
theorem dX10_most_54 : decode cX10_most 54 = .ok (.ifCond .ne 61, 3) := by decide +kernel
theorem dX10_most_57 : decode cX10_most 57 = .ok (.aload_n 0, 1) := by decide +kernel
theorem dX10_most_58 : decode cX10_most 58 = .ok (.iload 5, 2) := by decide +kernel
theorem dX10_most_60 : decode cX10_most 60 = .ok (.invokevirtual 391, 3) := by decide +kernel
theorem dX10_most_63 : decode cX10_most 63 = .ok (.iload_n 1, 1) := by decide +kernel
theorem dX10_most_64 : decode cX10_most 64 = .ok (.if_icmp .gt 51, 3) := by decide +kernel
theorem dX10_most_67 : decode cX10_most 67 = .ok (.aload_n 0, 1) := by decide +kernel
theorem dX10_most_68 : decode cX10_most 68 = .ok (.iload 5, 2) := by decide +kernel
theorem dX10_most_70 : decode cX10_most 70 = .ok (.invokevirtual 394, 3) := by decide +kernel
theorem dX10_most_73 : decode cX10_most 73 = .ok (.istore 6, 2) := by decide +kernel
theorem dX10_most_75 : decode cX10_most 75 = .ok (.iload_n 3, 1) := by decide +kernel
theorem dX10_most_76 : decode cX10_most 76 = .ok (.iconst (-1), 1) := by decide +kernel
theorem dX10_most_77 : decode cX10_most 77 = .ok (.if_icmp .eq 31, 3) := by decide +kernel
theorem dX10_most_80 : decode cX10_most 80 = .ok (.iload 6, 2) := by decide +kernel
theorem dX10_most_82 : decode cX10_most 82 = .ok (.iload 4, 2) := by decide +kernel
theorem dX10_most_84 : decode cX10_most 84 = .ok (.if_icmp .gt 24, 3) := by decide +kernel
theorem dX10_most_87 : decode cX10_most 87 = .ok (.iload 6, 2) := by decide +kernel
theorem dX10_most_89 : decode cX10_most 89 = .ok (.iload 4, 2) := by decide +kernel
theorem dX10_most_91 : decode cX10_most 91 = .ok (.if_icmp .ne 24, 3) := by decide +kernel
theorem dX10_most_94 : decode cX10_most 94 = .ok (.aload_n 0, 1) := by decide +kernel
theorem dX10_most_95 : decode cX10_most 95 = .ok (.iload 5, 2) := by decide +kernel
theorem dX10_most_97 : decode cX10_most 97 = .ok (.invokevirtual 391, 3) := by decide +kernel
theorem dX10_most_100 : decode cX10_most 100 = .ok (.aload_n 0, 1) := by decide +kernel
theorem dX10_most_101 : decode cX10_most 101 = .ok (.iload_n 3, 1) := by decide +kernel
theorem dX10_most_102 : decode cX10_most 102 = .ok (.invokevirtual 391, 3) := by decide +kernel
theorem dX10_most_105 : decode cX10_most 105 = .ok (.if_icmp .ge 10, 3) := by decide +kernel
theorem dX10_most_108 : decode cX10_most 108 = .ok (.iload 5, 2) := by decide +kernel
theorem dX10_most_110 : decode cX10_most 110 = .ok (.istore_n 3, 1) := by decide +kernel
theorem dX10_most_111 : decode cX10_most 111 = .ok (.iload 6, 2) := by decide +kernel
theorem dX10_most_113 : decode cX10_most 113 = .ok (.istore 4, 2) := by decide +kernel
theorem dX10_most_115 : decode cX10_most 115 = .ok (.iinc 5 1, 3) := by decide +kernel
theorem dX10_most_118 : decode cX10_most 118 = .ok (.goto (-79), 3) := by decide +kernel
theorem dX10_most_121 : decode cX10_most 121 = .ok (.iload_n 2, 1) := by decide +kernel
theorem dX10_most_122 : decode cX10_most 122 = .ok (.ifCond .ne 7, 3) := by decide +kernel
theorem dX10_most_125 : decode cX10_most 125 = .ok (.iload_n 3, 1) := by decide +kernel
theorem dX10_most_126 : decode cX10_most 126 = .ok (.goto 18, 3) := by decide +kernel
theorem dX10_most_129 : decode cX10_most 129 = .ok (.iload_n 2, 1) := by decide +kernel
theorem dX10_most_130 : decode cX10_most 130 = .ok (.iconst 1, 1) := by decide +kernel
theorem dX10_most_131 : decode cX10_most 131 = .ok (.if_icmp .ne 8, 3) := by decide +kernel
theorem dX10_most_134 : decode cX10_most 134 = .ok (.iload 4, 2) := by decide +kernel
theorem dX10_most_136 : decode cX10_most 136 = .ok (.goto 8, 3) := by decide +kernel
theorem dX10_most_139 : decode cX10_most 139 = .ok (.aload_n 0, 1) := by decide +kernel
theorem dX10_most_140 : decode cX10_most 140 = .ok (.iload_n 3, 1) := by decide +kernel
theorem dX10_most_141 : decode cX10_most 141 = .ok (.invokevirtual 391, 3) := by decide +kernel
theorem dX10_most_144 : decode cX10_most 144 = .ok (.ireturn, 1) := by decide +kernel
theorem dX10_haze_0 : decode cX10_haze 0 = .ok (.aload_n 0, 1) := by decide +kernel
theorem dX10_haze_1 : decode cX10_haze 1 = .ok (.iload_n 1, 1) := by decide +kernel
theorem dX10_haze_2 : decode cX10_haze 2 = .ok (.invokevirtual 86, 3) := by decide +kernel
theorem dX10_haze_5 : decode cX10_haze 5 = .ok (.ifCond .ne 6, 3) := by decide +kernel
theorem dX10_haze_8 : decode cX10_haze 8 = .ok (.bipush (-2), 2) := by decide +kernel
theorem dX10_haze_10 : decode cX10_haze 10 = .ok (.ireturn, 1) := by decide +kernel
theorem dX10_haze_11 : decode cX10_haze 11 = .ok (.aload_n 0, 1) := by decide +kernel
theorem dX10_haze_12 : decode cX10_haze 12 = .ok (.getfield 23, 3) := by decide +kernel
theorem dX10_haze_15 : decode cX10_haze 15 = .ok (.iconst 0, 1) := by decide +kernel
theorem dX10_haze_16 : decode cX10_haze 16 = .ok (.iaload, 1) := by decide +kernel
theorem dX10_haze_17 : decode cX10_haze 17 = .ok (.istore_n 2, 1) := by decide +kernel
theorem dX10_haze_18 : decode cX10_haze 18 = .ok (.iconst 0, 1) := by decide +kernel
theorem dX10_haze_19 : decode cX10_haze 19 = .ok (.istore_n 3, 1) := by decide +kernel
theorem dX10_haze_20 : decode cX10_haze 20 = .ok (.iload_n 3, 1) := by decide +kernel
theorem dX10_haze_21 : decode cX10_haze 21 = .ok (.bipush 40, 2) := by decide +kernel
theorem dX10_haze_23 : decode cX10_haze 23 = .ok (.if_icmp .gt 27, 3) := by decide +kernel
theorem dX10_haze_26 : decode cX10_haze 26 = .ok (.aload_n 0, 1) := by decide +kernel
theorem dX10_haze_27 : decode cX10_haze 27 = .ok (.iload_n 1, 1) := by decide +kernel
theorem dX10_haze_28 : decode cX10_haze 28 = .ok (.invokevirtual 142, 3) := by decide +kernel
theorem dX10_haze_31 : decode cX10_haze 31 = .ok (.ifCond .ne 19, 3) := by decide +kernel
theorem dX10_haze_34 : decode cX10_haze 34 = .ok (.aload_n 0, 1) := by decide +kernel
theorem dX10_haze_35 : decode cX10_haze 35 = .ok (.getfield 23, 3) := by decide +kernel
theorem dX10_haze_38 : decode cX10_haze 38 = .ok (.iconst 0, 1) := by decide +kernel
theorem dX10_haze_39 : decode cX10_haze 39 = .ok (.dup2, 1) := by decide +kernel
theorem dX10_haze_40 : decode cX10_haze 40 = .ok (.iaload, 1) := by decide +kernel
theorem dX10_haze_41 : decode cX10_haze 41 = .ok (.iconst 1, 1) := by decide +kernel
theorem dX10_haze_42 : decode cX10_haze 42 = .ok (.iadd, 1) := by decide +kernel
theorem dX10_haze_43 : decode cX10_haze 43 = .ok (.iastore, 1) := by decide +kernel
theorem dX10_haze_44 : decode cX10_haze 44 = .ok (.iinc 3 1, 3) := by decide +kernel
theorem dX10_haze_47 : decode cX10_haze 47 = .ok (.goto (-27), 3) := by decide +kernel
theorem dX10_haze_50 : decode cX10_haze 50 = .ok (.aload_n 0, 1) := by decide +kernel
theorem dX10_haze_51 : decode cX10_haze 51 = .ok (.getfield 23, 3) := by decide +kernel
theorem dX10_haze_54 : decode cX10_haze 54 = .ok (.iconst 0, 1) := by decide +kernel
theorem dX10_haze_55 : decode cX10_haze 55 = .ok (.iload_n 2, 1) := by decide +kernel
theorem dX10_haze_56 : decode cX10_haze 56 = .ok (.iastore, 1) := by decide +kernel
theorem dX10_haze_57 : decode cX10_haze 57 = .ok (.iload_n 3, 1) := by decide +kernel
theorem dX10_haze_58 : decode cX10_haze 58 = .ok (.bipush 40, 2) := by decide +kernel
theorem dX10_haze_60 : decode cX10_haze 60 = .ok (.if_icmp .le 7, 3) := by decide +kernel
theorem dX10_haze_63 : decode cX10_haze 63 = .ok (.iconst (-1), 1) := by decide +kernel
theorem dX10_haze_64 : decode cX10_haze 64 = .ok (.goto 4, 3) := by decide +kernel
theorem dX10_haze_67 : decode cX10_haze 67 = .ok (.iload_n 3, 1) := by decide +kernel
theorem dX10_haze_68 : decode cX10_haze 68 = .ok (.ireturn, 1) := by decide +kernel
theorem dX10_premium_0 : decode cX10_premium 0 = .ok (.aload_n 0, 1) := by decide +kernel
theorem dX10_premium_1 : decode cX10_premium 1 = .ok (.getfield 23, 3) := by decide +kernel
theorem dX10_premium_4 : decode cX10_premium 4 = .ok (.iconst 0, 1) := by decide +kernel
theorem dX10_premium_5 : decode cX10_premium 5 = .ok (.iaload, 1) := by decide +kernel
theorem dX10_premium_6 : decode cX10_premium 6 = .ok (.istore_n 1, 1) := by decide +kernel
theorem dX10_premium_7 : decode cX10_premium 7 = .ok (.aload_n 0, 1) := by decide +kernel
theorem dX10_premium_8 : decode cX10_premium 8 = .ok (.getfield 23, 3) := by decide +kernel
theorem dX10_premium_11 : decode cX10_premium 11 = .ok (.iconst 2, 1) := by decide +kernel
theorem dX10_premium_12 : decode cX10_premium 12 = .ok (.iaload, 1) := by decide +kernel
theorem dX10_premium_13 : decode cX10_premium 13 = .ok (.istore_n 2, 1) := by decide +kernel
theorem dX10_premium_14 : decode cX10_premium 14 = .ok (.iconst (-1), 1) := by decide +kernel
theorem dX10_premium_15 : decode cX10_premium 15 = .ok (.istore_n 3, 1) := by decide +kernel
theorem dX10_premium_16 : decode cX10_premium 16 = .ok (.iconst 0, 1) := by decide +kernel
theorem dX10_premium_17 : decode cX10_premium 17 = .ok (.istore 4, 2) := by decide +kernel
theorem dX10_premium_19 : decode cX10_premium 19 = .ok (.iload 4, 2) := by decide +kernel
theorem dX10_premium_21 : decode cX10_premium 21 = .ok (.bipush 99, 2) := by decide +kernel
theorem dX10_premium_23 : decode cX10_premium 23 = .ok (.if_icmp .gt 91, 3) := by decide +kernel
theorem dX10_premium_26 : decode cX10_premium 26 = .ok (.iload_n 3, 1) := by decide +kernel
theorem dX10_premium_27 : decode cX10_premium 27 = .ok (.iconst (-1), 1) := by decide +kernel
theorem dX10_premium_28 : decode cX10_premium 28 = .ok (.if_icmp .ne 86, 3) := by decide +kernel
theorem dX10_premium_31 : decode cX10_premium 31 = .ok (.iconst 1, 1) := by decide +kernel
theorem dX10_premium_32 : decode cX10_premium 32 = .ok (.istore 5, 2) := by decide +kernel
theorem dX10_premium_34 : decode cX10_premium 34 = .ok (.iconst 0, 1) := by decide +kernel
theorem dX10_premium_35 : decode cX10_premium 35 = .ok (.istore 6, 2) := by decide +kernel
theorem dX10_premium_37 : decode cX10_premium 37 = .ok (.iload 6, 2) := by decide +kernel
theorem dX10_premium_39 : decode cX10_premium 39 = .ok (.bipush 10, 2) := by decide +kernel
theorem dX10_premium_41 : decode cX10_premium 41 = .ok (.if_icmp .ge 41, 3) := by decide +kernel
theorem dX10_premium_44 : decode cX10_premium 44 = .ok (.aload_n 0, 1) := by decide +kernel
theorem dX10_premium_45 : decode cX10_premium 45 = .ok (.iload 4, 2) := by decide +kernel
theorem dX10_premium_47 : decode cX10_premium 47 = .ok (.aload_n 0, 1) := by decide +kernel
theorem dX10_premium_48 : decode cX10_premium 48 = .ok (.getfield 73, 3) := by decide +kernel
theorem dX10_premium_51 : decode cX10_premium 51 = .ok (.imul, 1) := by decide +kernel
theorem dX10_premium_52 : decode cX10_premium 52 = .ok (.invokevirtual 372, 3) := by decide +kernel
theorem dX10_premium_55 : decode cX10_premium 55 = .ok (.iload 5, 2) := by decide +kernel
theorem dX10_premium_57 : decode cX10_premium 57 = .ok (.ifCond .eq 16, 3) := by decide +kernel
theorem dX10_premium_60 : decode cX10_premium 60 = .ok (.aload_n 0, 1) := by decide +kernel
theorem dX10_premium_61 : decode cX10_premium 61 = .ok (.getfield 23, 3) := by decide +kernel
theorem dX10_premium_64 : decode cX10_premium 64 = .ok (.iconst 2, 1) := by decide +kernel
theorem dX10_premium_65 : decode cX10_premium 65 = .ok (.iaload, 1) := by decide +kernel
theorem dX10_premium_66 : decode cX10_premium 66 = .ok (.ifCond .lt 7, 3) := by decide +kernel
theorem dX10_premium_69 : decode cX10_premium 69 = .ok (.iconst 1, 1) := by decide +kernel
theorem dX10_premium_70 : decode cX10_premium 70 = .ok (.goto 4, 3) := by decide +kernel
theorem dX10_premium_73 : decode cX10_premium 73 = .ok (.iconst 0, 1) := by decide +kernel
theorem dX10_premium_74 : decode cX10_premium 74 = .ok (.istore 5, 2) := by decide +kernel
theorem dX10_premium_76 : decode cX10_premium 76 = .ok (.iinc 6 1, 3) := by decide +kernel
theorem dX10_premium_79 : decode cX10_premium 79 = .ok (.goto (-42), 3) := by decide +kernel
theorem dX10_premium_82 : decode cX10_premium 82 = .ok (.iload 5, 2) := by decide +kernel
theorem dX10_premium_84 : decode cX10_premium 84 = .ok (.ifCond .eq 8, 3) := by decide +kernel
theorem dX10_premium_87 : decode cX10_premium 87 = .ok (.iload 4, 2) := by decide +kernel
theorem dX10_premium_89 : decode cX10_premium 89 = .ok (.goto 4, 3) := by decide +kernel
theorem dX10_premium_92 : decode cX10_premium 92 = .ok (.iconst (-1), 1) := by decide +kernel
theorem dX10_premium_93 : decode cX10_premium 93 = .ok (.istore_n 3, 1) := by decide +kernel
theorem dX10_premium_94 : decode cX10_premium 94 = .ok (.aload_n 0, 1) := by decide +kernel
theorem dX10_premium_95 : decode cX10_premium 95 = .ok (.getfield 23, 3) := by decide +kernel
theorem dX10_premium_98 : decode cX10_premium 98 = .ok (.iconst 0, 1) := by decide +kernel
theorem dX10_premium_99 : decode cX10_premium 99 = .ok (.iload_n 1, 1) := by decide +kernel
theorem dX10_premium_100 : decode cX10_premium 100 = .ok (.iastore, 1) := by decide +kernel
theorem dX10_premium_101 : decode cX10_premium 101 = .ok (.aload_n 0, 1) := by decide +kernel
theorem dX10_premium_102 : decode cX10_premium 102 = .ok (.getfield 23, 3) := by decide +kernel
theorem dX10_premium_105 : decode cX10_premium 105 = .ok (.iconst 2, 1) := by decide +kernel
theorem dX10_premium_106 : decode cX10_premium 106 = .ok (.iload_n 2, 1) := by decide +kernel
theorem dX10_premium_107 : decode cX10_premium 107 = .ok (.iastore, 1) := by decide +kernel
theorem dX10_premium_108 : decode cX10_premium 108 = .ok (.iinc 4 1, 3) := by decide +kernel
theorem dX10_premium_111 : decode cX10_premium 111 = .ok (.goto (-92), 3) := by decide +kernel
theorem dX10_premium_114 : decode cX10_premium 114 = .ok (.iload_n 3, 1) := by decide +kernel
theorem dX10_premium_115 : decode cX10_premium 115 = .ok (.ireturn, 1) := by decide +kernel
theorem dX10_aloneSet_0 : decode cX10_aloneSet 0 = .ok (.iconst 0, 1) := by decide +kernel
theorem dX10_aloneSet_1 : decode cX10_aloneSet 1 = .ok (.istore_n 2, 1) := by decide +kernel
theorem dX10_aloneSet_2 : decode cX10_aloneSet 2 = .ok (.iconst 0, 1) := by decide +kernel
theorem dX10_aloneSet_3 : decode cX10_aloneSet 3 = .ok (.istore_n 3, 1) := by decide +kernel
theorem dX10_aloneSet_4 : decode cX10_aloneSet 4 = .ok (.iload_n 3, 1) := by decide +kernel
theorem dX10_aloneSet_5 : decode cX10_aloneSet 5 = .ok (.bipush 8, 2) := by decide +kernel
theorem dX10_aloneSet_7 : decode cX10_aloneSet 7 = .ok (.if_icmp .ge 75, 3) := by decide +kernel
theorem dX10_aloneSet_10 : decode cX10_aloneSet 10 = .ok (.iconst 0, 1) := by decide +kernel
theorem dX10_aloneSet_11 : decode cX10_aloneSet 11 = .ok (.istore 4, 2) := by decide +kernel
theorem dX10_aloneSet_13 : decode cX10_aloneSet 13 = .ok (.iconst 0, 1) := by decide +kernel
theorem dX10_aloneSet_14 : decode cX10_aloneSet 14 = .ok (.istore 5, 2) := by decide +kernel
theorem dX10_aloneSet_16 : decode cX10_aloneSet 16 = .ok (.iload 5, 2) := by decide +kernel
theorem dX10_aloneSet_18 : decode cX10_aloneSet 18 = .ok (.aload_n 0, 1) := by decide +kernel
theorem dX10_aloneSet_19 : decode cX10_aloneSet 19 = .ok (.getfield 73, 3) := by decide +kernel
theorem dX10_aloneSet_22 : decode cX10_aloneSet 22 = .ok (.if_icmp .ge 29, 3) := by decide +kernel
theorem dX10_aloneSet_25 : decode cX10_aloneSet 25 = .ok (.iload 4, 2) := by decide +kernel
theorem dX10_aloneSet_27 : decode cX10_aloneSet 27 = .ok (.aload_n 0, 1) := by decide +kernel
theorem dX10_aloneSet_28 : decode cX10_aloneSet 28 = .ok (.iload 5, 2) := by decide +kernel
theorem dX10_aloneSet_30 : decode cX10_aloneSet 30 = .ok (.iload_n 3, 1) := by decide +kernel
theorem dX10_aloneSet_31 : decode cX10_aloneSet 31 = .ok (.invokevirtual 133, 3) := by decide +kernel
theorem dX10_aloneSet_34 : decode cX10_aloneSet 34 = .ok (.ifCond .le 7, 3) := by decide +kernel
theorem dX10_aloneSet_37 : decode cX10_aloneSet 37 = .ok (.iconst 1, 1) := by decide +kernel
theorem dX10_aloneSet_38 : decode cX10_aloneSet 38 = .ok (.goto 4, 3) := by decide +kernel
theorem dX10_aloneSet_41 : decode cX10_aloneSet 41 = .ok (.iconst 0, 1) := by decide +kernel
theorem dX10_aloneSet_42 : decode cX10_aloneSet 42 = .ok (.iadd, 1) := by decide +kernel
theorem dX10_aloneSet_43 : decode cX10_aloneSet 43 = .ok (.istore 4, 2) := by decide +kernel
theorem dX10_aloneSet_45 : decode cX10_aloneSet 45 = .ok (.iinc 5 1, 3) := by decide +kernel
theorem dX10_aloneSet_48 : decode cX10_aloneSet 48 = .ok (.goto (-32), 3) := by decide +kernel
theorem dX10_aloneSet_51 : decode cX10_aloneSet 51 = .ok (.iload_n 2, 1) := by decide +kernel
theorem dX10_aloneSet_52 : decode cX10_aloneSet 52 = .ok (.iload 4, 2) := by decide +kernel
theorem dX10_aloneSet_54 : decode cX10_aloneSet 54 = .ok (.iconst 1, 1) := by decide +kernel
theorem dX10_aloneSet_55 : decode cX10_aloneSet 55 = .ok (.if_icmp .ne 16, 3) := by decide +kernel
theorem dX10_aloneSet_58 : decode cX10_aloneSet 58 = .ok (.aload_n 0, 1) := by decide +kernel
theorem dX10_aloneSet_59 : decode cX10_aloneSet 59 = .ok (.iload_n 1, 1) := by decide +kernel
theorem dX10_aloneSet_60 : decode cX10_aloneSet 60 = .ok (.iload_n 3, 1) := by decide +kernel
theorem dX10_aloneSet_61 : decode cX10_aloneSet 61 = .ok (.invokevirtual 133, 3) := by decide +kernel
theorem dX10_aloneSet_64 : decode cX10_aloneSet 64 = .ok (.ifCond .le 7, 3) := by decide +kernel
theorem dX10_aloneSet_67 : decode cX10_aloneSet 67 = .ok (.iconst 1, 1) := by decide +kernel
theorem dX10_aloneSet_68 : decode cX10_aloneSet 68 = .ok (.goto 4, 3) := by decide +kernel
theorem dX10_aloneSet_71 : decode cX10_aloneSet 71 = .ok (.iconst 0, 1) := by decide +kernel
theorem dX10_aloneSet_72 : decode cX10_aloneSet 72 = .ok (.iload_n 3, 1) := by decide +kernel
theorem dX10_aloneSet_73 : decode cX10_aloneSet 73 = .ok (.ishl, 1) := by decide +kernel
theorem dX10_aloneSet_74 : decode cX10_aloneSet 74 = .ok (.ior, 1) := by decide +kernel
theorem dX10_aloneSet_75 : decode cX10_aloneSet 75 = .ok (.istore_n 2, 1) := by decide +kernel
theorem dX10_aloneSet_76 : decode cX10_aloneSet 76 = .ok (.iinc 3 1, 3) := by decide +kernel
theorem dX10_aloneSet_79 : decode cX10_aloneSet 79 = .ok (.goto (-75), 3) := by decide +kernel
theorem dX10_aloneSet_82 : decode cX10_aloneSet 82 = .ok (.iload_n 2, 1) := by decide +kernel
theorem dX10_aloneSet_83 : decode cX10_aloneSet 83 = .ok (.ireturn, 1) := by decide +kernel
theorem dX10_best_0 : decode cX10_best 0 = .ok (.aload_n 0, 1) := by decide +kernel
theorem dX10_best_1 : decode cX10_best 1 = .ok (.iload_n 1, 1) := by decide +kernel
theorem dX10_best_2 : decode cX10_best 2 = .ok (.invokevirtual 86, 3) := by decide +kernel
theorem dX10_best_5 : decode cX10_best 5 = .ok (.ifCond .eq 15, 3) := by decide +kernel
theorem dX10_best_8 : decode cX10_best 8 = .ok (.iload_n 2, 1) := by decide +kernel
theorem dX10_best_9 : decode cX10_best 9 = .ok (.i2l, 1) := by decide +kernel
theorem dX10_best_10 : decode cX10_best 10 = .ok (.lconst 0, 1) := by decide +kernel
theorem dX10_best_11 : decode cX10_best 11 = .ok (.ldc2_w 378, 3) := by decide +kernel
theorem dX10_best_14 : decode cX10_best 14 = .ok (.invokestatic 76, 3) := by decide +kernel
theorem dX10_best_17 : decode cX10_best 17 = .ok (.ifCond .ne 6, 3) := by decide +kernel
theorem dX10_best_20 : decode cX10_best 20 = .ok (.ldc 104, 2) := by decide +kernel
theorem dX10_best_22 : decode cX10_best 22 = .ok (.ireturn, 1) := by decide +kernel
theorem dX10_best_23 : decode cX10_best 23 = .ok (.iload_n 2, 1) := by decide +kernel
theorem dX10_best_24 : decode cX10_best 24 = .ok (.iconst 2, 1) := by decide +kernel
theorem dX10_best_25 : decode cX10_best 25 = .ok (.if_icmp .ne 9, 3) := by decide +kernel
theorem dX10_best_28 : decode cX10_best 28 = .ok (.aload_n 0, 1) := by decide +kernel
theorem dX10_best_29 : decode cX10_best 29 = .ok (.iload_n 1, 1) := by decide +kernel
theorem dX10_best_30 : decode cX10_best 30 = .ok (.invokevirtual 399, 3) := by decide +kernel
theorem dX10_best_33 : decode cX10_best 33 = .ok (.ireturn, 1) := by decide +kernel
theorem dX10_best_34 : decode cX10_best 34 = .ok (.iconst 0, 1) := by decide +kernel
theorem dX10_best_35 : decode cX10_best 35 = .ok (.istore_n 3, 1) := by decide +kernel
theorem dX10_best_36 : decode cX10_best 36 = .ok (.iconst 1, 1) := by decide +kernel
theorem dX10_best_37 : decode cX10_best 37 = .ok (.istore 4, 2) := by decide +kernel
theorem dX10_best_39 : decode cX10_best 39 = .ok (.iload 4, 2) := by decide +kernel
theorem dX10_best_41 : decode cX10_best 41 = .ok (.bipush 8, 2) := by decide +kernel
theorem dX10_best_43 : decode cX10_best 43 = .ok (.if_icmp .ge 32, 3) := by decide +kernel
theorem dX10_best_46 : decode cX10_best 46 = .ok (.aload_n 0, 1) := by decide +kernel
theorem dX10_best_47 : decode cX10_best 47 = .ok (.iload_n 1, 1) := by decide +kernel
theorem dX10_best_48 : decode cX10_best 48 = .ok (.iload 4, 2) := by decide +kernel
theorem dX10_best_50 : decode cX10_best 50 = .ok (.invokevirtual 133, 3) := by decide +kernel
theorem dX10_best_53 : decode cX10_best 53 = .ok (.aload_n 0, 1) := by decide +kernel
theorem dX10_best_54 : decode cX10_best 54 = .ok (.iload_n 1, 1) := by decide +kernel
theorem dX10_best_55 : decode cX10_best 55 = .ok (.iload_n 3, 1) := by decide +kernel
theorem dX10_best_56 : decode cX10_best 56 = .ok (.invokevirtual 133, 3) := by decide +kernel
theorem dX10_best_59 : decode cX10_best 59 = .ok (.if_icmp .le 8, 3) := by decide +kernel
theorem dX10_best_62 : decode cX10_best 62 = .ok (.iload 4, 2) := by decide +kernel
theorem dX10_best_64 : decode cX10_best 64 = .ok (.goto 4, 3) := by decide +kernel
theorem dX10_best_67 : decode cX10_best 67 = .ok (.iload_n 3, 1) := by decide +kernel
theorem dX10_best_68 : decode cX10_best 68 = .ok (.istore_n 3, 1) := by decide +kernel
theorem dX10_best_69 : decode cX10_best 69 = .ok (.iinc 4 1, 3) := by decide +kernel
theorem dX10_best_72 : decode cX10_best 72 = .ok (.goto (-33), 3) := by decide +kernel
theorem dX10_best_75 : decode cX10_best 75 = .ok (.iload_n 2, 1) := by decide +kernel
theorem dX10_best_76 : decode cX10_best 76 = .ok (.ifCond .ne 7, 3) := by decide +kernel
theorem dX10_best_79 : decode cX10_best 79 = .ok (.iload_n 3, 1) := by decide +kernel
theorem dX10_best_80 : decode cX10_best 80 = .ok (.goto 9, 3) := by decide +kernel
theorem dX10_best_83 : decode cX10_best 83 = .ok (.aload_n 0, 1) := by decide +kernel
theorem dX10_best_84 : decode cX10_best 84 = .ok (.iload_n 1, 1) := by decide +kernel
theorem dX10_best_85 : decode cX10_best 85 = .ok (.iload_n 3, 1) := by decide +kernel
theorem dX10_best_86 : decode cX10_best 86 = .ok (.invokevirtual 133, 3) := by decide +kernel
theorem dX10_best_89 : decode cX10_best 89 = .ok (.ireturn, 1) := by decide +kernel
theorem dX10_agree_0 : decode cX10_agree 0 = .ok (.aload_n 0, 1) := by decide +kernel
theorem dX10_agree_1 : decode cX10_agree 1 = .ok (.iload_n 1, 1) := by decide +kernel
theorem dX10_agree_2 : decode cX10_agree 2 = .ok (.invokevirtual 86, 3) := by decide +kernel
theorem dX10_agree_5 : decode cX10_agree 5 = .ok (.ifCond .eq 16, 3) := by decide +kernel
theorem dX10_agree_8 : decode cX10_agree 8 = .ok (.aload_n 0, 1) := by decide +kernel
theorem dX10_agree_9 : decode cX10_agree 9 = .ok (.iload_n 2, 1) := by decide +kernel
theorem dX10_agree_10 : decode cX10_agree 10 = .ok (.invokevirtual 86, 3) := by decide +kernel
theorem dX10_agree_13 : decode cX10_agree 13 = .ok (.ifCond .eq 8, 3) := by decide +kernel
theorem dX10_agree_16 : decode cX10_agree 16 = .ok (.iload_n 1, 1) := by decide +kernel
theorem dX10_agree_17 : decode cX10_agree 17 = .ok (.iload_n 2, 1) := by decide +kernel
theorem dX10_agree_18 : decode cX10_agree 18 = .ok (.if_icmp .ne 6, 3) := by decide +kernel
theorem dX10_agree_21 : decode cX10_agree 21 = .ok (.bipush (-2), 2) := by decide +kernel
theorem dX10_agree_23 : decode cX10_agree 23 = .ok (.ireturn, 1) := by decide +kernel
theorem dX10_agree_24 : decode cX10_agree 24 = .ok (.iconst 0, 1) := by decide +kernel
theorem dX10_agree_25 : decode cX10_agree 25 = .ok (.istore_n 3, 1) := by decide +kernel
theorem dX10_agree_26 : decode cX10_agree 26 = .ok (.iconst 0, 1) := by decide +kernel
theorem dX10_agree_27 : decode cX10_agree 27 = .ok (.istore 4, 2) := by decide +kernel
theorem dX10_agree_29 : decode cX10_agree 29 = .ok (.iload 4, 2) := by decide +kernel
theorem dX10_agree_31 : decode cX10_agree 31 = .ok (.bipush 8, 2) := by decide +kernel
theorem dX10_agree_33 : decode cX10_agree 33 = .ok (.if_icmp .ge 37, 3) := by decide +kernel
theorem dX10_agree_36 : decode cX10_agree 36 = .ok (.iload_n 3, 1) := by decide +kernel
theorem dX10_agree_37 : decode cX10_agree 37 = .ok (.aload_n 0, 1) := by decide +kernel
theorem dX10_agree_38 : decode cX10_agree 38 = .ok (.iload_n 1, 1) := by decide +kernel
theorem dX10_agree_39 : decode cX10_agree 39 = .ok (.iload 4, 2) := by decide +kernel
theorem dX10_agree_41 : decode cX10_agree 41 = .ok (.invokevirtual 133, 3) := by decide +kernel
theorem dX10_agree_44 : decode cX10_agree 44 = .ok (.aload_n 0, 1) := by decide +kernel
theorem dX10_agree_45 : decode cX10_agree 45 = .ok (.iload_n 2, 1) := by decide +kernel
theorem dX10_agree_46 : decode cX10_agree 46 = .ok (.iload 4, 2) := by decide +kernel
theorem dX10_agree_48 : decode cX10_agree 48 = .ok (.invokevirtual 133, 3) := by decide +kernel
theorem dX10_agree_51 : decode cX10_agree 51 = .ok (.if_icmp .ne 7, 3) := by decide +kernel
theorem dX10_agree_54 : decode cX10_agree 54 = .ok (.iconst 1, 1) := by decide +kernel
theorem dX10_agree_55 : decode cX10_agree 55 = .ok (.goto 4, 3) := by decide +kernel
theorem dX10_agree_58 : decode cX10_agree 58 = .ok (.iconst 0, 1) := by decide +kernel
theorem dX10_agree_59 : decode cX10_agree 59 = .ok (.iload 4, 2) := by decide +kernel
theorem dX10_agree_61 : decode cX10_agree 61 = .ok (.ishl, 1) := by decide +kernel
theorem dX10_agree_62 : decode cX10_agree 62 = .ok (.ior, 1) := by decide +kernel
theorem dX10_agree_63 : decode cX10_agree 63 = .ok (.istore_n 3, 1) := by decide +kernel
theorem dX10_agree_64 : decode cX10_agree 64 = .ok (.iinc 4 1, 3) := by decide +kernel
theorem dX10_agree_67 : decode cX10_agree 67 = .ok (.goto (-38), 3) := by decide +kernel
theorem dX10_agree_70 : decode cX10_agree 70 = .ok (.iload_n 3, 1) := by decide +kernel
theorem dX10_agree_71 : decode cX10_agree 71 = .ok (.ireturn, 1) := by decide +kernel
theorem dX10_firstOther_0 : decode cX10_firstOther 0 = .ok (.iconst 0, 1) := by decide +kernel
theorem dX10_firstOther_1 : decode cX10_firstOther 1 = .ok (.istore_n 3, 1) := by decide +kernel
theorem dX10_firstOther_2 : decode cX10_firstOther 2 = .ok (.iload_n 3, 1) := by decide +kernel
theorem dX10_firstOther_3 : decode cX10_firstOther 3 = .ok (.bipush 8, 2) := by decide +kernel
theorem dX10_firstOther_5 : decode cX10_firstOther 5 = .ok (.if_icmp .ge 31, 3) := by decide +kernel
theorem dX10_firstOther_8 : decode cX10_firstOther 8 = .ok (.aload_n 0, 1) := by decide +kernel
theorem dX10_firstOther_9 : decode cX10_firstOther 9 = .ok (.iload_n 2, 1) := by decide +kernel
theorem dX10_firstOther_10 : decode cX10_firstOther 10 = .ok (.iload_n 3, 1) := by decide +kernel
theorem dX10_firstOther_11 : decode cX10_firstOther 11 = .ok (.invokevirtual 133, 3) := by decide +kernel
theorem dX10_firstOther_14 : decode cX10_firstOther 14 = .ok (.aload_n 0, 1) := by decide +kernel
theorem dX10_firstOther_15 : decode cX10_firstOther 15 = .ok (.getfield 63, 3) := by decide +kernel
theorem dX10_firstOther_18 : decode cX10_firstOther 18 = .ok (.bipush 40, 2) := by decide +kernel
theorem dX10_firstOther_20 : decode cX10_firstOther 20 = .ok (.iload_n 1, 1) := by decide +kernel
theorem dX10_firstOther_21 : decode cX10_firstOther 21 = .ok (.imul, 1) := by decide +kernel
theorem dX10_firstOther_22 : decode cX10_firstOther 22 = .ok (.iload_n 3, 1) := by decide +kernel
theorem dX10_firstOther_23 : decode cX10_firstOther 23 = .ok (.iadd, 1) := by decide +kernel
theorem dX10_firstOther_24 : decode cX10_firstOther 24 = .ok (.iaload, 1) := by decide +kernel
theorem dX10_firstOther_25 : decode cX10_firstOther 25 = .ok (.if_icmp .eq 5, 3) := by decide +kernel
theorem dX10_firstOther_28 : decode cX10_firstOther 28 = .ok (.iload_n 3, 1) := by decide +kernel
theorem dX10_firstOther_29 : decode cX10_firstOther 29 = .ok (.ireturn, 1) := by decide +kernel
theorem dX10_firstOther_30 : decode cX10_firstOther 30 = .ok (.iinc 3 1, 3) := by decide +kernel
theorem dX10_firstOther_33 : decode cX10_firstOther 33 = .ok (.goto (-31), 3) := by decide +kernel
theorem dX10_firstOther_36 : decode cX10_firstOther 36 = .ok (.iconst (-1), 1) := by decide +kernel
theorem dX10_firstOther_37 : decode cX10_firstOther 37 = .ok (.ireturn, 1) := by decide +kernel
theorem dX10_likeSet_0 : decode cX10_likeSet 0 = .ok (.iconst 0, 1) := by decide +kernel
theorem dX10_likeSet_1 : decode cX10_likeSet 1 = .ok (.istore_n 2, 1) := by decide +kernel
theorem dX10_likeSet_2 : decode cX10_likeSet 2 = .ok (.iconst 0, 1) := by decide +kernel
theorem dX10_likeSet_3 : decode cX10_likeSet 3 = .ok (.istore_n 3, 1) := by decide +kernel
theorem dX10_likeSet_4 : decode cX10_likeSet 4 = .ok (.iload_n 3, 1) := by decide +kernel
theorem dX10_likeSet_5 : decode cX10_likeSet 5 = .ok (.aload_n 0, 1) := by decide +kernel
theorem dX10_likeSet_6 : decode cX10_likeSet 6 = .ok (.getfield 73, 3) := by decide +kernel
theorem dX10_likeSet_9 : decode cX10_likeSet 9 = .ok (.if_icmp .ge 29, 3) := by decide +kernel
theorem dX10_likeSet_12 : decode cX10_likeSet 12 = .ok (.iload_n 2, 1) := by decide +kernel
theorem dX10_likeSet_13 : decode cX10_likeSet 13 = .ok (.aload_n 0, 1) := by decide +kernel
theorem dX10_likeSet_14 : decode cX10_likeSet 14 = .ok (.iload_n 1, 1) := by decide +kernel
theorem dX10_likeSet_15 : decode cX10_likeSet 15 = .ok (.iload_n 3, 1) := by decide +kernel
theorem dX10_likeSet_16 : decode cX10_likeSet 16 = .ok (.invokevirtual 402, 3) := by decide +kernel
theorem dX10_likeSet_19 : decode cX10_likeSet 19 = .ok (.iconst (-1), 1) := by decide +kernel
theorem dX10_likeSet_20 : decode cX10_likeSet 20 = .ok (.if_icmp .ne 7, 3) := by decide +kernel
theorem dX10_likeSet_23 : decode cX10_likeSet 23 = .ok (.iconst 1, 1) := by decide +kernel
theorem dX10_likeSet_24 : decode cX10_likeSet 24 = .ok (.goto 4, 3) := by decide +kernel
theorem dX10_likeSet_27 : decode cX10_likeSet 27 = .ok (.iconst 0, 1) := by decide +kernel
theorem dX10_likeSet_28 : decode cX10_likeSet 28 = .ok (.iload_n 3, 1) := by decide +kernel
theorem dX10_likeSet_29 : decode cX10_likeSet 29 = .ok (.ishl, 1) := by decide +kernel
theorem dX10_likeSet_30 : decode cX10_likeSet 30 = .ok (.ior, 1) := by decide +kernel
theorem dX10_likeSet_31 : decode cX10_likeSet 31 = .ok (.istore_n 2, 1) := by decide +kernel
theorem dX10_likeSet_32 : decode cX10_likeSet 32 = .ok (.iinc 3 1, 3) := by decide +kernel
theorem dX10_likeSet_35 : decode cX10_likeSet 35 = .ok (.goto (-31), 3) := by decide +kernel
theorem dX10_likeSet_38 : decode cX10_likeSet 38 = .ok (.iload_n 2, 1) := by decide +kernel
theorem dX10_likeSet_39 : decode cX10_likeSet 39 = .ok (.ireturn, 1) := by decide +kernel
theorem dX10_tells_0 : decode cX10_tells 0 = .ok (.iload_n 1, 1) := by decide +kernel
theorem dX10_tells_1 : decode cX10_tells 1 = .ok (.invokestatic 405, 3) := by decide +kernel
theorem dX10_tells_4 : decode cX10_tells 4 = .ok (.ifCond .eq 37, 3) := by decide +kernel
theorem dX10_tells_7 : decode cX10_tells 7 = .ok (.aload_n 0, 1) := by decide +kernel
theorem dX10_tells_8 : decode cX10_tells 8 = .ok (.iload_n 2, 1) := by decide +kernel
theorem dX10_tells_9 : decode cX10_tells 9 = .ok (.invokevirtual 86, 3) := by decide +kernel
theorem dX10_tells_12 : decode cX10_tells 12 = .ok (.ifCond .eq 29, 3) := by decide +kernel
theorem dX10_tells_15 : decode cX10_tells 15 = .ok (.iload_n 3, 1) := by decide +kernel
theorem dX10_tells_16 : decode cX10_tells 16 = .ok (.i2l, 1) := by decide +kernel
theorem dX10_tells_17 : decode cX10_tells 17 = .ok (.lconst 0, 1) := by decide +kernel
theorem dX10_tells_18 : decode cX10_tells 18 = .ok (.ldc2_w 408, 3) := by decide +kernel
theorem dX10_tells_21 : decode cX10_tells 21 = .ok (.invokestatic 76, 3) := by decide +kernel
theorem dX10_tells_24 : decode cX10_tells 24 = .ok (.ifCond .ne 20, 3) := by decide +kernel
theorem dX10_tells_27 : decode cX10_tells 27 = .ok (.iload_n 3, 1) := by decide +kernel
theorem dX10_tells_28 : decode cX10_tells 28 = .ok (.i2l, 1) := by decide +kernel
theorem dX10_tells_29 : decode cX10_tells 29 = .ok (.ldc2_w 186, 3) := by decide +kernel
theorem dX10_tells_32 : decode cX10_tells 32 = .ok (.ldc2_w 410, 3) := by decide +kernel
theorem dX10_tells_35 : decode cX10_tells 35 = .ok (.invokestatic 76, 3) := by decide +kernel
theorem dX10_tells_38 : decode cX10_tells 38 = .ok (.ifCond .ne 6, 3) := by decide +kernel
theorem dX10_tells_41 : decode cX10_tells 41 = .ok (.bipush (-2), 2) := by decide +kernel
theorem dX10_tells_43 : decode cX10_tells 43 = .ok (.ireturn, 1) := by decide +kernel
theorem dX10_tells_44 : decode cX10_tells 44 = .ok (.aload_n 0, 1) := by decide +kernel
theorem dX10_tells_45 : decode cX10_tells 45 = .ok (.getfield 53, 3) := by decide +kernel
theorem dX10_tells_48 : decode cX10_tells 48 = .ok (.iload_n 1, 1) := by decide +kernel
theorem dX10_tells_49 : decode cX10_tells 49 = .ok (.baload, 1) := by decide +kernel
theorem dX10_tells_50 : decode cX10_tells 50 = .ok (.ifCond .ne 6, 3) := by decide +kernel
theorem dX10_tells_53 : decode cX10_tells 53 = .ok (.bipush (-11), 2) := by decide +kernel
theorem dX10_tells_55 : decode cX10_tells 55 = .ok (.ireturn, 1) := by decide +kernel
theorem dX10_tells_56 : decode cX10_tells 56 = .ok (.aload_n 0, 1) := by decide +kernel
theorem dX10_tells_57 : decode cX10_tells 57 = .ok (.getfield 60, 3) := by decide +kernel
theorem dX10_tells_60 : decode cX10_tells 60 = .ok (.iload_n 1, 1) := by decide +kernel
theorem dX10_tells_61 : decode cX10_tells 61 = .ok (.iaload, 1) := by decide +kernel
theorem dX10_tells_62 : decode cX10_tells 62 = .ok (.bipush 8, 2) := by decide +kernel
theorem dX10_tells_64 : decode cX10_tells 64 = .ok (.if_icmp .eq 6, 3) := by decide +kernel
theorem dX10_tells_67 : decode cX10_tells 67 = .ok (.bipush (-2), 2) := by decide +kernel
theorem dX10_tells_69 : decode cX10_tells 69 = .ok (.ireturn, 1) := by decide +kernel
theorem dX10_tells_70 : decode cX10_tells 70 = .ok (.iload_n 3, 1) := by decide +kernel
theorem dX10_tells_71 : decode cX10_tells 71 = .ok (.ifCond .eq 9, 3) := by decide +kernel
theorem dX10_tells_74 : decode cX10_tells 74 = .ok (.iload_n 3, 1) := by decide +kernel
theorem dX10_tells_75 : decode cX10_tells 75 = .ok (.bipush 8, 2) := by decide +kernel
theorem dX10_tells_77 : decode cX10_tells 77 = .ok (.if_icmp .ne 22, 3) := by decide +kernel
theorem dX10_tells_80 : decode cX10_tells 80 = .ok (.iload_n 3, 1) := by decide +kernel
theorem dX10_tells_81 : decode cX10_tells 81 = .ok (.ifCond .ne 12, 3) := by decide +kernel
theorem dX10_tells_84 : decode cX10_tells 84 = .ok (.aload_n 0, 1) := by decide +kernel
theorem dX10_tells_85 : decode cX10_tells 85 = .ok (.iload_n 1, 1) := by decide +kernel
theorem dX10_tells_86 : decode cX10_tells 86 = .ok (.iload_n 2, 1) := by decide +kernel
theorem dX10_tells_87 : decode cX10_tells 87 = .ok (.invokevirtual 402, 3) := by decide +kernel
theorem dX10_tells_90 : decode cX10_tells 90 = .ok (.goto 8, 3) := by decide +kernel
theorem dX10_tells_93 : decode cX10_tells 93 = .ok (.aload_n 0, 1) := by decide +kernel
theorem dX10_tells_94 : decode cX10_tells 94 = .ok (.iload_n 1, 1) := by decide +kernel
theorem dX10_tells_95 : decode cX10_tells 95 = .ok (.invokevirtual 412, 3) := by decide +kernel
theorem dX10_tells_98 : decode cX10_tells 98 = .ok (.ireturn, 1) := by decide +kernel
theorem dX10_tells_99 : decode cX10_tells 99 = .ok (.iload_n 3, 1) := by decide +kernel
theorem dX10_tells_100 : decode cX10_tells 100 = .ok (.iconst 1, 1) := by decide +kernel
theorem dX10_tells_101 : decode cX10_tells 101 = .ok (.if_icmp .ne 8, 3) := by decide +kernel
theorem dX10_tells_104 : decode cX10_tells 104 = .ok (.bipush 7, 2) := by decide +kernel
theorem dX10_tells_106 : decode cX10_tells 106 = .ok (.goto 44, 3) := by decide +kernel
theorem dX10_tells_109 : decode cX10_tells 109 = .ok (.iload_n 3, 1) := by decide +kernel
theorem dX10_tells_110 : decode cX10_tells 110 = .ok (.iconst 2, 1) := by decide +kernel
theorem dX10_tells_111 : decode cX10_tells 111 = .ok (.if_icmp .ne 7, 3) := by decide +kernel
theorem dX10_tells_114 : decode cX10_tells 114 = .ok (.iconst 5, 1) := by decide +kernel
theorem dX10_tells_115 : decode cX10_tells 115 = .ok (.goto 35, 3) := by decide +kernel
theorem dX10_tells_118 : decode cX10_tells 118 = .ok (.iload_n 3, 1) := by decide +kernel
theorem dX10_tells_119 : decode cX10_tells 119 = .ok (.iconst 5, 1) := by decide +kernel
theorem dX10_tells_120 : decode cX10_tells 120 = .ok (.if_icmp .ge 7, 3) := by decide +kernel
theorem dX10_tells_123 : decode cX10_tells 123 = .ok (.iconst 0, 1) := by decide +kernel
theorem dX10_tells_124 : decode cX10_tells 124 = .ok (.goto 26, 3) := by decide +kernel
theorem dX10_tells_127 : decode cX10_tells 127 = .ok (.iload_n 3, 1) := by decide +kernel
theorem dX10_tells_128 : decode cX10_tells 128 = .ok (.bipush 7, 2) := by decide +kernel
theorem dX10_tells_130 : decode cX10_tells 130 = .ok (.if_icmp .ge 8, 3) := by decide +kernel
theorem dX10_tells_133 : decode cX10_tells 133 = .ok (.bipush 9, 2) := by decide +kernel
theorem dX10_tells_135 : decode cX10_tells 135 = .ok (.goto 15, 3) := by decide +kernel
theorem dX10_tells_138 : decode cX10_tells 138 = .ok (.iload_n 3, 1) := by decide +kernel
theorem dX10_tells_139 : decode cX10_tells 139 = .ok (.bipush 7, 2) := by decide +kernel
theorem dX10_tells_141 : decode cX10_tells 141 = .ok (.if_icmp .ne 8, 3) := by decide +kernel
theorem dX10_tells_144 : decode cX10_tells 144 = .ok (.bipush 8, 2) := by decide +kernel
theorem dX10_tells_146 : decode cX10_tells 146 = .ok (.goto 4, 3) := by decide +kernel
theorem dX10_tells_149 : decode cX10_tells 149 = .ok (.iconst 3, 1) := by decide +kernel
theorem dX10_tells_150 : decode cX10_tells 150 = .ok (.istore 4, 2) := by decide +kernel
theorem dX10_tells_152 : decode cX10_tells 152 = .ok (.iload 4, 2) := by decide +kernel
theorem dX10_tells_154 : decode cX10_tells 154 = .ok (.iconst 3, 1) := by decide +kernel
theorem dX10_tells_155 : decode cX10_tells 155 = .ok (.if_icmp .ne 10, 3) := by decide +kernel
theorem dX10_tells_158 : decode cX10_tells 158 = .ok (.iload_n 3, 1) := by decide +kernel
theorem dX10_tells_159 : decode cX10_tells 159 = .ok (.bipush 10, 2) := by decide +kernel
theorem dX10_tells_161 : decode cX10_tells 161 = .ok (.isub, 1) := by decide +kernel
theorem dX10_tells_162 : decode cX10_tells 162 = .ok (.goto 4, 3) := by decide +kernel
theorem dX10_tells_165 : decode cX10_tells 165 = .ok (.iload_n 2, 1) := by decide +kernel
theorem dX10_tells_166 : decode cX10_tells 166 = .ok (.istore 5, 2) := by decide +kernel
theorem dX10_tells_168 : decode cX10_tells 168 = .ok (.iload 4, 2) := by decide +kernel
theorem dX10_tells_170 : decode cX10_tells 170 = .ok (.bipush 9, 2) := by decide +kernel
theorem dX10_tells_172 : decode cX10_tells 172 = .ok (.if_icmp .ne 10, 3) := by decide +kernel
theorem dX10_tells_175 : decode cX10_tells 175 = .ok (.aload_n 0, 1) := by decide +kernel
theorem dX10_tells_176 : decode cX10_tells 176 = .ok (.getfield 113, 3) := by decide +kernel
theorem dX10_tells_179 : decode cX10_tells 179 = .ok (.goto 25, 3) := by decide +kernel
theorem dX10_tells_182 : decode cX10_tells 182 = .ok (.iload 4, 2) := by decide +kernel
theorem dX10_tells_184 : decode cX10_tells 184 = .ok (.bipush 8, 2) := by decide +kernel
theorem dX10_tells_186 : decode cX10_tells 186 = .ok (.if_icmp .ne 10, 3) := by decide +kernel
theorem dX10_tells_189 : decode cX10_tells 189 = .ok (.aload_n 0, 1) := by decide +kernel
theorem dX10_tells_190 : decode cX10_tells 190 = .ok (.getfield 116, 3) := by decide +kernel
theorem dX10_tells_193 : decode cX10_tells 193 = .ok (.goto 11, 3) := by decide +kernel
theorem dX10_tells_196 : decode cX10_tells 196 = .ok (.aload_n 0, 1) := by decide +kernel
theorem dX10_tells_197 : decode cX10_tells 197 = .ok (.iload 5, 2) := by decide +kernel
theorem dX10_tells_199 : decode cX10_tells 199 = .ok (.iload 4, 2) := by decide +kernel
theorem dX10_tells_201 : decode cX10_tells 201 = .ok (.invokevirtual 105, 3) := by decide +kernel
theorem dX10_tells_204 : decode cX10_tells 204 = .ok (.istore 6, 2) := by decide +kernel
theorem dX10_tells_206 : decode cX10_tells 206 = .ok (.iload 4, 2) := by decide +kernel
theorem dX10_tells_208 : decode cX10_tells 208 = .ok (.bipush 9, 2) := by decide +kernel
theorem dX10_tells_210 : decode cX10_tells 210 = .ok (.if_icmp .ne 9, 3) := by decide +kernel
theorem dX10_tells_213 : decode cX10_tells 213 = .ok (.sipush 255, 3) := by decide +kernel
theorem dX10_tells_216 : decode cX10_tells 216 = .ok (.goto 35, 3) := by decide +kernel
theorem dX10_tells_219 : decode cX10_tells 219 = .ok (.iload 4, 2) := by decide +kernel
theorem dX10_tells_221 : decode cX10_tells 221 = .ok (.bipush 8, 2) := by decide +kernel
theorem dX10_tells_223 : decode cX10_tells 223 = .ok (.if_icmp .ne 12, 3) := by decide +kernel
theorem dX10_tells_226 : decode cX10_tells 226 = .ok (.aload_n 0, 1) := by decide +kernel
theorem dX10_tells_227 : decode cX10_tells 227 = .ok (.getfield 70, 3) := by decide +kernel
theorem dX10_tells_230 : decode cX10_tells 230 = .ok (.iconst 1, 1) := by decide +kernel
theorem dX10_tells_231 : decode cX10_tells 231 = .ok (.isub, 1) := by decide +kernel
theorem dX10_tells_232 : decode cX10_tells 232 = .ok (.goto 19, 3) := by decide +kernel
theorem dX10_tells_235 : decode cX10_tells 235 = .ok (.iload 4, 2) := by decide +kernel
theorem dX10_tells_237 : decode cX10_tells 237 = .ok (.bipush 7, 2) := by decide +kernel
theorem dX10_tells_239 : decode cX10_tells 239 = .ok (.if_icmp .ne 7, 3) := by decide +kernel
theorem dX10_tells_242 : decode cX10_tells 242 = .ok (.iconst 5, 1) := by decide +kernel
theorem dX10_tells_243 : decode cX10_tells 243 = .ok (.goto 8, 3) := by decide +kernel
theorem dX10_tells_246 : decode cX10_tells 246 = .ok (.iload 4, 2) := by decide +kernel
theorem dX10_tells_248 : decode cX10_tells 248 = .ok (.invokestatic 101, 3) := by decide +kernel
theorem dX10_tells_251 : decode cX10_tells 251 = .ok (.istore 7, 2) := by decide +kernel
theorem dX10_tells_253 : decode cX10_tells 253 = .ok (.iload 4, 2) := by decide +kernel
theorem dX10_tells_255 : decode cX10_tells 255 = .ok (.invokestatic 97, 3) := by decide +kernel
theorem dX10_tells_258 : decode cX10_tells 258 = .ok (.istore 8, 2) := by decide +kernel
theorem dX10_tells_260 : decode cX10_tells 260 = .ok (.iconst 0, 1) := by decide +kernel
theorem dX10_tells_261 : decode cX10_tells 261 = .ok (.istore 9, 2) := by decide +kernel
theorem dX10_tells_263 : decode cX10_tells 263 = .ok (.iconst 0, 1) := by decide +kernel
theorem dX10_tells_264 : decode cX10_tells 264 = .ok (.istore 10, 2) := by decide +kernel
theorem dX10_tells_266 : decode cX10_tells 266 = .ok (.iconst (-1), 1) := by decide +kernel
theorem dX10_tells_267 : decode cX10_tells 267 = .ok (.istore 11, 2) := by decide +kernel
theorem dX10_tells_269 : decode cX10_tells 269 = .ok (.iload 7, 2) := by decide +kernel
theorem dX10_tells_271 : decode cX10_tells 271 = .ok (.istore 12, 2) := by decide +kernel
theorem dX10_tells_273 : decode cX10_tells 273 = .ok (.iload 12, 2) := by decide +kernel
theorem dX10_tells_275 : decode cX10_tells 275 = .ok (.iload 8, 2) := by decide +kernel
theorem dX10_tells_277 : decode cX10_tells 277 = .ok (.if_icmp .lt 62, 3) := by decide +kernel
theorem dX10_tells_280 : decode cX10_tells 280 = .ok (.aload_n 0, 1) := by decide +kernel
theorem dX10_tells_281 : decode cX10_tells 281 = .ok (.iload 4, 2) := by decide +kernel
theorem dX10_tells_283 : decode cX10_tells 283 = .ok (.iload 5, 2) := by decide +kernel
theorem dX10_tells_285 : decode cX10_tells 285 = .ok (.iload 12, 2) := by decide +kernel
theorem dX10_tells_287 : decode cX10_tells 287 = .ok (.invokevirtual 109, 3) := by decide +kernel
theorem dX10_tells_290 : decode cX10_tells 290 = .ok (.aload_n 0, 1) := by decide +kernel
theorem dX10_tells_291 : decode cX10_tells 291 = .ok (.iload_n 1, 1) := by decide +kernel
theorem dX10_tells_292 : decode cX10_tells 292 = .ok (.iload_n 2, 1) := by decide +kernel
theorem dX10_tells_293 : decode cX10_tells 293 = .ok (.invokevirtual 402, 3) := by decide +kernel
theorem dX10_tells_296 : decode cX10_tells 296 = .ok (.iconst (-1), 1) := by decide +kernel
theorem dX10_tells_297 : decode cX10_tells 297 = .ok (.if_icmp .ne 36, 3) := by decide +kernel
theorem dX10_tells_300 : decode cX10_tells 300 = .ok (.iload 9, 2) := by decide +kernel
theorem dX10_tells_302 : decode cX10_tells 302 = .ok (.iload 12, 2) := by decide +kernel
theorem dX10_tells_304 : decode cX10_tells 304 = .ok (.iload 8, 2) := by decide +kernel
theorem dX10_tells_306 : decode cX10_tells 306 = .ok (.isub, 1) := by decide +kernel
theorem dX10_tells_307 : decode cX10_tells 307 = .ok (.bipush 20, 2) := by decide +kernel
theorem dX10_tells_309 : decode cX10_tells 309 = .ok (.if_icmp .ge 13, 3) := by decide +kernel
theorem dX10_tells_312 : decode cX10_tells 312 = .ok (.iconst 1, 1) := by decide +kernel
theorem dX10_tells_313 : decode cX10_tells 313 = .ok (.iload 12, 2) := by decide +kernel
theorem dX10_tells_315 : decode cX10_tells 315 = .ok (.iload 8, 2) := by decide +kernel
theorem dX10_tells_317 : decode cX10_tells 317 = .ok (.isub, 1) := by decide +kernel
theorem dX10_tells_318 : decode cX10_tells 318 = .ok (.ishl, 1) := by decide +kernel
theorem dX10_tells_319 : decode cX10_tells 319 = .ok (.goto 4, 3) := by decide +kernel
theorem dX10_tells_322 : decode cX10_tells 322 = .ok (.iconst 0, 1) := by decide +kernel
theorem dX10_tells_323 : decode cX10_tells 323 = .ok (.ior, 1) := by decide +kernel
theorem dX10_tells_324 : decode cX10_tells 324 = .ok (.istore 9, 2) := by decide +kernel
theorem dX10_tells_326 : decode cX10_tells 326 = .ok (.iinc 10 1, 3) := by decide +kernel
theorem dX10_tells_329 : decode cX10_tells 329 = .ok (.iload 12, 2) := by decide +kernel
theorem dX10_tells_331 : decode cX10_tells 331 = .ok (.istore 11, 2) := by decide +kernel
theorem dX10_tells_333 : decode cX10_tells 333 = .ok (.iinc 12 (-1), 3) := by decide +kernel
theorem dX10_tells_336 : decode cX10_tells 336 = .ok (.goto (-63), 3) := by decide +kernel
theorem dX10_tells_339 : decode cX10_tells 339 = .ok (.aload_n 0, 1) := by decide +kernel
theorem dX10_tells_340 : decode cX10_tells 340 = .ok (.iload 4, 2) := by decide +kernel
theorem dX10_tells_342 : decode cX10_tells 342 = .ok (.iload 5, 2) := by decide +kernel
theorem dX10_tells_344 : decode cX10_tells 344 = .ok (.iload 6, 2) := by decide +kernel
theorem dX10_tells_346 : decode cX10_tells 346 = .ok (.invokevirtual 109, 3) := by decide +kernel
theorem dX10_tells_349 : decode cX10_tells 349 = .ok (.iload_n 3, 1) := by decide +kernel
theorem dX10_tells_350 : decode cX10_tells 350 = .ok (.iconst 3, 1) := by decide +kernel
theorem dX10_tells_351 : decode cX10_tells 351 = .ok (.if_icmp .eq 8, 3) := by decide +kernel
theorem dX10_tells_354 : decode cX10_tells 354 = .ok (.iload_n 3, 1) := by decide +kernel
theorem dX10_tells_355 : decode cX10_tells 355 = .ok (.iconst 5, 1) := by decide +kernel
theorem dX10_tells_356 : decode cX10_tells 356 = .ok (.if_icmp .ne 8, 3) := by decide +kernel
theorem dX10_tells_359 : decode cX10_tells 359 = .ok (.iload 10, 2) := by decide +kernel
theorem dX10_tells_361 : decode cX10_tells 361 = .ok (.goto 21, 3) := by decide +kernel
theorem dX10_tells_364 : decode cX10_tells 364 = .ok (.iload_n 3, 1) := by decide +kernel
theorem dX10_tells_365 : decode cX10_tells 365 = .ok (.iconst 4, 1) := by decide +kernel
theorem dX10_tells_366 : decode cX10_tells 366 = .ok (.if_icmp .eq 9, 3) := by decide +kernel
theorem dX10_tells_369 : decode cX10_tells 369 = .ok (.iload_n 3, 1) := by decide +kernel
theorem dX10_tells_370 : decode cX10_tells 370 = .ok (.bipush 6, 2) := by decide +kernel
theorem dX10_tells_372 : decode cX10_tells 372 = .ok (.if_icmp .ne 8, 3) := by decide +kernel
theorem dX10_tells_375 : decode cX10_tells 375 = .ok (.iload 11, 2) := by decide +kernel
theorem dX10_tells_377 : decode cX10_tells 377 = .ok (.goto 5, 3) := by decide +kernel
theorem dX10_tells_380 : decode cX10_tells 380 = .ok (.iload 9, 2) := by decide +kernel
theorem dX10_tells_382 : decode cX10_tells 382 = .ok (.ireturn, 1) := by decide +kernel
theorem dX10_film_0 : decode cX10_film 0 = .ok (.iload_n 1, 1) := by decide +kernel
theorem dX10_film_1 : decode cX10_film 1 = .ok (.invokestatic 405, 3) := by decide +kernel
theorem dX10_film_4 : decode cX10_film 4 = .ok (.ifCond .eq 11, 3) := by decide +kernel
theorem dX10_film_7 : decode cX10_film 7 = .ok (.aload_n 0, 1) := by decide +kernel
theorem dX10_film_8 : decode cX10_film 8 = .ok (.iload_n 2, 1) := by decide +kernel
theorem dX10_film_9 : decode cX10_film 9 = .ok (.invokevirtual 86, 3) := by decide +kernel
theorem dX10_film_12 : decode cX10_film 12 = .ok (.ifCond .ne 6, 3) := by decide +kernel
theorem dX10_film_15 : decode cX10_film 15 = .ok (.ldc 104, 2) := by decide +kernel
theorem dX10_film_17 : decode cX10_film 17 = .ok (.ireturn, 1) := by decide +kernel
theorem dX10_film_18 : decode cX10_film 18 = .ok (.aload_n 0, 1) := by decide +kernel
theorem dX10_film_19 : decode cX10_film 19 = .ok (.iload_n 1, 1) := by decide +kernel
theorem dX10_film_20 : decode cX10_film 20 = .ok (.iconst 0, 1) := by decide +kernel
theorem dX10_film_21 : decode cX10_film 21 = .ok (.bipush 8, 2) := by decide +kernel
theorem dX10_film_23 : decode cX10_film 23 = .ok (.invokevirtual 415, 3) := by decide +kernel
theorem dX10_film_26 : decode cX10_film 26 = .ok (.pop, 1) := by decide +kernel
theorem dX10_film_27 : decode cX10_film 27 = .ok (.iconst 0, 1) := by decide +kernel
theorem dX10_film_28 : decode cX10_film 28 = .ok (.istore_n 3, 1) := by decide +kernel
theorem dX10_film_29 : decode cX10_film 29 = .ok (.iload_n 3, 1) := by decide +kernel
theorem dX10_film_30 : decode cX10_film 30 = .ok (.bipush 8, 2) := by decide +kernel
theorem dX10_film_32 : decode cX10_film 32 = .ok (.if_icmp .ge 26, 3) := by decide +kernel
theorem dX10_film_35 : decode cX10_film 35 = .ok (.aload_n 0, 1) := by decide +kernel
theorem dX10_film_36 : decode cX10_film 36 = .ok (.getfield 63, 3) := by decide +kernel
theorem dX10_film_39 : decode cX10_film 39 = .ok (.bipush 40, 2) := by decide +kernel
theorem dX10_film_41 : decode cX10_film 41 = .ok (.iload_n 1, 1) := by decide +kernel
theorem dX10_film_42 : decode cX10_film 42 = .ok (.imul, 1) := by decide +kernel
theorem dX10_film_43 : decode cX10_film 43 = .ok (.iload_n 3, 1) := by decide +kernel
theorem dX10_film_44 : decode cX10_film 44 = .ok (.iadd, 1) := by decide +kernel
theorem dX10_film_45 : decode cX10_film 45 = .ok (.aload_n 0, 1) := by decide +kernel
theorem dX10_film_46 : decode cX10_film 46 = .ok (.iload_n 2, 1) := by decide +kernel
theorem dX10_film_47 : decode cX10_film 47 = .ok (.iload_n 3, 1) := by decide +kernel
theorem dX10_film_48 : decode cX10_film 48 = .ok (.invokevirtual 133, 3) := by decide +kernel
theorem dX10_film_51 : decode cX10_film 51 = .ok (.iastore, 1) := by decide +kernel
theorem dX10_film_52 : decode cX10_film 52 = .ok (.iinc 3 1, 3) := by decide +kernel
theorem dX10_film_55 : decode cX10_film 55 = .ok (.goto (-26), 3) := by decide +kernel
theorem dX10_film_58 : decode cX10_film 58 = .ok (.aload_n 0, 1) := by decide +kernel
theorem dX10_film_59 : decode cX10_film 59 = .ok (.iload_n 2, 1) := by decide +kernel
theorem dX10_film_60 : decode cX10_film 60 = .ok (.invokevirtual 139, 3) := by decide +kernel
theorem dX10_film_63 : decode cX10_film 63 = .ok (.ireturn, 1) := by decide +kernel
theorem dX10_hazyDrawn_0 : decode cX10_hazyDrawn 0 = .ok (.iload_n 1, 1) := by decide +kernel
theorem dX10_hazyDrawn_1 : decode cX10_hazyDrawn 1 = .ok (.istore_n 2, 1) := by decide +kernel
theorem dX10_hazyDrawn_2 : decode cX10_hazyDrawn 2 = .ok (.iconst 0, 1) := by decide +kernel
theorem dX10_hazyDrawn_3 : decode cX10_hazyDrawn 3 = .ok (.istore_n 3, 1) := by decide +kernel
theorem dX10_hazyDrawn_4 : decode cX10_hazyDrawn 4 = .ok (.iload_n 3, 1) := by decide +kernel
theorem dX10_hazyDrawn_5 : decode cX10_hazyDrawn 5 = .ok (.bipush 8, 2) := by decide +kernel
theorem dX10_hazyDrawn_7 : decode cX10_hazyDrawn 7 = .ok (.if_icmp .ge 47, 3) := by decide +kernel
theorem dX10_hazyDrawn_10 : decode cX10_hazyDrawn 10 = .ok (.aload_n 0, 1) := by decide +kernel
theorem dX10_hazyDrawn_11 : decode cX10_hazyDrawn 11 = .ok (.getfield 38, 3) := by decide +kernel
theorem dX10_hazyDrawn_14 : decode cX10_hazyDrawn 14 = .ok (.iload_n 3, 1) := by decide +kernel
theorem dX10_hazyDrawn_15 : decode cX10_hazyDrawn 15 = .ok (.aload_n 0, 1) := by decide +kernel
theorem dX10_hazyDrawn_16 : decode cX10_hazyDrawn 16 = .ok (.getfield 26, 3) := by decide +kernel
theorem dX10_hazyDrawn_19 : decode cX10_hazyDrawn 19 = .ok (.iload_n 3, 1) := by decide +kernel
theorem dX10_hazyDrawn_20 : decode cX10_hazyDrawn 20 = .ok (.iaload, 1) := by decide +kernel
theorem dX10_hazyDrawn_21 : decode cX10_hazyDrawn 21 = .ok (.iastore, 1) := by decide +kernel
theorem dX10_hazyDrawn_22 : decode cX10_hazyDrawn 22 = .ok (.iload_n 2, 1) := by decide +kernel
theorem dX10_hazyDrawn_23 : decode cX10_hazyDrawn 23 = .ok (.ldc_w 418, 3) := by decide +kernel
theorem dX10_hazyDrawn_26 : decode cX10_hazyDrawn 26 = .ok (.imul, 1) := by decide +kernel
theorem dX10_hazyDrawn_27 : decode cX10_hazyDrawn 27 = .ok (.sipush 12345, 3) := by decide +kernel
theorem dX10_hazyDrawn_30 : decode cX10_hazyDrawn 30 = .ok (.iadd, 1) := by decide +kernel
theorem dX10_hazyDrawn_31 : decode cX10_hazyDrawn 31 = .ok (.istore_n 2, 1) := by decide +kernel
theorem dX10_hazyDrawn_32 : decode cX10_hazyDrawn 32 = .ok (.aload_n 0, 1) := by decide +kernel
theorem dX10_hazyDrawn_33 : decode cX10_hazyDrawn 33 = .ok (.getfield 26, 3) := by decide +kernel
theorem dX10_hazyDrawn_36 : decode cX10_hazyDrawn 36 = .ok (.iload_n 3, 1) := by decide +kernel
theorem dX10_hazyDrawn_37 : decode cX10_hazyDrawn 37 = .ok (.iload_n 2, 1) := by decide +kernel
theorem dX10_hazyDrawn_38 : decode cX10_hazyDrawn 38 = .ok (.bipush 9, 2) := by decide +kernel
theorem dX10_hazyDrawn_40 : decode cX10_hazyDrawn 40 = .ok (.iushr, 1) := by decide +kernel
theorem dX10_hazyDrawn_41 : decode cX10_hazyDrawn 41 = .ok (.bipush 19, 2) := by decide +kernel
theorem dX10_hazyDrawn_43 : decode cX10_hazyDrawn 43 = .ok (.irem, 1) := by decide +kernel
theorem dX10_hazyDrawn_44 : decode cX10_hazyDrawn 44 = .ok (.bipush 9, 2) := by decide +kernel
theorem dX10_hazyDrawn_46 : decode cX10_hazyDrawn 46 = .ok (.isub, 1) := by decide +kernel
theorem dX10_hazyDrawn_47 : decode cX10_hazyDrawn 47 = .ok (.iastore, 1) := by decide +kernel
theorem dX10_hazyDrawn_48 : decode cX10_hazyDrawn 48 = .ok (.iinc 3 1, 3) := by decide +kernel
theorem dX10_hazyDrawn_51 : decode cX10_hazyDrawn 51 = .ok (.goto (-47), 3) := by decide +kernel
theorem dX10_hazyDrawn_54 : decode cX10_hazyDrawn 54 = .ok (.aload_n 0, 1) := by decide +kernel
theorem dX10_hazyDrawn_55 : decode cX10_hazyDrawn 55 = .ok (.invokevirtual 380, 3) := by decide +kernel
theorem dX10_hazyDrawn_58 : decode cX10_hazyDrawn 58 = .ok (.istore_n 3, 1) := by decide +kernel
theorem dX10_hazyDrawn_59 : decode cX10_hazyDrawn 59 = .ok (.iconst 0, 1) := by decide +kernel
theorem dX10_hazyDrawn_60 : decode cX10_hazyDrawn 60 = .ok (.istore 4, 2) := by decide +kernel
theorem dX10_hazyDrawn_62 : decode cX10_hazyDrawn 62 = .ok (.iload 4, 2) := by decide +kernel
theorem dX10_hazyDrawn_64 : decode cX10_hazyDrawn 64 = .ok (.bipush 8, 2) := by decide +kernel
theorem dX10_hazyDrawn_66 : decode cX10_hazyDrawn 66 = .ok (.if_icmp .ge 23, 3) := by decide +kernel
theorem dX10_hazyDrawn_69 : decode cX10_hazyDrawn 69 = .ok (.aload_n 0, 1) := by decide +kernel
theorem dX10_hazyDrawn_70 : decode cX10_hazyDrawn 70 = .ok (.getfield 26, 3) := by decide +kernel
theorem dX10_hazyDrawn_73 : decode cX10_hazyDrawn 73 = .ok (.iload 4, 2) := by decide +kernel
theorem dX10_hazyDrawn_75 : decode cX10_hazyDrawn 75 = .ok (.aload_n 0, 1) := by decide +kernel
theorem dX10_hazyDrawn_76 : decode cX10_hazyDrawn 76 = .ok (.getfield 38, 3) := by decide +kernel
theorem dX10_hazyDrawn_79 : decode cX10_hazyDrawn 79 = .ok (.iload 4, 2) := by decide +kernel
theorem dX10_hazyDrawn_81 : decode cX10_hazyDrawn 81 = .ok (.iaload, 1) := by decide +kernel
theorem dX10_hazyDrawn_82 : decode cX10_hazyDrawn 82 = .ok (.iastore, 1) := by decide +kernel
theorem dX10_hazyDrawn_83 : decode cX10_hazyDrawn 83 = .ok (.iinc 4 1, 3) := by decide +kernel
theorem dX10_hazyDrawn_86 : decode cX10_hazyDrawn 86 = .ok (.goto (-24), 3) := by decide +kernel
theorem dX10_hazyDrawn_89 : decode cX10_hazyDrawn 89 = .ok (.iload_n 3, 1) := by decide +kernel
theorem dX10_hazyDrawn_90 : decode cX10_hazyDrawn 90 = .ok (.ireturn, 1) := by decide +kernel
theorem dX10_drawn_0 : decode cX10_drawn 0 = .ok (.aload_n 0, 1) := by decide +kernel
theorem dX10_drawn_1 : decode cX10_drawn 1 = .ok (.iload_n 1, 1) := by decide +kernel
theorem dX10_drawn_2 : decode cX10_drawn 2 = .ok (.invokevirtual 419, 3) := by decide +kernel
theorem dX10_drawn_5 : decode cX10_drawn 5 = .ok (.ireturn, 1) := by decide +kernel
theorem dX10_chance_0 : decode cX10_chance 0 = .ok (.iload_n 2, 1) := by decide +kernel
theorem dX10_chance_1 : decode cX10_chance 1 = .ok (.i2l, 1) := by decide +kernel
theorem dX10_chance_2 : decode cX10_chance 2 = .ok (.lconst 1, 1) := by decide +kernel
theorem dX10_chance_3 : decode cX10_chance 3 = .ok (.ldc2_w 123, 3) := by decide +kernel
theorem dX10_chance_6 : decode cX10_chance 6 = .ok (.invokestatic 76, 3) := by decide +kernel
theorem dX10_chance_9 : decode cX10_chance 9 = .ok (.ifCond .eq 26, 3) := by decide +kernel
theorem dX10_chance_12 : decode cX10_chance 12 = .ok (.iload_n 3, 1) := by decide +kernel
theorem dX10_chance_13 : decode cX10_chance 13 = .ok (.i2l, 1) := by decide +kernel
theorem dX10_chance_14 : decode cX10_chance 14 = .ok (.lconst 0, 1) := by decide +kernel
theorem dX10_chance_15 : decode cX10_chance 15 = .ok (.ldc2_w 91, 3) := by decide +kernel
theorem dX10_chance_18 : decode cX10_chance 18 = .ok (.invokestatic 76, 3) := by decide +kernel
theorem dX10_chance_21 : decode cX10_chance 21 = .ok (.ifCond .eq 14, 3) := by decide +kernel
theorem dX10_chance_24 : decode cX10_chance 24 = .ok (.iload 4, 2) := by decide +kernel
theorem dX10_chance_26 : decode cX10_chance 26 = .ok (.i2l, 1) := by decide +kernel
theorem dX10_chance_27 : decode cX10_chance 27 = .ok (.lconst 0, 1) := by decide +kernel
theorem dX10_chance_28 : decode cX10_chance 28 = .ok (.lconst 1, 1) := by decide +kernel
theorem dX10_chance_29 : decode cX10_chance 29 = .ok (.invokestatic 76, 3) := by decide +kernel
theorem dX10_chance_32 : decode cX10_chance 32 = .ok (.ifCond .ne 7, 3) := by decide +kernel
theorem dX10_chance_35 : decode cX10_chance 35 = .ok (.ldc2_w 422, 3) := by decide +kernel
theorem dX10_chance_38 : decode cX10_chance 38 = .ok (.lreturn, 1) := by decide +kernel
theorem dX10_chance_39 : decode cX10_chance 39 = .ok (.lconst 0, 1) := by decide +kernel
theorem dX10_chance_40 : decode cX10_chance 40 = .ok (.lstore 5, 2) := by decide +kernel
theorem dX10_chance_42 : decode cX10_chance 42 = .ok (.iconst 0, 1) := by decide +kernel
theorem dX10_chance_43 : decode cX10_chance 43 = .ok (.istore 7, 2) := by decide +kernel
theorem dX10_chance_45 : decode cX10_chance 45 = .ok (.iload 7, 2) := by decide +kernel
theorem dX10_chance_47 : decode cX10_chance 47 = .ok (.iload_n 2, 1) := by decide +kernel
theorem dX10_chance_48 : decode cX10_chance 48 = .ok (.if_icmp .ge 31, 3) := by decide +kernel
theorem dX10_chance_51 : decode cX10_chance 51 = .ok (.lload 5, 2) := by decide +kernel
theorem dX10_chance_53 : decode cX10_chance 53 = .ok (.aload_n 0, 1) := by decide +kernel
theorem dX10_chance_54 : decode cX10_chance 54 = .ok (.iload_n 1, 1) := by decide +kernel
theorem dX10_chance_55 : decode cX10_chance 55 = .ok (.iload 7, 2) := by decide +kernel
theorem dX10_chance_57 : decode cX10_chance 57 = .ok (.iadd, 1) := by decide +kernel
theorem dX10_chance_58 : decode cX10_chance 58 = .ok (.invokevirtual 419, 3) := by decide +kernel
theorem dX10_chance_61 : decode cX10_chance 61 = .ok (.iload_n 3, 1) := by decide +kernel
theorem dX10_chance_62 : decode cX10_chance 62 = .ok (.if_icmp .lt 7, 3) := by decide +kernel
theorem dX10_chance_65 : decode cX10_chance 65 = .ok (.lconst 1, 1) := by decide +kernel
theorem dX10_chance_66 : decode cX10_chance 66 = .ok (.goto 4, 3) := by decide +kernel
theorem dX10_chance_69 : decode cX10_chance 69 = .ok (.lconst 0, 1) := by decide +kernel
theorem dX10_chance_70 : decode cX10_chance 70 = .ok (.ladd, 1) := by decide +kernel
theorem dX10_chance_71 : decode cX10_chance 71 = .ok (.lstore 5, 2) := by decide +kernel
theorem dX10_chance_73 : decode cX10_chance 73 = .ok (.iinc 7 1, 3) := by decide +kernel
theorem dX10_chance_76 : decode cX10_chance 76 = .ok (.goto (-31), 3) := by decide +kernel
theorem dX10_chance_79 : decode cX10_chance 79 = .ok (.lload 5, 2) := by decide +kernel
theorem dX10_chance_81 : decode cX10_chance 81 = .ok (.lstore 7, 2) := by decide +kernel
theorem dX10_chance_83 : decode cX10_chance 83 = .ok (.iload_n 2, 1) := by decide +kernel
theorem dX10_chance_84 : decode cX10_chance 84 = .ok (.i2l, 1) := by decide +kernel
theorem dX10_chance_85 : decode cX10_chance 85 = .ok (.lstore 9, 2) := by decide +kernel
theorem dX10_chance_87 : decode cX10_chance 87 = .ok (.lload 9, 2) := by decide +kernel
theorem dX10_chance_89 : decode cX10_chance 89 = .ok (.lconst 0, 1) := by decide +kernel
theorem dX10_chance_90 : decode cX10_chance 90 = .ok (.lcmp, 1) := by decide +kernel
theorem dX10_chance_91 : decode cX10_chance 91 = .ok (.ifCond .eq 21, 3) := by decide +kernel
theorem dX10_chance_94 : decode cX10_chance 94 = .ok (.lload 7, 2) := by decide +kernel
theorem dX10_chance_96 : decode cX10_chance 96 = .ok (.lload 9, 2) := by decide +kernel
theorem dX10_chance_98 : decode cX10_chance 98 = .ok (.lrem, 1) := by decide +kernel
theorem dX10_chance_99 : decode cX10_chance 99 = .ok (.lstore 11, 2) := by decide +kernel
theorem dX10_chance_101 : decode cX10_chance 101 = .ok (.lload 9, 2) := by decide +kernel
theorem dX10_chance_103 : decode cX10_chance 103 = .ok (.lstore 7, 2) := by decide +kernel
theorem dX10_chance_105 : decode cX10_chance 105 = .ok (.lload 11, 2) := by decide +kernel
theorem dX10_chance_107 : decode cX10_chance 107 = .ok (.lstore 9, 2) := by decide +kernel
theorem dX10_chance_109 : decode cX10_chance 109 = .ok (.goto (-22), 3) := by decide +kernel
theorem dX10_chance_112 : decode cX10_chance 112 = .ok (.iload 4, 2) := by decide +kernel
theorem dX10_chance_114 : decode cX10_chance 114 = .ok (.ifCond .ne 11, 3) := by decide +kernel
theorem dX10_chance_117 : decode cX10_chance 117 = .ok (.lload 5, 2) := by decide +kernel
theorem dX10_chance_119 : decode cX10_chance 119 = .ok (.lload 7, 2) := by decide +kernel
theorem dX10_chance_121 : decode cX10_chance 121 = .ok (.ldiv, 1) := by decide +kernel
theorem dX10_chance_122 : decode cX10_chance 122 = .ok (.goto 8, 3) := by decide +kernel
theorem dX10_chance_125 : decode cX10_chance 125 = .ok (.iload_n 2, 1) := by decide +kernel
theorem dX10_chance_126 : decode cX10_chance 126 = .ok (.i2l, 1) := by decide +kernel
theorem dX10_chance_127 : decode cX10_chance 127 = .ok (.lload 7, 2) := by decide +kernel
theorem dX10_chance_129 : decode cX10_chance 129 = .ok (.ldiv, 1) := by decide +kernel
theorem dX10_chance_130 : decode cX10_chance 130 = .ok (.lreturn, 1) := by decide +kernel
theorem dX10_image_0 : decode cX10_image 0 = .ok (.iconst 0, 1) := by decide +kernel
theorem dX10_image_1 : decode cX10_image 1 = .ok (.istore_n 1, 1) := by decide +kernel
theorem dX10_image_2 : decode cX10_image 2 = .ok (.iload_n 1, 1) := by decide +kernel
theorem dX10_image_3 : decode cX10_image 3 = .ok (.iconst 3, 1) := by decide +kernel
theorem dX10_image_4 : decode cX10_image 4 = .ok (.if_icmp .ge 21, 3) := by decide +kernel
theorem dX10_image_7 : decode cX10_image 7 = .ok (.aload_n 0, 1) := by decide +kernel
theorem dX10_image_8 : decode cX10_image 8 = .ok (.getfield 41, 3) := by decide +kernel
theorem dX10_image_11 : decode cX10_image 11 = .ok (.iload_n 1, 1) := by decide +kernel
theorem dX10_image_12 : decode cX10_image 12 = .ok (.aload_n 0, 1) := by decide +kernel
theorem dX10_image_13 : decode cX10_image 13 = .ok (.getfield 23, 3) := by decide +kernel
theorem dX10_image_16 : decode cX10_image 16 = .ok (.iload_n 1, 1) := by decide +kernel
theorem dX10_image_17 : decode cX10_image 17 = .ok (.iaload, 1) := by decide +kernel
theorem dX10_image_18 : decode cX10_image 18 = .ok (.iastore, 1) := by decide +kernel
theorem dX10_image_19 : decode cX10_image 19 = .ok (.iinc 1 1, 3) := by decide +kernel
theorem dX10_image_22 : decode cX10_image 22 = .ok (.goto (-20), 3) := by decide +kernel
theorem dX10_image_25 : decode cX10_image 25 = .ok (.iconst 0, 1) := by decide +kernel
theorem dX10_image_26 : decode cX10_image 26 = .ok (.istore_n 1, 1) := by decide +kernel
theorem dX10_image_27 : decode cX10_image 27 = .ok (.iload_n 1, 1) := by decide +kernel
theorem dX10_image_28 : decode cX10_image 28 = .ok (.bipush 8, 2) := by decide +kernel
theorem dX10_image_30 : decode cX10_image 30 = .ok (.if_icmp .ge 21, 3) := by decide +kernel
theorem dX10_image_33 : decode cX10_image 33 = .ok (.aload_n 0, 1) := by decide +kernel
theorem dX10_image_34 : decode cX10_image 34 = .ok (.getfield 44, 3) := by decide +kernel
theorem dX10_image_37 : decode cX10_image 37 = .ok (.iload_n 1, 1) := by decide +kernel
theorem dX10_image_38 : decode cX10_image 38 = .ok (.aload_n 0, 1) := by decide +kernel
theorem dX10_image_39 : decode cX10_image 39 = .ok (.getfield 26, 3) := by decide +kernel
theorem dX10_image_42 : decode cX10_image 42 = .ok (.iload_n 1, 1) := by decide +kernel
theorem dX10_image_43 : decode cX10_image 43 = .ok (.iaload, 1) := by decide +kernel
theorem dX10_image_44 : decode cX10_image 44 = .ok (.iastore, 1) := by decide +kernel
theorem dX10_image_45 : decode cX10_image 45 = .ok (.iinc 1 1, 3) := by decide +kernel
theorem dX10_image_48 : decode cX10_image 48 = .ok (.goto (-21), 3) := by decide +kernel
theorem dX10_image_51 : decode cX10_image 51 = .ok (.iconst 0, 1) := by decide +kernel
theorem dX10_image_52 : decode cX10_image 52 = .ok (.istore_n 1, 1) := by decide +kernel
theorem dX10_image_53 : decode cX10_image 53 = .ok (.iload_n 1, 1) := by decide +kernel
theorem dX10_image_54 : decode cX10_image 54 = .ok (.bipush 12, 2) := by decide +kernel
theorem dX10_image_56 : decode cX10_image 56 = .ok (.if_icmp .ge 21, 3) := by decide +kernel
theorem dX10_image_59 : decode cX10_image 59 = .ok (.aload_n 0, 1) := by decide +kernel
theorem dX10_image_60 : decode cX10_image 60 = .ok (.getfield 47, 3) := by decide +kernel
theorem dX10_image_63 : decode cX10_image 63 = .ok (.iload_n 1, 1) := by decide +kernel
theorem dX10_image_64 : decode cX10_image 64 = .ok (.aload_n 0, 1) := by decide +kernel
theorem dX10_image_65 : decode cX10_image 65 = .ok (.getfield 32, 3) := by decide +kernel
theorem dX10_image_68 : decode cX10_image 68 = .ok (.iload_n 1, 1) := by decide +kernel
theorem dX10_image_69 : decode cX10_image 69 = .ok (.iaload, 1) := by decide +kernel
theorem dX10_image_70 : decode cX10_image 70 = .ok (.iastore, 1) := by decide +kernel
theorem dX10_image_71 : decode cX10_image 71 = .ok (.iinc 1 1, 3) := by decide +kernel
theorem dX10_image_74 : decode cX10_image 74 = .ok (.goto (-21), 3) := by decide +kernel
theorem dX10_image_77 : decode cX10_image 77 = .ok (.aload_n 0, 1) := by decide +kernel
theorem dX10_image_78 : decode cX10_image 78 = .ok (.aload_n 0, 1) := by decide +kernel
theorem dX10_image_79 : decode cX10_image 79 = .ok (.getfield 113, 3) := by decide +kernel
theorem dX10_image_82 : decode cX10_image 82 = .ok (.putfield 424, 3) := by decide +kernel
theorem dX10_image_85 : decode cX10_image 85 = .ok (.aload_n 0, 1) := by decide +kernel
theorem dX10_image_86 : decode cX10_image 86 = .ok (.aload_n 0, 1) := by decide +kernel
theorem dX10_image_87 : decode cX10_image 87 = .ok (.getfield 73, 3) := by decide +kernel
theorem dX10_image_90 : decode cX10_image 90 = .ok (.putfield 50, 3) := by decide +kernel
theorem dX10_image_93 : decode cX10_image 93 = .ok (.aload_n 0, 1) := by decide +kernel
theorem dX10_image_94 : decode cX10_image 94 = .ok (.aload_n 0, 1) := by decide +kernel
theorem dX10_image_95 : decode cX10_image 95 = .ok (.getfield 116, 3) := by decide +kernel
theorem dX10_image_98 : decode cX10_image 98 = .ok (.putfield 427, 3) := by decide +kernel
theorem dX10_image_101 : decode cX10_image 101 = .ok (.aload_n 0, 1) := by decide +kernel
theorem dX10_image_102 : decode cX10_image 102 = .ok (.getfield 73, 3) := by decide +kernel
theorem dX10_image_105 : decode cX10_image 105 = .ok (.ireturn, 1) := by decide +kernel
theorem dX10_back_0 : decode cX10_back 0 = .ok (.aload_n 0, 1) := by decide +kernel
theorem dX10_back_1 : decode cX10_back 1 = .ok (.getfield 50, 3) := by decide +kernel
theorem dX10_back_4 : decode cX10_back 4 = .ok (.iconst (-1), 1) := by decide +kernel
theorem dX10_back_5 : decode cX10_back 5 = .ok (.if_icmp .ne 6, 3) := by decide +kernel
theorem dX10_back_8 : decode cX10_back 8 = .ok (.bipush (-3), 2) := by decide +kernel
theorem dX10_back_10 : decode cX10_back 10 = .ok (.ireturn, 1) := by decide +kernel
theorem dX10_back_11 : decode cX10_back 11 = .ok (.iconst 0, 1) := by decide +kernel
theorem dX10_back_12 : decode cX10_back 12 = .ok (.istore_n 1, 1) := by decide +kernel
theorem dX10_back_13 : decode cX10_back 13 = .ok (.iload_n 1, 1) := by decide +kernel
theorem dX10_back_14 : decode cX10_back 14 = .ok (.iconst 3, 1) := by decide +kernel
theorem dX10_back_15 : decode cX10_back 15 = .ok (.if_icmp .ge 21, 3) := by decide +kernel
theorem dX10_back_18 : decode cX10_back 18 = .ok (.aload_n 0, 1) := by decide +kernel
theorem dX10_back_19 : decode cX10_back 19 = .ok (.getfield 23, 3) := by decide +kernel
theorem dX10_back_22 : decode cX10_back 22 = .ok (.iload_n 1, 1) := by decide +kernel
theorem dX10_back_23 : decode cX10_back 23 = .ok (.aload_n 0, 1) := by decide +kernel
theorem dX10_back_24 : decode cX10_back 24 = .ok (.getfield 41, 3) := by decide +kernel
theorem dX10_back_27 : decode cX10_back 27 = .ok (.iload_n 1, 1) := by decide +kernel
theorem dX10_back_28 : decode cX10_back 28 = .ok (.iaload, 1) := by decide +kernel
theorem dX10_back_29 : decode cX10_back 29 = .ok (.iastore, 1) := by decide +kernel
theorem dX10_back_30 : decode cX10_back 30 = .ok (.iinc 1 1, 3) := by decide +kernel
theorem dX10_back_33 : decode cX10_back 33 = .ok (.goto (-20), 3) := by decide +kernel
theorem dX10_back_36 : decode cX10_back 36 = .ok (.iconst 0, 1) := by decide +kernel
theorem dX10_back_37 : decode cX10_back 37 = .ok (.istore_n 1, 1) := by decide +kernel
theorem dX10_back_38 : decode cX10_back 38 = .ok (.iload_n 1, 1) := by decide +kernel
theorem dX10_back_39 : decode cX10_back 39 = .ok (.bipush 8, 2) := by decide +kernel
theorem dX10_back_41 : decode cX10_back 41 = .ok (.if_icmp .ge 21, 3) := by decide +kernel
theorem dX10_back_44 : decode cX10_back 44 = .ok (.aload_n 0, 1) := by decide +kernel
theorem dX10_back_45 : decode cX10_back 45 = .ok (.getfield 26, 3) := by decide +kernel
theorem dX10_back_48 : decode cX10_back 48 = .ok (.iload_n 1, 1) := by decide +kernel
theorem dX10_back_49 : decode cX10_back 49 = .ok (.aload_n 0, 1) := by decide +kernel
theorem dX10_back_50 : decode cX10_back 50 = .ok (.getfield 44, 3) := by decide +kernel
theorem dX10_back_53 : decode cX10_back 53 = .ok (.iload_n 1, 1) := by decide +kernel
theorem dX10_back_54 : decode cX10_back 54 = .ok (.iaload, 1) := by decide +kernel
theorem dX10_back_55 : decode cX10_back 55 = .ok (.iastore, 1) := by decide +kernel
theorem dX10_back_56 : decode cX10_back 56 = .ok (.iinc 1 1, 3) := by decide +kernel
theorem dX10_back_59 : decode cX10_back 59 = .ok (.goto (-21), 3) := by decide +kernel
theorem dX10_back_62 : decode cX10_back 62 = .ok (.iconst 0, 1) := by decide +kernel
theorem dX10_back_63 : decode cX10_back 63 = .ok (.istore_n 1, 1) := by decide +kernel
theorem dX10_back_64 : decode cX10_back 64 = .ok (.iload_n 1, 1) := by decide +kernel
theorem dX10_back_65 : decode cX10_back 65 = .ok (.bipush 12, 2) := by decide +kernel
theorem dX10_back_67 : decode cX10_back 67 = .ok (.if_icmp .ge 21, 3) := by decide +kernel
theorem dX10_back_70 : decode cX10_back 70 = .ok (.aload_n 0, 1) := by decide +kernel
theorem dX10_back_71 : decode cX10_back 71 = .ok (.getfield 32, 3) := by decide +kernel
theorem dX10_back_74 : decode cX10_back 74 = .ok (.iload_n 1, 1) := by decide +kernel
theorem dX10_back_75 : decode cX10_back 75 = .ok (.aload_n 0, 1) := by decide +kernel
theorem dX10_back_76 : decode cX10_back 76 = .ok (.getfield 47, 3) := by decide +kernel
theorem dX10_back_79 : decode cX10_back 79 = .ok (.iload_n 1, 1) := by decide +kernel
theorem dX10_back_80 : decode cX10_back 80 = .ok (.iaload, 1) := by decide +kernel
theorem dX10_back_81 : decode cX10_back 81 = .ok (.iastore, 1) := by decide +kernel
theorem dX10_back_82 : decode cX10_back 82 = .ok (.iinc 1 1, 3) := by decide +kernel
theorem dX10_back_85 : decode cX10_back 85 = .ok (.goto (-21), 3) := by decide +kernel
theorem dX10_back_88 : decode cX10_back 88 = .ok (.aload_n 0, 1) := by decide +kernel
theorem dX10_back_89 : decode cX10_back 89 = .ok (.aload_n 0, 1) := by decide +kernel
theorem dX10_back_90 : decode cX10_back 90 = .ok (.getfield 424, 3) := by decide +kernel
theorem dX10_back_93 : decode cX10_back 93 = .ok (.putfield 113, 3) := by decide +kernel
theorem dX10_back_96 : decode cX10_back 96 = .ok (.aload_n 0, 1) := by decide +kernel
theorem dX10_back_97 : decode cX10_back 97 = .ok (.aload_n 0, 1) := by decide +kernel
theorem dX10_back_98 : decode cX10_back 98 = .ok (.getfield 50, 3) := by decide +kernel
theorem dX10_back_101 : decode cX10_back 101 = .ok (.putfield 73, 3) := by decide +kernel
theorem dX10_back_104 : decode cX10_back 104 = .ok (.aload_n 0, 1) := by decide +kernel
theorem dX10_back_105 : decode cX10_back 105 = .ok (.aload_n 0, 1) := by decide +kernel
theorem dX10_back_106 : decode cX10_back 106 = .ok (.getfield 427, 3) := by decide +kernel
theorem dX10_back_109 : decode cX10_back 109 = .ok (.putfield 116, 3) := by decide +kernel
theorem dX10_back_112 : decode cX10_back 112 = .ok (.aload_n 0, 1) := by decide +kernel
theorem dX10_back_113 : decode cX10_back 113 = .ok (.getfield 73, 3) := by decide +kernel
theorem dX10_back_116 : decode cX10_back 116 = .ok (.ireturn, 1) := by decide +kernel
theorem dX10_count_0 : decode cX10_count 0 = .ok (.iload_n 1, 1) := by decide +kernel
theorem dX10_count_1 : decode cX10_count 1 = .ok (.i2l, 1) := by decide +kernel
theorem dX10_count_2 : decode cX10_count 2 = .ok (.lconst 0, 1) := by decide +kernel
theorem dX10_count_3 : decode cX10_count 3 = .ok (.ldc2_w 119, 3) := by decide +kernel
theorem dX10_count_6 : decode cX10_count 6 = .ok (.invokestatic 76, 3) := by decide +kernel
theorem dX10_count_9 : decode cX10_count 9 = .ok (.ifCond .ne 6, 3) := by decide +kernel
theorem dX10_count_12 : decode cX10_count 12 = .ok (.bipush (-2), 2) := by decide +kernel
theorem dX10_count_14 : decode cX10_count 14 = .ok (.ireturn, 1) := by decide +kernel
theorem dX10_count_15 : decode cX10_count 15 = .ok (.iload_n 1, 1) := by decide +kernel
theorem dX10_count_16 : decode cX10_count 16 = .ok (.iconst 2, 1) := by decide +kernel
theorem dX10_count_17 : decode cX10_count 17 = .ok (.if_icmp .le 32, 3) := by decide +kernel
theorem dX10_count_20 : decode cX10_count 20 = .ok (.iload_n 1, 1) := by decide +kernel
theorem dX10_count_21 : decode cX10_count 21 = .ok (.iconst 3, 1) := by decide +kernel
theorem dX10_count_22 : decode cX10_count 22 = .ok (.if_icmp .ne 10, 3) := by decide +kernel
theorem dX10_count_25 : decode cX10_count 25 = .ok (.aload_n 0, 1) := by decide +kernel
theorem dX10_count_26 : decode cX10_count 26 = .ok (.getfield 70, 3) := by decide +kernel
theorem dX10_count_29 : decode cX10_count 29 = .ok (.goto 19, 3) := by decide +kernel
theorem dX10_count_32 : decode cX10_count 32 = .ok (.iload_n 1, 1) := by decide +kernel
theorem dX10_count_33 : decode cX10_count 33 = .ok (.iconst 4, 1) := by decide +kernel
theorem dX10_count_34 : decode cX10_count 34 = .ok (.if_icmp .ne 10, 3) := by decide +kernel
theorem dX10_count_37 : decode cX10_count 37 = .ok (.aload_n 0, 1) := by decide +kernel
theorem dX10_count_38 : decode cX10_count 38 = .ok (.getfield 153, 3) := by decide +kernel
theorem dX10_count_41 : decode cX10_count 41 = .ok (.goto 7, 3) := by decide +kernel
theorem dX10_count_44 : decode cX10_count 44 = .ok (.aload_n 0, 1) := by decide +kernel
theorem dX10_count_45 : decode cX10_count 45 = .ok (.getfield 116, 3) := by decide +kernel
theorem dX10_count_48 : decode cX10_count 48 = .ok (.ireturn, 1) := by decide +kernel
theorem dX10_count_49 : decode cX10_count 49 = .ok (.iconst 0, 1) := by decide +kernel
theorem dX10_count_50 : decode cX10_count 50 = .ok (.istore_n 2, 1) := by decide +kernel
theorem dX10_count_51 : decode cX10_count 51 = .ok (.iconst 0, 1) := by decide +kernel
theorem dX10_count_52 : decode cX10_count 52 = .ok (.istore_n 3, 1) := by decide +kernel
theorem dX10_count_53 : decode cX10_count 53 = .ok (.iload_n 3, 1) := by decide +kernel
theorem dX10_count_54 : decode cX10_count 54 = .ok (.bipush 8, 2) := by decide +kernel
theorem dX10_count_56 : decode cX10_count 56 = .ok (.if_icmp .ge 20, 3) := by decide +kernel
theorem dX10_count_59 : decode cX10_count 59 = .ok (.iload_n 2, 1) := by decide +kernel
theorem dX10_count_60 : decode cX10_count 60 = .ok (.aload_n 0, 1) := by decide +kernel
theorem dX10_count_61 : decode cX10_count 61 = .ok (.getfield 113, 3) := by decide +kernel
theorem dX10_count_64 : decode cX10_count 64 = .ok (.iload_n 3, 1) := by decide +kernel
theorem dX10_count_65 : decode cX10_count 65 = .ok (.ishr, 1) := by decide +kernel
theorem dX10_count_66 : decode cX10_count 66 = .ok (.iconst 1, 1) := by decide +kernel
theorem dX10_count_67 : decode cX10_count 67 = .ok (.iand, 1) := by decide +kernel
theorem dX10_count_68 : decode cX10_count 68 = .ok (.iadd, 1) := by decide +kernel
theorem dX10_count_69 : decode cX10_count 69 = .ok (.istore_n 2, 1) := by decide +kernel
theorem dX10_count_70 : decode cX10_count 70 = .ok (.iinc 3 1, 3) := by decide +kernel
theorem dX10_count_73 : decode cX10_count 73 = .ok (.goto (-20), 3) := by decide +kernel
theorem dX10_count_76 : decode cX10_count 76 = .ok (.iload_n 1, 1) := by decide +kernel
theorem dX10_count_77 : decode cX10_count 77 = .ok (.ifCond .ne 10, 3) := by decide +kernel
theorem dX10_count_80 : decode cX10_count 80 = .ok (.aload_n 0, 1) := by decide +kernel
theorem dX10_count_81 : decode cX10_count 81 = .ok (.getfield 73, 3) := by decide +kernel
theorem dX10_count_84 : decode cX10_count 84 = .ok (.goto 18, 3) := by decide +kernel
theorem dX10_count_87 : decode cX10_count 87 = .ok (.iload_n 1, 1) := by decide +kernel
theorem dX10_count_88 : decode cX10_count 88 = .ok (.iconst 1, 1) := by decide +kernel
theorem dX10_count_89 : decode cX10_count 89 = .ok (.if_icmp .ne 7, 3) := by decide +kernel
theorem dX10_count_92 : decode cX10_count 92 = .ok (.iload_n 2, 1) := by decide +kernel
theorem dX10_count_93 : decode cX10_count 93 = .ok (.goto 9, 3) := by decide +kernel
theorem dX10_count_96 : decode cX10_count 96 = .ok (.aload_n 0, 1) := by decide +kernel
theorem dX10_count_97 : decode cX10_count 97 = .ok (.getfield 23, 3) := by decide +kernel
theorem dX10_count_100 : decode cX10_count 100 = .ok (.iconst 0, 1) := by decide +kernel
theorem dX10_count_101 : decode cX10_count 101 = .ok (.iaload, 1) := by decide +kernel
theorem dX10_count_102 : decode cX10_count 102 = .ok (.ireturn, 1) := by decide +kernel
theorem dX10_isSheet_0 : decode cX10_isSheet 0 = .ok (.iload_n 0, 1) := by decide +kernel
theorem dX10_isSheet_1 : decode cX10_isSheet 1 = .ok (.i2l, 1) := by decide +kernel
theorem dX10_isSheet_2 : decode cX10_isSheet 2 = .ok (.lconst 0, 1) := by decide +kernel
theorem dX10_isSheet_3 : decode cX10_isSheet 3 = .ok (.ldc2_w 430, 3) := by decide +kernel
theorem dX10_isSheet_6 : decode cX10_isSheet 6 = .ok (.invokestatic 76, 3) := by decide +kernel
theorem dX10_isSheet_9 : decode cX10_isSheet 9 = .ok (.ireturn, 1) := by decide +kernel
theorem dX10_sheet_0 : decode cX10_sheet 0 = .ok (.iload_n 1, 1) := by decide +kernel
theorem dX10_sheet_1 : decode cX10_sheet 1 = .ok (.invokestatic 405, 3) := by decide +kernel
theorem dX10_sheet_4 : decode cX10_sheet 4 = .ok (.ifCond .eq 27, 3) := by decide +kernel
theorem dX10_sheet_7 : decode cX10_sheet 7 = .ok (.iload_n 2, 1) := by decide +kernel
theorem dX10_sheet_8 : decode cX10_sheet 8 = .ok (.i2l, 1) := by decide +kernel
theorem dX10_sheet_9 : decode cX10_sheet 9 = .ok (.ldc2_w 432, 3) := by decide +kernel
theorem dX10_sheet_12 : decode cX10_sheet 12 = .ok (.ldc2_w 378, 3) := by decide +kernel
theorem dX10_sheet_15 : decode cX10_sheet 15 = .ok (.invokestatic 76, 3) := by decide +kernel
theorem dX10_sheet_18 : decode cX10_sheet 18 = .ok (.ifCond .eq 13, 3) := by decide +kernel
theorem dX10_sheet_21 : decode cX10_sheet 21 = .ok (.iload_n 2, 1) := by decide +kernel
theorem dX10_sheet_22 : decode cX10_sheet 22 = .ok (.ifCond .lt 12, 3) := by decide +kernel
theorem dX10_sheet_25 : decode cX10_sheet 25 = .ok (.iload_n 3, 1) := by decide +kernel
theorem dX10_sheet_26 : decode cX10_sheet 26 = .ok (.bipush 40, 2) := by decide +kernel
theorem dX10_sheet_28 : decode cX10_sheet 28 = .ok (.if_icmp .le 6, 3) := by decide +kernel
theorem dX10_sheet_31 : decode cX10_sheet 31 = .ok (.bipush (-2), 2) := by decide +kernel
theorem dX10_sheet_33 : decode cX10_sheet 33 = .ok (.ireturn, 1) := by decide +kernel
theorem dX10_sheet_34 : decode cX10_sheet 34 = .ok (.iload_n 2, 1) := by decide +kernel
theorem dX10_sheet_35 : decode cX10_sheet 35 = .ok (.ifCond .lt 10, 3) := by decide +kernel
theorem dX10_sheet_38 : decode cX10_sheet 38 = .ok (.iload_n 3, 1) := by decide +kernel
theorem dX10_sheet_39 : decode cX10_sheet 39 = .ok (.ifCond .ge 6, 3) := by decide +kernel
theorem dX10_sheet_42 : decode cX10_sheet 42 = .ok (.bipush (-14), 2) := by decide +kernel
theorem dX10_sheet_44 : decode cX10_sheet 44 = .ok (.ireturn, 1) := by decide +kernel
theorem dX10_sheet_45 : decode cX10_sheet 45 = .ok (.aload_n 0, 1) := by decide +kernel
theorem dX10_sheet_46 : decode cX10_sheet 46 = .ok (.getfield 53, 3) := by decide +kernel
theorem dX10_sheet_49 : decode cX10_sheet 49 = .ok (.iload_n 1, 1) := by decide +kernel
theorem dX10_sheet_50 : decode cX10_sheet 50 = .ok (.iload_n 2, 1) := by decide +kernel
theorem dX10_sheet_51 : decode cX10_sheet 51 = .ok (.ifCond .lt 7, 3) := by decide +kernel
theorem dX10_sheet_54 : decode cX10_sheet 54 = .ok (.iconst 1, 1) := by decide +kernel
theorem dX10_sheet_55 : decode cX10_sheet 55 = .ok (.goto 4, 3) := by decide +kernel
theorem dX10_sheet_58 : decode cX10_sheet 58 = .ok (.iconst 0, 1) := by decide +kernel
theorem dX10_sheet_59 : decode cX10_sheet 59 = .ok (.bastore, 1) := by decide +kernel
theorem dX10_sheet_60 : decode cX10_sheet 60 = .ok (.aload_n 0, 1) := by decide +kernel
theorem dX10_sheet_61 : decode cX10_sheet 61 = .ok (.getfield 57, 3) := by decide +kernel
theorem dX10_sheet_64 : decode cX10_sheet 64 = .ok (.iload_n 1, 1) := by decide +kernel
theorem dX10_sheet_65 : decode cX10_sheet 65 = .ok (.iload_n 2, 1) := by decide +kernel
theorem dX10_sheet_66 : decode cX10_sheet 66 = .ok (.iastore, 1) := by decide +kernel
theorem dX10_sheet_67 : decode cX10_sheet 67 = .ok (.aload_n 0, 1) := by decide +kernel
theorem dX10_sheet_68 : decode cX10_sheet 68 = .ok (.getfield 60, 3) := by decide +kernel
theorem dX10_sheet_71 : decode cX10_sheet 71 = .ok (.iload_n 1, 1) := by decide +kernel
theorem dX10_sheet_72 : decode cX10_sheet 72 = .ok (.iload_n 3, 1) := by decide +kernel
theorem dX10_sheet_73 : decode cX10_sheet 73 = .ok (.iastore, 1) := by decide +kernel
theorem dX10_sheet_74 : decode cX10_sheet 74 = .ok (.iconst 0, 1) := by decide +kernel
theorem dX10_sheet_75 : decode cX10_sheet 75 = .ok (.istore 4, 2) := by decide +kernel
theorem dX10_sheet_77 : decode cX10_sheet 77 = .ok (.iload 4, 2) := by decide +kernel
theorem dX10_sheet_79 : decode cX10_sheet 79 = .ok (.iload_n 3, 1) := by decide +kernel
theorem dX10_sheet_80 : decode cX10_sheet 80 = .ok (.if_icmp .ge 26, 3) := by decide +kernel
theorem dX10_sheet_83 : decode cX10_sheet 83 = .ok (.iload_n 2, 1) := by decide +kernel
theorem dX10_sheet_84 : decode cX10_sheet 84 = .ok (.ifCond .lt 22, 3) := by decide +kernel
theorem dX10_sheet_87 : decode cX10_sheet 87 = .ok (.aload_n 0, 1) := by decide +kernel
theorem dX10_sheet_88 : decode cX10_sheet 88 = .ok (.getfield 63, 3) := by decide +kernel
theorem dX10_sheet_91 : decode cX10_sheet 91 = .ok (.bipush 40, 2) := by decide +kernel
theorem dX10_sheet_93 : decode cX10_sheet 93 = .ok (.iload_n 1, 1) := by decide +kernel
theorem dX10_sheet_94 : decode cX10_sheet 94 = .ok (.imul, 1) := by decide +kernel
theorem dX10_sheet_95 : decode cX10_sheet 95 = .ok (.iload 4, 2) := by decide +kernel
theorem dX10_sheet_97 : decode cX10_sheet 97 = .ok (.iadd, 1) := by decide +kernel
theorem dX10_sheet_98 : decode cX10_sheet 98 = .ok (.iconst 0, 1) := by decide +kernel
theorem dX10_sheet_99 : decode cX10_sheet 99 = .ok (.iastore, 1) := by decide +kernel
theorem dX10_sheet_100 : decode cX10_sheet 100 = .ok (.iinc 4 1, 3) := by decide +kernel
theorem dX10_sheet_103 : decode cX10_sheet 103 = .ok (.goto (-26), 3) := by decide +kernel
theorem dX10_sheet_106 : decode cX10_sheet 106 = .ok (.iconst 1, 1) := by decide +kernel
theorem dX10_sheet_107 : decode cX10_sheet 107 = .ok (.ireturn, 1) := by decide +kernel
theorem dX10_cell_0 : decode cX10_cell 0 = .ok (.iload_n 1, 1) := by decide +kernel
theorem dX10_cell_1 : decode cX10_cell 1 = .ok (.invokestatic 405, 3) := by decide +kernel
theorem dX10_cell_4 : decode cX10_cell 4 = .ok (.ifCond .ne 6, 3) := by decide +kernel
theorem dX10_cell_7 : decode cX10_cell 7 = .ok (.bipush (-2), 2) := by decide +kernel
theorem dX10_cell_9 : decode cX10_cell 9 = .ok (.ireturn, 1) := by decide +kernel
theorem dX10_cell_10 : decode cX10_cell 10 = .ok (.aload_n 0, 1) := by decide +kernel
theorem dX10_cell_11 : decode cX10_cell 11 = .ok (.getfield 53, 3) := by decide +kernel
theorem dX10_cell_14 : decode cX10_cell 14 = .ok (.iload_n 1, 1) := by decide +kernel
theorem dX10_cell_15 : decode cX10_cell 15 = .ok (.baload, 1) := by decide +kernel
theorem dX10_cell_16 : decode cX10_cell 16 = .ok (.ifCond .ne 6, 3) := by decide +kernel
theorem dX10_cell_19 : decode cX10_cell 19 = .ok (.bipush (-11), 2) := by decide +kernel
theorem dX10_cell_21 : decode cX10_cell 21 = .ok (.ireturn, 1) := by decide +kernel
theorem dX10_cell_22 : decode cX10_cell 22 = .ok (.iload_n 2, 1) := by decide +kernel
theorem dX10_cell_23 : decode cX10_cell 23 = .ok (.i2l, 1) := by decide +kernel
theorem dX10_cell_24 : decode cX10_cell 24 = .ok (.lconst 0, 1) := by decide +kernel
theorem dX10_cell_25 : decode cX10_cell 25 = .ok (.aload_n 0, 1) := by decide +kernel
theorem dX10_cell_26 : decode cX10_cell 26 = .ok (.getfield 60, 3) := by decide +kernel
theorem dX10_cell_29 : decode cX10_cell 29 = .ok (.iload_n 1, 1) := by decide +kernel
theorem dX10_cell_30 : decode cX10_cell 30 = .ok (.iaload, 1) := by decide +kernel
theorem dX10_cell_31 : decode cX10_cell 31 = .ok (.iconst 1, 1) := by decide +kernel
theorem dX10_cell_32 : decode cX10_cell 32 = .ok (.isub, 1) := by decide +kernel
theorem dX10_cell_33 : decode cX10_cell 33 = .ok (.i2l, 1) := by decide +kernel
theorem dX10_cell_34 : decode cX10_cell 34 = .ok (.invokestatic 76, 3) := by decide +kernel
theorem dX10_cell_37 : decode cX10_cell 37 = .ok (.ifCond .ne 6, 3) := by decide +kernel
theorem dX10_cell_40 : decode cX10_cell 40 = .ok (.bipush (-12), 2) := by decide +kernel
theorem dX10_cell_42 : decode cX10_cell 42 = .ok (.ireturn, 1) := by decide +kernel
theorem dX10_cell_43 : decode cX10_cell 43 = .ok (.aload_n 0, 1) := by decide +kernel
theorem dX10_cell_44 : decode cX10_cell 44 = .ok (.getfield 63, 3) := by decide +kernel
theorem dX10_cell_47 : decode cX10_cell 47 = .ok (.bipush 40, 2) := by decide +kernel
theorem dX10_cell_49 : decode cX10_cell 49 = .ok (.iload_n 1, 1) := by decide +kernel
theorem dX10_cell_50 : decode cX10_cell 50 = .ok (.imul, 1) := by decide +kernel
theorem dX10_cell_51 : decode cX10_cell 51 = .ok (.iload_n 2, 1) := by decide +kernel
theorem dX10_cell_52 : decode cX10_cell 52 = .ok (.iadd, 1) := by decide +kernel
theorem dX10_cell_53 : decode cX10_cell 53 = .ok (.aload_n 0, 1) := by decide +kernel
theorem dX10_cell_54 : decode cX10_cell 54 = .ok (.getfield 57, 3) := by decide +kernel
theorem dX10_cell_57 : decode cX10_cell 57 = .ok (.iload_n 1, 1) := by decide +kernel
theorem dX10_cell_58 : decode cX10_cell 58 = .ok (.iaload, 1) := by decide +kernel
theorem dX10_cell_59 : decode cX10_cell 59 = .ok (.ifCond .ne 8, 3) := by decide +kernel
theorem dX10_cell_62 : decode cX10_cell 62 = .ok (.iload_n 3, 1) := by decide +kernel
theorem dX10_cell_63 : decode cX10_cell 63 = .ok (.i2b, 1) := by decide +kernel
theorem dX10_cell_64 : decode cX10_cell 64 = .ok (.goto 19, 3) := by decide +kernel
theorem dX10_cell_67 : decode cX10_cell 67 = .ok (.aload_n 0, 1) := by decide +kernel
theorem dX10_cell_68 : decode cX10_cell 68 = .ok (.getfield 57, 3) := by decide +kernel
theorem dX10_cell_71 : decode cX10_cell 71 = .ok (.iload_n 1, 1) := by decide +kernel
theorem dX10_cell_72 : decode cX10_cell 72 = .ok (.iaload, 1) := by decide +kernel
theorem dX10_cell_73 : decode cX10_cell 73 = .ok (.iconst 1, 1) := by decide +kernel
theorem dX10_cell_74 : decode cX10_cell 74 = .ok (.if_icmp .ne 8, 3) := by decide +kernel
theorem dX10_cell_77 : decode cX10_cell 77 = .ok (.iload_n 3, 1) := by decide +kernel
theorem dX10_cell_78 : decode cX10_cell 78 = .ok (.i2s, 1) := by decide +kernel
theorem dX10_cell_79 : decode cX10_cell 79 = .ok (.goto 4, 3) := by decide +kernel
theorem dX10_cell_82 : decode cX10_cell 82 = .ok (.iload_n 3, 1) := by decide +kernel
theorem dX10_cell_83 : decode cX10_cell 83 = .ok (.iastore, 1) := by decide +kernel
theorem dX10_cell_84 : decode cX10_cell 84 = .ok (.iconst 1, 1) := by decide +kernel
theorem dX10_cell_85 : decode cX10_cell 85 = .ok (.ireturn, 1) := by decide +kernel
theorem dX10_copy_0 : decode cX10_copy 0 = .ok (.iload_n 1, 1) := by decide +kernel
theorem dX10_copy_1 : decode cX10_copy 1 = .ok (.invokestatic 405, 3) := by decide +kernel
theorem dX10_copy_4 : decode cX10_copy 4 = .ok (.ifCond .eq 10, 3) := by decide +kernel
theorem dX10_copy_7 : decode cX10_copy 7 = .ok (.iload_n 3, 1) := by decide +kernel
theorem dX10_copy_8 : decode cX10_copy 8 = .ok (.invokestatic 405, 3) := by decide +kernel
theorem dX10_copy_11 : decode cX10_copy 11 = .ok (.ifCond .ne 6, 3) := by decide +kernel
theorem dX10_copy_14 : decode cX10_copy 14 = .ok (.bipush (-2), 2) := by decide +kernel
theorem dX10_copy_16 : decode cX10_copy 16 = .ok (.ireturn, 1) := by decide +kernel
theorem dX10_copy_17 : decode cX10_copy 17 = .ok (.aload_n 0, 1) := by decide +kernel
theorem dX10_copy_18 : decode cX10_copy 18 = .ok (.getfield 53, 3) := by decide +kernel
theorem dX10_copy_21 : decode cX10_copy 21 = .ok (.iload_n 1, 1) := by decide +kernel
theorem dX10_copy_22 : decode cX10_copy 22 = .ok (.baload, 1) := by decide +kernel
theorem dX10_copy_23 : decode cX10_copy 23 = .ok (.ifCond .eq 12, 3) := by decide +kernel
theorem dX10_copy_26 : decode cX10_copy 26 = .ok (.aload_n 0, 1) := by decide +kernel
theorem dX10_copy_27 : decode cX10_copy 27 = .ok (.getfield 53, 3) := by decide +kernel
theorem dX10_copy_30 : decode cX10_copy 30 = .ok (.iload_n 3, 1) := by decide +kernel
theorem dX10_copy_31 : decode cX10_copy 31 = .ok (.baload, 1) := by decide +kernel
theorem dX10_copy_32 : decode cX10_copy 32 = .ok (.ifCond .ne 6, 3) := by decide +kernel
theorem dX10_copy_35 : decode cX10_copy 35 = .ok (.bipush (-11), 2) := by decide +kernel
theorem dX10_copy_37 : decode cX10_copy 37 = .ok (.ireturn, 1) := by decide +kernel
theorem dX10_copy_38 : decode cX10_copy 38 = .ok (.aload_n 0, 1) := by decide +kernel
theorem dX10_copy_39 : decode cX10_copy 39 = .ok (.getfield 57, 3) := by decide +kernel
theorem dX10_copy_42 : decode cX10_copy 42 = .ok (.iload_n 1, 1) := by decide +kernel
theorem dX10_copy_43 : decode cX10_copy 43 = .ok (.iaload, 1) := by decide +kernel
theorem dX10_copy_44 : decode cX10_copy 44 = .ok (.aload_n 0, 1) := by decide +kernel
theorem dX10_copy_45 : decode cX10_copy 45 = .ok (.getfield 57, 3) := by decide +kernel
theorem dX10_copy_48 : decode cX10_copy 48 = .ok (.iload_n 3, 1) := by decide +kernel
theorem dX10_copy_49 : decode cX10_copy 49 = .ok (.iaload, 1) := by decide +kernel
theorem dX10_copy_50 : decode cX10_copy 50 = .ok (.if_icmp .eq 6, 3) := by decide +kernel
theorem dX10_copy_53 : decode cX10_copy 53 = .ok (.bipush (-13), 2) := by decide +kernel
theorem dX10_copy_55 : decode cX10_copy 55 = .ok (.ireturn, 1) := by decide +kernel
theorem dX10_copy_56 : decode cX10_copy 56 = .ok (.iload 5, 2) := by decide +kernel
theorem dX10_copy_58 : decode cX10_copy 58 = .ok (.ifCond .lt 39, 3) := by decide +kernel
theorem dX10_copy_61 : decode cX10_copy 61 = .ok (.iload_n 2, 1) := by decide +kernel
theorem dX10_copy_62 : decode cX10_copy 62 = .ok (.ifCond .lt 35, 3) := by decide +kernel
theorem dX10_copy_65 : decode cX10_copy 65 = .ok (.iload 4, 2) := by decide +kernel
theorem dX10_copy_67 : decode cX10_copy 67 = .ok (.ifCond .lt 30, 3) := by decide +kernel
theorem dX10_copy_70 : decode cX10_copy 70 = .ok (.iload_n 2, 1) := by decide +kernel
theorem dX10_copy_71 : decode cX10_copy 71 = .ok (.aload_n 0, 1) := by decide +kernel
theorem dX10_copy_72 : decode cX10_copy 72 = .ok (.getfield 60, 3) := by decide +kernel
theorem dX10_copy_75 : decode cX10_copy 75 = .ok (.iload_n 1, 1) := by decide +kernel
theorem dX10_copy_76 : decode cX10_copy 76 = .ok (.iaload, 1) := by decide +kernel
theorem dX10_copy_77 : decode cX10_copy 77 = .ok (.iload 5, 2) := by decide +kernel
theorem dX10_copy_79 : decode cX10_copy 79 = .ok (.isub, 1) := by decide +kernel
theorem dX10_copy_80 : decode cX10_copy 80 = .ok (.if_icmp .gt 17, 3) := by decide +kernel
theorem dX10_copy_83 : decode cX10_copy 83 = .ok (.iload 4, 2) := by decide +kernel
theorem dX10_copy_85 : decode cX10_copy 85 = .ok (.aload_n 0, 1) := by decide +kernel
theorem dX10_copy_86 : decode cX10_copy 86 = .ok (.getfield 60, 3) := by decide +kernel
theorem dX10_copy_89 : decode cX10_copy 89 = .ok (.iload_n 3, 1) := by decide +kernel
theorem dX10_copy_90 : decode cX10_copy 90 = .ok (.iaload, 1) := by decide +kernel
theorem dX10_copy_91 : decode cX10_copy 91 = .ok (.iload 5, 2) := by decide +kernel
theorem dX10_copy_93 : decode cX10_copy 93 = .ok (.isub, 1) := by decide +kernel
theorem dX10_copy_94 : decode cX10_copy 94 = .ok (.if_icmp .le 6, 3) := by decide +kernel
theorem dX10_copy_97 : decode cX10_copy 97 = .ok (.bipush (-12), 2) := by decide +kernel
theorem dX10_copy_99 : decode cX10_copy 99 = .ok (.ireturn, 1) := by decide +kernel
theorem dX10_copy_100 : decode cX10_copy 100 = .ok (.iload_n 1, 1) := by decide +kernel
theorem dX10_copy_101 : decode cX10_copy 101 = .ok (.iload_n 3, 1) := by decide +kernel
theorem dX10_copy_102 : decode cX10_copy 102 = .ok (.if_icmp .ne 13, 3) := by decide +kernel
theorem dX10_copy_105 : decode cX10_copy 105 = .ok (.iload_n 2, 1) := by decide +kernel
theorem dX10_copy_106 : decode cX10_copy 106 = .ok (.iload 4, 2) := by decide +kernel
theorem dX10_copy_108 : decode cX10_copy 108 = .ok (.if_icmp .ge 7, 3) := by decide +kernel
theorem dX10_copy_111 : decode cX10_copy 111 = .ok (.iconst 1, 1) := by decide +kernel
theorem dX10_copy_112 : decode cX10_copy 112 = .ok (.goto 4, 3) := by decide +kernel
theorem dX10_copy_115 : decode cX10_copy 115 = .ok (.iconst 0, 1) := by decide +kernel
theorem dX10_copy_116 : decode cX10_copy 116 = .ok (.istore 6, 2) := by decide +kernel
theorem dX10_copy_118 : decode cX10_copy 118 = .ok (.iconst 0, 1) := by decide +kernel
theorem dX10_copy_119 : decode cX10_copy 119 = .ok (.istore 7, 2) := by decide +kernel
theorem dX10_copy_121 : decode cX10_copy 121 = .ok (.iload 7, 2) := by decide +kernel
theorem dX10_copy_123 : decode cX10_copy 123 = .ok (.iload 5, 2) := by decide +kernel
theorem dX10_copy_125 : decode cX10_copy 125 = .ok (.if_icmp .ge 57, 3) := by decide +kernel
theorem dX10_copy_128 : decode cX10_copy 128 = .ok (.iload 6, 2) := by decide +kernel
theorem dX10_copy_130 : decode cX10_copy 130 = .ok (.ifCond .eq 13, 3) := by decide +kernel
theorem dX10_copy_133 : decode cX10_copy 133 = .ok (.iload 5, 2) := by decide +kernel
theorem dX10_copy_135 : decode cX10_copy 135 = .ok (.iconst 1, 1) := by decide +kernel
theorem dX10_copy_136 : decode cX10_copy 136 = .ok (.isub, 1) := by decide +kernel
theorem dX10_copy_137 : decode cX10_copy 137 = .ok (.iload 7, 2) := by decide +kernel
theorem dX10_copy_139 : decode cX10_copy 139 = .ok (.isub, 1) := by decide +kernel
theorem dX10_copy_140 : decode cX10_copy 140 = .ok (.goto 5, 3) := by decide +kernel
theorem dX10_copy_143 : decode cX10_copy 143 = .ok (.iload 7, 2) := by decide +kernel
theorem dX10_copy_145 : decode cX10_copy 145 = .ok (.istore 8, 2) := by decide +kernel
theorem dX10_copy_147 : decode cX10_copy 147 = .ok (.aload_n 0, 1) := by decide +kernel
theorem dX10_copy_148 : decode cX10_copy 148 = .ok (.getfield 63, 3) := by decide +kernel
theorem dX10_copy_151 : decode cX10_copy 151 = .ok (.bipush 40, 2) := by decide +kernel
theorem dX10_copy_153 : decode cX10_copy 153 = .ok (.iload_n 3, 1) := by decide +kernel
theorem dX10_copy_154 : decode cX10_copy 154 = .ok (.imul, 1) := by decide +kernel
theorem dX10_copy_155 : decode cX10_copy 155 = .ok (.iload 4, 2) := by decide +kernel
theorem dX10_copy_157 : decode cX10_copy 157 = .ok (.iadd, 1) := by decide +kernel
theorem dX10_copy_158 : decode cX10_copy 158 = .ok (.iload 8, 2) := by decide +kernel
theorem dX10_copy_160 : decode cX10_copy 160 = .ok (.iadd, 1) := by decide +kernel
theorem dX10_copy_161 : decode cX10_copy 161 = .ok (.aload_n 0, 1) := by decide +kernel
theorem dX10_copy_162 : decode cX10_copy 162 = .ok (.getfield 63, 3) := by decide +kernel
theorem dX10_copy_165 : decode cX10_copy 165 = .ok (.bipush 40, 2) := by decide +kernel
theorem dX10_copy_167 : decode cX10_copy 167 = .ok (.iload_n 1, 1) := by decide +kernel
theorem dX10_copy_168 : decode cX10_copy 168 = .ok (.imul, 1) := by decide +kernel
theorem dX10_copy_169 : decode cX10_copy 169 = .ok (.iload_n 2, 1) := by decide +kernel
theorem dX10_copy_170 : decode cX10_copy 170 = .ok (.iadd, 1) := by decide +kernel
theorem dX10_copy_171 : decode cX10_copy 171 = .ok (.iload 8, 2) := by decide +kernel
theorem dX10_copy_173 : decode cX10_copy 173 = .ok (.iadd, 1) := by decide +kernel
theorem dX10_copy_174 : decode cX10_copy 174 = .ok (.iaload, 1) := by decide +kernel
theorem dX10_copy_175 : decode cX10_copy 175 = .ok (.iastore, 1) := by decide +kernel
theorem dX10_copy_176 : decode cX10_copy 176 = .ok (.iinc 7 1, 3) := by decide +kernel
theorem dX10_copy_179 : decode cX10_copy 179 = .ok (.goto (-58), 3) := by decide +kernel
theorem dX10_copy_182 : decode cX10_copy 182 = .ok (.iload 5, 2) := by decide +kernel
theorem dX10_copy_184 : decode cX10_copy 184 = .ok (.ireturn, 1) := by decide +kernel
theorem dX10_people_0 : decode cX10_people 0 = .ok (.iload_n 1, 1) := by decide +kernel
theorem dX10_people_1 : decode cX10_people 1 = .ok (.invokestatic 405, 3) := by decide +kernel
theorem dX10_people_4 : decode cX10_people 4 = .ok (.ifCond .eq 28, 3) := by decide +kernel
theorem dX10_people_7 : decode cX10_people 7 = .ok (.iload_n 2, 1) := by decide +kernel
theorem dX10_people_8 : decode cX10_people 8 = .ok (.i2l, 1) := by decide +kernel
theorem dX10_people_9 : decode cX10_people 9 = .ok (.lconst 0, 1) := by decide +kernel
theorem dX10_people_10 : decode cX10_people 10 = .ok (.ldc2_w 378, 3) := by decide +kernel
theorem dX10_people_13 : decode cX10_people 13 = .ok (.invokestatic 76, 3) := by decide +kernel
theorem dX10_people_16 : decode cX10_people 16 = .ok (.ifCond .eq 16, 3) := by decide +kernel
theorem dX10_people_19 : decode cX10_people 19 = .ok (.iload 4, 2) := by decide +kernel
theorem dX10_people_21 : decode cX10_people 21 = .ok (.i2l, 1) := by decide +kernel
theorem dX10_people_22 : decode cX10_people 22 = .ok (.lconst 0, 1) := by decide +kernel
theorem dX10_people_23 : decode cX10_people 23 = .ok (.ldc2_w 91, 3) := by decide +kernel
theorem dX10_people_26 : decode cX10_people 26 = .ok (.invokestatic 76, 3) := by decide +kernel
theorem dX10_people_29 : decode cX10_people 29 = .ok (.ifCond .ne 6, 3) := by decide +kernel
theorem dX10_people_32 : decode cX10_people 32 = .ok (.bipush (-2), 2) := by decide +kernel
theorem dX10_people_34 : decode cX10_people 34 = .ok (.ireturn, 1) := by decide +kernel
theorem dX10_people_35 : decode cX10_people 35 = .ok (.aload_n 0, 1) := by decide +kernel
theorem dX10_people_36 : decode cX10_people 36 = .ok (.getfield 53, 3) := by decide +kernel
theorem dX10_people_39 : decode cX10_people 39 = .ok (.iload_n 1, 1) := by decide +kernel
theorem dX10_people_40 : decode cX10_people 40 = .ok (.baload, 1) := by decide +kernel
theorem dX10_people_41 : decode cX10_people 41 = .ok (.ifCond .eq 16, 3) := by decide +kernel
theorem dX10_people_44 : decode cX10_people 44 = .ok (.aload_n 0, 1) := by decide +kernel
theorem dX10_people_45 : decode cX10_people 45 = .ok (.getfield 57, 3) := by decide +kernel
theorem dX10_people_48 : decode cX10_people 48 = .ok (.iload_n 1, 1) := by decide +kernel
theorem dX10_people_49 : decode cX10_people 49 = .ok (.iaload, 1) := by decide +kernel
theorem dX10_people_50 : decode cX10_people 50 = .ok (.iload_n 2, 1) := by decide +kernel
theorem dX10_people_51 : decode cX10_people 51 = .ok (.if_icmp .eq 6, 3) := by decide +kernel
theorem dX10_people_54 : decode cX10_people 54 = .ok (.bipush (-13), 2) := by decide +kernel
theorem dX10_people_56 : decode cX10_people 56 = .ok (.ireturn, 1) := by decide +kernel
theorem dX10_people_57 : decode cX10_people 57 = .ok (.aload_n 0, 1) := by decide +kernel
theorem dX10_people_58 : decode cX10_people 58 = .ok (.getfield 53, 3) := by decide +kernel
theorem dX10_people_61 : decode cX10_people 61 = .ok (.iload_n 1, 1) := by decide +kernel
theorem dX10_people_62 : decode cX10_people 62 = .ok (.baload, 1) := by decide +kernel
theorem dX10_people_63 : decode cX10_people 63 = .ok (.ifCond .ne 6, 3) := by decide +kernel
theorem dX10_people_66 : decode cX10_people 66 = .ok (.bipush (-11), 2) := by decide +kernel
theorem dX10_people_68 : decode cX10_people 68 = .ok (.ireturn, 1) := by decide +kernel
theorem dX10_people_69 : decode cX10_people 69 = .ok (.iconst 0, 1) := by decide +kernel
theorem dX10_people_70 : decode cX10_people 70 = .ok (.istore 5, 2) := by decide +kernel
theorem dX10_people_72 : decode cX10_people 72 = .ok (.iconst 0, 1) := by decide +kernel
theorem dX10_people_73 : decode cX10_people 73 = .ok (.istore 6, 2) := by decide +kernel
theorem dX10_people_75 : decode cX10_people 75 = .ok (.iload 6, 2) := by decide +kernel
theorem dX10_people_77 : decode cX10_people 77 = .ok (.iload 4, 2) := by decide +kernel
theorem dX10_people_79 : decode cX10_people 79 = .ok (.if_icmp .ge 79, 3) := by decide +kernel
theorem dX10_people_82 : decode cX10_people 82 = .ok (.iload_n 3, 1) := by decide +kernel
theorem dX10_people_83 : decode cX10_people 83 = .ok (.ifCond .lt 20, 3) := by decide +kernel
theorem dX10_people_86 : decode cX10_people 86 = .ok (.iload_n 3, 1) := by decide +kernel
theorem dX10_people_87 : decode cX10_people 87 = .ok (.aload_n 0, 1) := by decide +kernel
theorem dX10_people_88 : decode cX10_people 88 = .ok (.getfield 60, 3) := by decide +kernel
theorem dX10_people_91 : decode cX10_people 91 = .ok (.iload_n 1, 1) := by decide +kernel
theorem dX10_people_92 : decode cX10_people 92 = .ok (.iaload, 1) := by decide +kernel
theorem dX10_people_93 : decode cX10_people 93 = .ok (.iconst 2, 1) := by decide +kernel
theorem dX10_people_94 : decode cX10_people 94 = .ok (.iload 6, 2) := by decide +kernel
theorem dX10_people_96 : decode cX10_people 96 = .ok (.imul, 1) := by decide +kernel
theorem dX10_people_97 : decode cX10_people 97 = .ok (.isub, 1) := by decide +kernel
theorem dX10_people_98 : decode cX10_people 98 = .ok (.iconst 2, 1) := by decide +kernel
theorem dX10_people_99 : decode cX10_people 99 = .ok (.isub, 1) := by decide +kernel
theorem dX10_people_100 : decode cX10_people 100 = .ok (.if_icmp .le 6, 3) := by decide +kernel
theorem dX10_people_103 : decode cX10_people 103 = .ok (.bipush (-12), 2) := by decide +kernel
theorem dX10_people_105 : decode cX10_people 105 = .ok (.ireturn, 1) := by decide +kernel
theorem dX10_people_106 : decode cX10_people 106 = .ok (.bipush 40, 2) := by decide +kernel
theorem dX10_people_108 : decode cX10_people 108 = .ok (.iload_n 1, 1) := by decide +kernel
theorem dX10_people_109 : decode cX10_people 109 = .ok (.imul, 1) := by decide +kernel
theorem dX10_people_110 : decode cX10_people 110 = .ok (.iload_n 3, 1) := by decide +kernel
theorem dX10_people_111 : decode cX10_people 111 = .ok (.iadd, 1) := by decide +kernel
theorem dX10_people_112 : decode cX10_people 112 = .ok (.iconst 2, 1) := by decide +kernel
theorem dX10_people_113 : decode cX10_people 113 = .ok (.iload 6, 2) := by decide +kernel
theorem dX10_people_115 : decode cX10_people 115 = .ok (.imul, 1) := by decide +kernel
theorem dX10_people_116 : decode cX10_people 116 = .ok (.iadd, 1) := by decide +kernel
theorem dX10_people_117 : decode cX10_people 117 = .ok (.istore 7, 2) := by decide +kernel
theorem dX10_people_119 : decode cX10_people 119 = .ok (.iload 5, 2) := by decide +kernel
theorem dX10_people_121 : decode cX10_people 121 = .ok (.aload_n 0, 1) := by decide +kernel
theorem dX10_people_122 : decode cX10_people 122 = .ok (.aload_n 0, 1) := by decide +kernel
theorem dX10_people_123 : decode cX10_people 123 = .ok (.getfield 63, 3) := by decide +kernel
theorem dX10_people_126 : decode cX10_people 126 = .ok (.iload 7, 2) := by decide +kernel
theorem dX10_people_128 : decode cX10_people 128 = .ok (.iaload, 1) := by decide +kernel
theorem dX10_people_129 : decode cX10_people 129 = .ok (.aload_n 0, 1) := by decide +kernel
theorem dX10_people_130 : decode cX10_people 130 = .ok (.getfield 63, 3) := by decide +kernel
theorem dX10_people_133 : decode cX10_people 133 = .ok (.iload 7, 2) := by decide +kernel
theorem dX10_people_135 : decode cX10_people 135 = .ok (.iconst 1, 1) := by decide +kernel
theorem dX10_people_136 : decode cX10_people 136 = .ok (.iadd, 1) := by decide +kernel
theorem dX10_people_137 : decode cX10_people 137 = .ok (.iaload, 1) := by decide +kernel
theorem dX10_people_138 : decode cX10_people 138 = .ok (.invokevirtual 434, 3) := by decide +kernel
theorem dX10_people_141 : decode cX10_people 141 = .ok (.ifCond .lt 7, 3) := by decide +kernel
theorem dX10_people_144 : decode cX10_people 144 = .ok (.iconst 1, 1) := by decide +kernel
theorem dX10_people_145 : decode cX10_people 145 = .ok (.goto 4, 3) := by decide +kernel
theorem dX10_people_148 : decode cX10_people 148 = .ok (.iconst 0, 1) := by decide +kernel
theorem dX10_people_149 : decode cX10_people 149 = .ok (.iadd, 1) := by decide +kernel
theorem dX10_people_150 : decode cX10_people 150 = .ok (.istore 5, 2) := by decide +kernel
theorem dX10_people_152 : decode cX10_people 152 = .ok (.iinc 6 1, 3) := by decide +kernel
theorem dX10_people_155 : decode cX10_people 155 = .ok (.goto (-80), 3) := by decide +kernel
theorem dX10_people_158 : decode cX10_people 158 = .ok (.iload 5, 2) := by decide +kernel
theorem dX10_people_160 : decode cX10_people 160 = .ok (.ireturn, 1) := by decide +kernel
theorem dX10_over_0 : decode cX10_over 0 = .ok (.iload_n 0, 1) := by decide +kernel
theorem dX10_over_1 : decode cX10_over 1 = .ok (.ifCond .ne 7, 3) := by decide +kernel
theorem dX10_over_4 : decode cX10_over 4 = .ok (.iconst (-1), 1) := by decide +kernel
theorem dX10_over_5 : decode cX10_over 5 = .ok (.goto 22, 3) := by decide +kernel
theorem dX10_over_8 : decode cX10_over 8 = .ok (.iload_n 0, 1) := by decide +kernel
theorem dX10_over_9 : decode cX10_over 9 = .ok (.iconst 3, 1) := by decide +kernel
theorem dX10_over_10 : decode cX10_over 10 = .ok (.if_icmp .ne 7, 3) := by decide +kernel
theorem dX10_over_13 : decode cX10_over 13 = .ok (.iconst 1, 1) := by decide +kernel
theorem dX10_over_14 : decode cX10_over 14 = .ok (.goto 13, 3) := by decide +kernel
theorem dX10_over_17 : decode cX10_over 17 = .ok (.iload_n 0, 1) := by decide +kernel
theorem dX10_over_18 : decode cX10_over 18 = .ok (.iconst 4, 1) := by decide +kernel
theorem dX10_over_19 : decode cX10_over 19 = .ok (.if_icmp .ne 7, 3) := by decide +kernel
theorem dX10_over_22 : decode cX10_over 22 = .ok (.iconst 2, 1) := by decide +kernel
theorem dX10_over_23 : decode cX10_over 23 = .ok (.goto 4, 3) := by decide +kernel
theorem dX10_over_26 : decode cX10_over 26 = .ok (.iconst 0, 1) := by decide +kernel
theorem dX10_over_27 : decode cX10_over 27 = .ok (.ireturn, 1) := by decide +kernel
theorem dX10_taken_0 : decode cX10_taken 0 = .ok (.iload_n 2, 1) := by decide +kernel
theorem dX10_taken_1 : decode cX10_taken 1 = .ok (.i2l, 1) := by decide +kernel
theorem dX10_taken_2 : decode cX10_taken 2 = .ok (.lconst 0, 1) := by decide +kernel
theorem dX10_taken_3 : decode cX10_taken 3 = .ok (.ldc2_w 119, 3) := by decide +kernel
theorem dX10_taken_6 : decode cX10_taken 6 = .ok (.invokestatic 76, 3) := by decide +kernel
theorem dX10_taken_9 : decode cX10_taken 9 = .ok (.ifCond .ne 6, 3) := by decide +kernel
theorem dX10_taken_12 : decode cX10_taken 12 = .ok (.bipush (-2), 2) := by decide +kernel
theorem dX10_taken_14 : decode cX10_taken 14 = .ok (.ireturn, 1) := by decide +kernel
theorem dX10_taken_15 : decode cX10_taken 15 = .ok (.aload_n 0, 1) := by decide +kernel
theorem dX10_taken_16 : decode cX10_taken 16 = .ok (.iload_n 1, 1) := by decide +kernel
theorem dX10_taken_17 : decode cX10_taken 17 = .ok (.invokevirtual 86, 3) := by decide +kernel
theorem dX10_taken_20 : decode cX10_taken 20 = .ok (.ifCond .ne 6, 3) := by decide +kernel
theorem dX10_taken_23 : decode cX10_taken 23 = .ok (.bipush (-11), 2) := by decide +kernel
theorem dX10_taken_25 : decode cX10_taken 25 = .ok (.ireturn, 1) := by decide +kernel
theorem dX10_taken_26 : decode cX10_taken 26 = .ok (.aload_n 0, 1) := by decide +kernel
theorem dX10_taken_27 : decode cX10_taken 27 = .ok (.getfield 29, 3) := by decide +kernel
theorem dX10_taken_30 : decode cX10_taken 30 = .ok (.iload_n 1, 1) := by decide +kernel
theorem dX10_taken_31 : decode cX10_taken 31 = .ok (.iaload, 1) := by decide +kernel
theorem dX10_taken_32 : decode cX10_taken 32 = .ok (.istore_n 3, 1) := by decide +kernel
theorem dX10_taken_33 : decode cX10_taken 33 = .ok (.iload_n 3, 1) := by decide +kernel
theorem dX10_taken_34 : decode cX10_taken 34 = .ok (.iconst (-1), 1) := by decide +kernel
theorem dX10_taken_35 : decode cX10_taken 35 = .ok (.if_icmp .eq 16, 3) := by decide +kernel
theorem dX10_taken_38 : decode cX10_taken 38 = .ok (.iload_n 3, 1) := by decide +kernel
theorem dX10_taken_39 : decode cX10_taken 39 = .ok (.iload_n 2, 1) := by decide +kernel
theorem dX10_taken_40 : decode cX10_taken 40 = .ok (.if_icmp .eq 11, 3) := by decide +kernel
theorem dX10_taken_43 : decode cX10_taken 43 = .ok (.iload_n 3, 1) := by decide +kernel
theorem dX10_taken_44 : decode cX10_taken 44 = .ok (.invokestatic 437, 3) := by decide +kernel
theorem dX10_taken_47 : decode cX10_taken 47 = .ok (.istore_n 3, 1) := by decide +kernel
theorem dX10_taken_48 : decode cX10_taken 48 = .ok (.goto (-15), 3) := by decide +kernel
theorem dX10_taken_51 : decode cX10_taken 51 = .ok (.iload_n 3, 1) := by decide +kernel
theorem dX10_taken_52 : decode cX10_taken 52 = .ok (.iload_n 2, 1) := by decide +kernel
theorem dX10_taken_53 : decode cX10_taken 53 = .ok (.if_icmp .ne 14, 3) := by decide +kernel
theorem dX10_taken_56 : decode cX10_taken 56 = .ok (.aload_n 0, 1) := by decide +kernel
theorem dX10_taken_57 : decode cX10_taken 57 = .ok (.getfield 32, 3) := by decide +kernel
theorem dX10_taken_60 : decode cX10_taken 60 = .ok (.iconst 2, 1) := by decide +kernel
theorem dX10_taken_61 : decode cX10_taken 61 = .ok (.iload_n 1, 1) := by decide +kernel
theorem dX10_taken_62 : decode cX10_taken 62 = .ok (.imul, 1) := by decide +kernel
theorem dX10_taken_63 : decode cX10_taken 63 = .ok (.iaload, 1) := by decide +kernel
theorem dX10_taken_64 : decode cX10_taken 64 = .ok (.goto 5, 3) := by decide +kernel
theorem dX10_taken_67 : decode cX10_taken 67 = .ok (.bipush (-13), 2) := by decide +kernel
theorem dX10_taken_69 : decode cX10_taken 69 = .ok (.ireturn, 1) := by decide +kernel
