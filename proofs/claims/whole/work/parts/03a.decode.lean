theorem dX0_thinks_0 : decode cX0_thinks 0 = .ok (.iload_n 1, 1) := by decide +kernel
theorem dX0_thinks_1 : decode cX0_thinks 1 = .ok (.ifCond .ge 7, 3) := by decide +kernel
theorem dX0_thinks_4 : decode cX0_thinks 4 = .ok (.iconst 0, 1) := by decide +kernel
theorem dX0_thinks_5 : decode cX0_thinks 5 = .ok (.goto 4, 3) := by decide +kernel
theorem dX0_thinks_8 : decode cX0_thinks 8 = .ok (.iload_n 1, 1) := by decide +kernel
theorem dX0_thinks_9 : decode cX0_thinks 9 = .ok (.istore 5, 2) := by decide +kernel
theorem dX0_thinks_11 : decode cX0_thinks 11 = .ok (.iload_n 2, 1) := by decide +kernel
theorem dX0_thinks_12 : decode cX0_thinks 12 = .ok (.iload 4, 2) := by decide +kernel
theorem dX0_thinks_14 : decode cX0_thinks 14 = .ok (.bipush 8, 2) := by decide +kernel
theorem dX0_thinks_16 : decode cX0_thinks 16 = .ok (.irem, 1) := by decide +kernel
theorem dX0_thinks_17 : decode cX0_thinks 17 = .ok (.if_icmp .ne 9, 3) := by decide +kernel
theorem dX0_thinks_20 : decode cX0_thinks 20 = .ok (.iconst 2, 1) := by decide +kernel
theorem dX0_thinks_21 : decode cX0_thinks 21 = .ok (.iload_n 1, 1) := by decide +kernel
theorem dX0_thinks_22 : decode cX0_thinks 22 = .ok (.imul, 1) := by decide +kernel
theorem dX0_thinks_23 : decode cX0_thinks 23 = .ok (.goto 4, 3) := by decide +kernel
theorem dX0_thinks_26 : decode cX0_thinks 26 = .ok (.iconst 0, 1) := by decide +kernel
theorem dX0_thinks_27 : decode cX0_thinks 27 = .ok (.istore 6, 2) := by decide +kernel
theorem dX0_thinks_29 : decode cX0_thinks 29 = .ok (.iload_n 0, 1) := by decide +kernel
theorem dX0_thinks_30 : decode cX0_thinks 30 = .ok (.tableswitch 81 1 5 #[34, 37, 40, 56, 70], 34) := by decide +kernel
theorem dX0_thinks_64 : decode cX0_thinks 64 = .ok (.iload 5, 2) := by decide +kernel
theorem dX0_thinks_66 : decode cX0_thinks 66 = .ok (.ireturn, 1) := by decide +kernel
theorem dX0_thinks_67 : decode cX0_thinks 67 = .ok (.iload 6, 2) := by decide +kernel
theorem dX0_thinks_69 : decode cX0_thinks 69 = .ok (.ireturn, 1) := by decide +kernel
theorem dX0_thinks_70 : decode cX0_thinks 70 = .ok (.iload_n 3, 1) := by decide +kernel
theorem dX0_thinks_71 : decode cX0_thinks 71 = .ok (.iload 4, 2) := by decide +kernel
theorem dX0_thinks_73 : decode cX0_thinks 73 = .ok (.if_icmp .ge 10, 3) := by decide +kernel
theorem dX0_thinks_76 : decode cX0_thinks 76 = .ok (.iload 5, 2) := by decide +kernel
theorem dX0_thinks_78 : decode cX0_thinks 78 = .ok (.iconst 5, 1) := by decide +kernel
theorem dX0_thinks_79 : decode cX0_thinks 79 = .ok (.isub, 1) := by decide +kernel
theorem dX0_thinks_80 : decode cX0_thinks 80 = .ok (.goto 5, 3) := by decide +kernel
theorem dX0_thinks_83 : decode cX0_thinks 83 = .ok (.iload 5, 2) := by decide +kernel
theorem dX0_thinks_85 : decode cX0_thinks 85 = .ok (.ireturn, 1) := by decide +kernel
theorem dX0_thinks_86 : decode cX0_thinks 86 = .ok (.iload_n 2, 1) := by decide +kernel
theorem dX0_thinks_87 : decode cX0_thinks 87 = .ok (.bipush 7, 2) := by decide +kernel
theorem dX0_thinks_89 : decode cX0_thinks 89 = .ok (.if_icmp .ne 8, 3) := by decide +kernel
theorem dX0_thinks_92 : decode cX0_thinks 92 = .ok (.bipush 9, 2) := by decide +kernel
theorem dX0_thinks_94 : decode cX0_thinks 94 = .ok (.goto 5, 3) := by decide +kernel
theorem dX0_thinks_97 : decode cX0_thinks 97 = .ok (.iload 6, 2) := by decide +kernel
theorem dX0_thinks_99 : decode cX0_thinks 99 = .ok (.ireturn, 1) := by decide +kernel
theorem dX0_thinks_100 : decode cX0_thinks 100 = .ok (.iload_n 1, 1) := by decide +kernel
theorem dX0_thinks_101 : decode cX0_thinks 101 = .ok (.ifCond .ge 8, 3) := by decide +kernel
theorem dX0_thinks_104 : decode cX0_thinks 104 = .ok (.iload_n 1, 1) := by decide +kernel
theorem dX0_thinks_105 : decode cX0_thinks 105 = .ok (.ineg, 1) := by decide +kernel
theorem dX0_thinks_106 : decode cX0_thinks 106 = .ok (.goto 4, 3) := by decide +kernel
theorem dX0_thinks_109 : decode cX0_thinks 109 = .ok (.iload_n 1, 1) := by decide +kernel
theorem dX0_thinks_110 : decode cX0_thinks 110 = .ok (.ireturn, 1) := by decide +kernel
theorem dX0_thinks_111 : decode cX0_thinks 111 = .ok (.iload_n 1, 1) := by decide +kernel
theorem dX0_thinks_112 : decode cX0_thinks 112 = .ok (.ireturn, 1) := by decide +kernel
theorem dX0_mending_0 : decode cX0_mending 0 = .ok (.iload_n 0, 1) := by decide +kernel
theorem dX0_mending_1 : decode cX0_mending 1 = .ok (.tableswitch 49 1 5 #[35, 39, 41, 39, 47], 35) := by decide +kernel
theorem dX0_mending_36 : decode cX0_mending 36 = .ok (.iload_n 1, 1) := by decide +kernel
theorem dX0_mending_37 : decode cX0_mending 37 = .ok (.iconst 2, 1) := by decide +kernel
theorem dX0_mending_38 : decode cX0_mending 38 = .ok (.idiv, 1) := by decide +kernel
theorem dX0_mending_39 : decode cX0_mending 39 = .ok (.ireturn, 1) := by decide +kernel
theorem dX0_mending_40 : decode cX0_mending 40 = .ok (.iconst 1, 1) := by decide +kernel
theorem dX0_mending_41 : decode cX0_mending 41 = .ok (.ireturn, 1) := by decide +kernel
theorem dX0_mending_42 : decode cX0_mending 42 = .ok (.iload_n 1, 1) := by decide +kernel
theorem dX0_mending_43 : decode cX0_mending 43 = .ok (.iconst 2, 1) := by decide +kernel
theorem dX0_mending_44 : decode cX0_mending 44 = .ok (.idiv, 1) := by decide +kernel
theorem dX0_mending_45 : decode cX0_mending 45 = .ok (.iload_n 2, 1) := by decide +kernel
theorem dX0_mending_46 : decode cX0_mending 46 = .ok (.iadd, 1) := by decide +kernel
theorem dX0_mending_47 : decode cX0_mending 47 = .ok (.ireturn, 1) := by decide +kernel
theorem dX0_mending_48 : decode cX0_mending 48 = .ok (.iconst 0, 1) := by decide +kernel
theorem dX0_mending_49 : decode cX0_mending 49 = .ok (.ireturn, 1) := by decide +kernel
theorem dX0_mending_50 : decode cX0_mending 50 = .ok (.iload_n 1, 1) := by decide +kernel
theorem dX0_mending_51 : decode cX0_mending 51 = .ok (.ireturn, 1) := by decide +kernel
theorem dX0_claims_0 : decode cX0_claims 0 = .ok (.iload_n 0, 1) := by decide +kernel
theorem dX0_claims_1 : decode cX0_claims 1 = .ok (.tableswitch 40 2 5 #[31, 33, 31, 37], 31) := by decide +kernel
theorem dX0_claims_32 : decode cX0_claims 32 = .ok (.iconst 0, 1) := by decide +kernel
theorem dX0_claims_33 : decode cX0_claims 33 = .ok (.ireturn, 1) := by decide +kernel
theorem dX0_claims_34 : decode cX0_claims 34 = .ok (.iconst 2, 1) := by decide +kernel
theorem dX0_claims_35 : decode cX0_claims 35 = .ok (.iload_n 1, 1) := by decide +kernel
theorem dX0_claims_36 : decode cX0_claims 36 = .ok (.imul, 1) := by decide +kernel
theorem dX0_claims_37 : decode cX0_claims 37 = .ok (.ireturn, 1) := by decide +kernel
theorem dX0_claims_38 : decode cX0_claims 38 = .ok (.iload_n 2, 1) := by decide +kernel
theorem dX0_claims_39 : decode cX0_claims 39 = .ok (.ineg, 1) := by decide +kernel
theorem dX0_claims_40 : decode cX0_claims 40 = .ok (.ireturn, 1) := by decide +kernel
theorem dX0_claims_41 : decode cX0_claims 41 = .ok (.iload_n 1, 1) := by decide +kernel
theorem dX0_claims_42 : decode cX0_claims 42 = .ok (.ireturn, 1) := by decide +kernel
theorem dX0_isUnder_0 : decode cX0_isUnder 0 = .ok (.iload_n 0, 1) := by decide +kernel
theorem dX0_isUnder_1 : decode cX0_isUnder 1 = .ok (.istore_n 2, 1) := by decide +kernel
theorem dX0_isUnder_2 : decode cX0_isUnder 2 = .ok (.iconst 0, 1) := by decide +kernel
theorem dX0_isUnder_3 : decode cX0_isUnder 3 = .ok (.istore_n 3, 1) := by decide +kernel
theorem dX0_isUnder_4 : decode cX0_isUnder 4 = .ok (.iload_n 3, 1) := by decide +kernel
theorem dX0_isUnder_5 : decode cX0_isUnder 5 = .ok (.bipush 6, 2) := by decide +kernel
theorem dX0_isUnder_7 : decode cX0_isUnder 7 = .ok (.if_icmp .ge 32, 3) := by decide +kernel
theorem dX0_isUnder_10 : decode cX0_isUnder 10 = .ok (.iload_n 2, 1) := by decide +kernel
theorem dX0_isUnder_11 : decode cX0_isUnder 11 = .ok (.ifCond .lt 28, 3) := by decide +kernel
theorem dX0_isUnder_14 : decode cX0_isUnder 14 = .ok (.iload_n 2, 1) := by decide +kernel
theorem dX0_isUnder_15 : decode cX0_isUnder 15 = .ok (.bipush 6, 2) := by decide +kernel
theorem dX0_isUnder_17 : decode cX0_isUnder 17 = .ok (.if_icmp .ge 22, 3) := by decide +kernel
theorem dX0_isUnder_20 : decode cX0_isUnder 20 = .ok (.iload_n 2, 1) := by decide +kernel
theorem dX0_isUnder_21 : decode cX0_isUnder 21 = .ok (.iload_n 1, 1) := by decide +kernel
theorem dX0_isUnder_22 : decode cX0_isUnder 22 = .ok (.if_icmp .ne 5, 3) := by decide +kernel
theorem dX0_isUnder_25 : decode cX0_isUnder 25 = .ok (.iconst 1, 1) := by decide +kernel
theorem dX0_isUnder_26 : decode cX0_isUnder 26 = .ok (.ireturn, 1) := by decide +kernel
theorem dX0_isUnder_27 : decode cX0_isUnder 27 = .ok (.getstatic 9, 3) := by decide +kernel
theorem dX0_isUnder_30 : decode cX0_isUnder 30 = .ok (.iload_n 2, 1) := by decide +kernel
theorem dX0_isUnder_31 : decode cX0_isUnder 31 = .ok (.iaload, 1) := by decide +kernel
theorem dX0_isUnder_32 : decode cX0_isUnder 32 = .ok (.istore_n 2, 1) := by decide +kernel
theorem dX0_isUnder_33 : decode cX0_isUnder 33 = .ok (.iinc 3 1, 3) := by decide +kernel
theorem dX0_isUnder_36 : decode cX0_isUnder 36 = .ok (.goto (-32), 3) := by decide +kernel
theorem dX0_isUnder_39 : decode cX0_isUnder 39 = .ok (.iconst 0, 1) := by decide +kernel
theorem dX0_isUnder_40 : decode cX0_isUnder 40 = .ok (.ireturn, 1) := by decide +kernel
theorem dX1_init_0 : decode cX1_init 0 = .ok (.aload_n 0, 1) := by decide +kernel
theorem dX1_init_1 : decode cX1_init 1 = .ok (.invokespecial 3, 3) := by decide +kernel
theorem dX1_init_4 : decode cX1_init 4 = .ok (.aload_n 0, 1) := by decide +kernel
theorem dX1_init_5 : decode cX1_init 5 = .ok (.bipush 6, 2) := by decide +kernel
theorem dX1_init_7 : decode cX1_init 7 = .ok (.newarray .int, 2) := by decide +kernel
theorem dX1_init_9 : decode cX1_init 9 = .ok (.putfield 9, 3) := by decide +kernel
theorem dX1_init_12 : decode cX1_init 12 = .ok (.aload_n 0, 1) := by decide +kernel
theorem dX1_init_13 : decode cX1_init 13 = .ok (.sipush 160, 3) := by decide +kernel
theorem dX1_init_16 : decode cX1_init 16 = .ok (.newarray .int, 2) := by decide +kernel
theorem dX1_init_18 : decode cX1_init 18 = .ok (.putfield 15, 3) := by decide +kernel
theorem dX1_init_21 : decode cX1_init 21 = .ok (.return_, 1) := by decide +kernel
theorem dX1_know_0 : decode cX1_know 0 = .ok (.aload_n 0, 1) := by decide +kernel
theorem dX1_know_1 : decode cX1_know 1 = .ok (.getfield 9, 3) := by decide +kernel
theorem dX1_know_4 : decode cX1_know 4 = .ok (.iconst 0, 1) := by decide +kernel
theorem dX1_know_5 : decode cX1_know 5 = .ok (.iconst 0, 1) := by decide +kernel
theorem dX1_know_6 : decode cX1_know 6 = .ok (.iastore, 1) := by decide +kernel
theorem dX1_know_7 : decode cX1_know 7 = .ok (.aload_n 0, 1) := by decide +kernel
theorem dX1_know_8 : decode cX1_know 8 = .ok (.getfield 9, 3) := by decide +kernel
theorem dX1_know_11 : decode cX1_know 11 = .ok (.iconst 1, 1) := by decide +kernel
theorem dX1_know_12 : decode cX1_know 12 = .ok (.iconst 0, 1) := by decide +kernel
theorem dX1_know_13 : decode cX1_know 13 = .ok (.iastore, 1) := by decide +kernel
theorem dX1_know_14 : decode cX1_know 14 = .ok (.aload_n 0, 1) := by decide +kernel
theorem dX1_know_15 : decode cX1_know 15 = .ok (.getfield 9, 3) := by decide +kernel
theorem dX1_know_18 : decode cX1_know 18 = .ok (.iconst 2, 1) := by decide +kernel
theorem dX1_know_19 : decode cX1_know 19 = .ok (.aload_n 1, 1) := by decide +kernel
theorem dX1_know_20 : decode cX1_know 20 = .ok (.getfield 20, 3) := by decide +kernel
theorem dX1_know_23 : decode cX1_know 23 = .ok (.iastore, 1) := by decide +kernel
theorem dX1_know_24 : decode cX1_know 24 = .ok (.aload_n 0, 1) := by decide +kernel
theorem dX1_know_25 : decode cX1_know 25 = .ok (.getfield 9, 3) := by decide +kernel
theorem dX1_know_28 : decode cX1_know 28 = .ok (.iconst 3, 1) := by decide +kernel
theorem dX1_know_29 : decode cX1_know 29 = .ok (.aload_n 1, 1) := by decide +kernel
theorem dX1_know_30 : decode cX1_know 30 = .ok (.getfield 26, 3) := by decide +kernel
theorem dX1_know_33 : decode cX1_know 33 = .ok (.iload_n 2, 1) := by decide +kernel
theorem dX1_know_34 : decode cX1_know 34 = .ok (.iaload, 1) := by decide +kernel
theorem dX1_know_35 : decode cX1_know 35 = .ok (.iastore, 1) := by decide +kernel
theorem dX1_know_36 : decode cX1_know 36 = .ok (.aload_n 0, 1) := by decide +kernel
theorem dX1_know_37 : decode cX1_know 37 = .ok (.getfield 9, 3) := by decide +kernel
theorem dX1_know_40 : decode cX1_know 40 = .ok (.iconst 4, 1) := by decide +kernel
theorem dX1_know_41 : decode cX1_know 41 = .ok (.iconst 0, 1) := by decide +kernel
theorem dX1_know_42 : decode cX1_know 42 = .ok (.iastore, 1) := by decide +kernel
theorem dX1_know_43 : decode cX1_know 43 = .ok (.aload_n 0, 1) := by decide +kernel
theorem dX1_know_44 : decode cX1_know 44 = .ok (.getfield 9, 3) := by decide +kernel
theorem dX1_know_47 : decode cX1_know 47 = .ok (.iconst 5, 1) := by decide +kernel
theorem dX1_know_48 : decode cX1_know 48 = .ok (.iconst 0, 1) := by decide +kernel
theorem dX1_know_49 : decode cX1_know 49 = .ok (.iastore, 1) := by decide +kernel
theorem dX1_know_50 : decode cX1_know 50 = .ok (.return_, 1) := by decide +kernel
theorem dX1_knowHour_0 : decode cX1_knowHour 0 = .ok (.aload_n 0, 1) := by decide +kernel
theorem dX1_knowHour_1 : decode cX1_knowHour 1 = .ok (.getfield 9, 3) := by decide +kernel
theorem dX1_knowHour_4 : decode cX1_knowHour 4 = .ok (.iconst 0, 1) := by decide +kernel
theorem dX1_knowHour_5 : decode cX1_knowHour 5 = .ok (.aload_n 1, 1) := by decide +kernel
theorem dX1_knowHour_6 : decode cX1_knowHour 6 = .ok (.getfield 29, 3) := by decide +kernel
theorem dX1_knowHour_9 : decode cX1_knowHour 9 = .ok (.iload_n 2, 1) := by decide +kernel
theorem dX1_knowHour_10 : decode cX1_knowHour 10 = .ok (.iaload, 1) := by decide +kernel
theorem dX1_knowHour_11 : decode cX1_knowHour 11 = .ok (.iastore, 1) := by decide +kernel
theorem dX1_knowHour_12 : decode cX1_knowHour 12 = .ok (.aload_n 0, 1) := by decide +kernel
theorem dX1_knowHour_13 : decode cX1_knowHour 13 = .ok (.getfield 9, 3) := by decide +kernel
theorem dX1_knowHour_16 : decode cX1_knowHour 16 = .ok (.iconst 1, 1) := by decide +kernel
theorem dX1_knowHour_17 : decode cX1_knowHour 17 = .ok (.iload_n 2, 1) := by decide +kernel
theorem dX1_knowHour_18 : decode cX1_knowHour 18 = .ok (.iastore, 1) := by decide +kernel
theorem dX1_knowHour_19 : decode cX1_knowHour 19 = .ok (.aload_n 0, 1) := by decide +kernel
theorem dX1_knowHour_20 : decode cX1_knowHour 20 = .ok (.getfield 9, 3) := by decide +kernel
theorem dX1_knowHour_23 : decode cX1_knowHour 23 = .ok (.iconst 4, 1) := by decide +kernel
theorem dX1_knowHour_24 : decode cX1_knowHour 24 = .ok (.aload_n 1, 1) := by decide +kernel
theorem dX1_knowHour_25 : decode cX1_knowHour 25 = .ok (.iload_n 2, 1) := by decide +kernel
theorem dX1_knowHour_26 : decode cX1_knowHour 26 = .ok (.invokevirtual 32, 3) := by decide +kernel
theorem dX1_knowHour_29 : decode cX1_knowHour 29 = .ok (.iastore, 1) := by decide +kernel
theorem dX1_knowHour_30 : decode cX1_knowHour 30 = .ok (.aload_n 0, 1) := by decide +kernel
theorem dX1_knowHour_31 : decode cX1_knowHour 31 = .ok (.getfield 9, 3) := by decide +kernel
theorem dX1_knowHour_34 : decode cX1_knowHour 34 = .ok (.iconst 5, 1) := by decide +kernel
theorem dX1_knowHour_35 : decode cX1_knowHour 35 = .ok (.aload_n 1, 1) := by decide +kernel
theorem dX1_knowHour_36 : decode cX1_knowHour 36 = .ok (.iload_n 2, 1) := by decide +kernel
theorem dX1_knowHour_37 : decode cX1_knowHour 37 = .ok (.invokevirtual 36, 3) := by decide +kernel
theorem dX1_knowHour_40 : decode cX1_knowHour 40 = .ok (.iastore, 1) := by decide +kernel
theorem dX1_knowHour_41 : decode cX1_knowHour 41 = .ok (.return_, 1) := by decide +kernel
theorem dX1_valueOf_0 : decode cX1_valueOf 0 = .ok (.iconst 0, 1) := by decide +kernel
theorem dX1_valueOf_1 : decode cX1_valueOf 1 = .ok (.istore_n 3, 1) := by decide +kernel
theorem dX1_valueOf_2 : decode cX1_valueOf 2 = .ok (.aload_n 1, 1) := by decide +kernel
theorem dX1_valueOf_3 : decode cX1_valueOf 3 = .ok (.getfield 39, 3) := by decide +kernel
theorem dX1_valueOf_6 : decode cX1_valueOf 6 = .ok (.iload_n 2, 1) := by decide +kernel
theorem dX1_valueOf_7 : decode cX1_valueOf 7 = .ok (.iconst 1, 1) := by decide +kernel
theorem dX1_valueOf_8 : decode cX1_valueOf 8 = .ok (.iadd, 1) := by decide +kernel
theorem dX1_valueOf_9 : decode cX1_valueOf 9 = .ok (.iaload, 1) := by decide +kernel
theorem dX1_valueOf_10 : decode cX1_valueOf 10 = .ok (.istore 4, 2) := by decide +kernel
theorem dX1_valueOf_12 : decode cX1_valueOf 12 = .ok (.aload_n 1, 1) := by decide +kernel
theorem dX1_valueOf_13 : decode cX1_valueOf 13 = .ok (.getfield 39, 3) := by decide +kernel
theorem dX1_valueOf_16 : decode cX1_valueOf 16 = .ok (.iload_n 2, 1) := by decide +kernel
theorem dX1_valueOf_17 : decode cX1_valueOf 17 = .ok (.iaload, 1) := by decide +kernel
theorem dX1_valueOf_18 : decode cX1_valueOf 18 = .ok (.istore 5, 2) := by decide +kernel
theorem dX1_valueOf_20 : decode cX1_valueOf 20 = .ok (.iload 5, 2) := by decide +kernel
theorem dX1_valueOf_22 : decode cX1_valueOf 22 = .ok (.iload 4, 2) := by decide +kernel
theorem dX1_valueOf_24 : decode cX1_valueOf 24 = .ok (.if_icmp .ge 178, 3) := by decide +kernel
theorem dX1_valueOf_27 : decode cX1_valueOf 27 = .ok (.aload_n 1, 1) := by decide +kernel
theorem dX1_valueOf_28 : decode cX1_valueOf 28 = .ok (.getfield 44, 3) := by decide +kernel
theorem dX1_valueOf_31 : decode cX1_valueOf 31 = .ok (.iload 5, 2) := by decide +kernel
theorem dX1_valueOf_33 : decode cX1_valueOf 33 = .ok (.iaload, 1) := by decide +kernel
theorem dX1_valueOf_34 : decode cX1_valueOf 34 = .ok (.ineg, 1) := by decide +kernel
theorem dX1_valueOf_35 : decode cX1_valueOf 35 = .ok (.istore 6, 2) := by decide +kernel
theorem dX1_valueOf_37 : decode cX1_valueOf 37 = .ok (.iload 6, 2) := by decide +kernel
theorem dX1_valueOf_39 : decode cX1_valueOf 39 = .ok (.ifCond .le 11, 3) := by decide +kernel
theorem dX1_valueOf_42 : decode cX1_valueOf 42 = .ok (.iload 6, 2) := by decide +kernel
theorem dX1_valueOf_44 : decode cX1_valueOf 44 = .ok (.invokestatic 47, 3) := by decide +kernel
theorem dX1_valueOf_47 : decode cX1_valueOf 47 = .ok (.ifCond .eq 48, 3) := by decide +kernel
theorem dX1_valueOf_50 : decode cX1_valueOf 50 = .ok (.iload_n 3, 1) := by decide +kernel
theorem dX1_valueOf_51 : decode cX1_valueOf 51 = .ok (.aload_n 0, 1) := by decide +kernel
theorem dX1_valueOf_52 : decode cX1_valueOf 52 = .ok (.getfield 15, 3) := by decide +kernel
theorem dX1_valueOf_55 : decode cX1_valueOf 55 = .ok (.arraylength, 1) := by decide +kernel
theorem dX1_valueOf_56 : decode cX1_valueOf 56 = .ok (.if_icmp .lt 5, 3) := by decide +kernel
theorem dX1_valueOf_59 : decode cX1_valueOf 59 = .ok (.iconst 0, 1) := by decide +kernel
theorem dX1_valueOf_60 : decode cX1_valueOf 60 = .ok (.ireturn, 1) := by decide +kernel
theorem dX1_valueOf_61 : decode cX1_valueOf 61 = .ok (.aload_n 0, 1) := by decide +kernel
theorem dX1_valueOf_62 : decode cX1_valueOf 62 = .ok (.getfield 15, 3) := by decide +kernel
theorem dX1_valueOf_65 : decode cX1_valueOf 65 = .ok (.iload_n 3, 1) := by decide +kernel
theorem dX1_valueOf_66 : decode cX1_valueOf 66 = .ok (.iload 6, 2) := by decide +kernel
theorem dX1_valueOf_68 : decode cX1_valueOf 68 = .ok (.ifCond .gt 9, 3) := by decide +kernel
theorem dX1_valueOf_71 : decode cX1_valueOf 71 = .ok (.iload 6, 2) := by decide +kernel
theorem dX1_valueOf_73 : decode cX1_valueOf 73 = .ok (.ineg, 1) := by decide +kernel
theorem dX1_valueOf_74 : decode cX1_valueOf 74 = .ok (.goto 14, 3) := by decide +kernel
theorem dX1_valueOf_77 : decode cX1_valueOf 77 = .ok (.aload_n 0, 1) := by decide +kernel
theorem dX1_valueOf_78 : decode cX1_valueOf 78 = .ok (.getfield 9, 3) := by decide +kernel
theorem dX1_valueOf_81 : decode cX1_valueOf 81 = .ok (.iload 6, 2) := by decide +kernel
theorem dX1_valueOf_83 : decode cX1_valueOf 83 = .ok (.sipush 200, 3) := by decide +kernel
theorem dX1_valueOf_86 : decode cX1_valueOf 86 = .ok (.isub, 1) := by decide +kernel
theorem dX1_valueOf_87 : decode cX1_valueOf 87 = .ok (.iaload, 1) := by decide +kernel
theorem dX1_valueOf_88 : decode cX1_valueOf 88 = .ok (.iastore, 1) := by decide +kernel
theorem dX1_valueOf_89 : decode cX1_valueOf 89 = .ok (.iinc 3 1, 3) := by decide +kernel
theorem dX1_valueOf_92 : decode cX1_valueOf 92 = .ok (.goto 104, 3) := by decide +kernel
theorem dX1_valueOf_95 : decode cX1_valueOf 95 = .ok (.iload 6, 2) := by decide +kernel
theorem dX1_valueOf_97 : decode cX1_valueOf 97 = .ok (.iconst 3, 1) := by decide +kernel
theorem dX1_valueOf_98 : decode cX1_valueOf 98 = .ok (.if_icmp .eq 11, 3) := by decide +kernel
theorem dX1_valueOf_101 : decode cX1_valueOf 101 = .ok (.iload 6, 2) := by decide +kernel
theorem dX1_valueOf_103 : decode cX1_valueOf 103 = .ok (.sipush 211, 3) := by decide +kernel
theorem dX1_valueOf_106 : decode cX1_valueOf 106 = .ok (.if_icmp .ne 53, 3) := by decide +kernel
theorem dX1_valueOf_109 : decode cX1_valueOf 109 = .ok (.iload_n 3, 1) := by decide +kernel
theorem dX1_valueOf_110 : decode cX1_valueOf 110 = .ok (.iconst 1, 1) := by decide +kernel
theorem dX1_valueOf_111 : decode cX1_valueOf 111 = .ok (.if_icmp .ge 5, 3) := by decide +kernel
theorem dX1_valueOf_114 : decode cX1_valueOf 114 = .ok (.iconst 0, 1) := by decide +kernel
theorem dX1_valueOf_115 : decode cX1_valueOf 115 = .ok (.ireturn, 1) := by decide +kernel
theorem dX1_valueOf_116 : decode cX1_valueOf 116 = .ok (.aload_n 0, 1) := by decide +kernel
theorem dX1_valueOf_117 : decode cX1_valueOf 117 = .ok (.getfield 15, 3) := by decide +kernel
theorem dX1_valueOf_120 : decode cX1_valueOf 120 = .ok (.iload_n 3, 1) := by decide +kernel
theorem dX1_valueOf_121 : decode cX1_valueOf 121 = .ok (.iconst 1, 1) := by decide +kernel
theorem dX1_valueOf_122 : decode cX1_valueOf 122 = .ok (.isub, 1) := by decide +kernel
theorem dX1_valueOf_123 : decode cX1_valueOf 123 = .ok (.iaload, 1) := by decide +kernel
theorem dX1_valueOf_124 : decode cX1_valueOf 124 = .ok (.istore 7, 2) := by decide +kernel
theorem dX1_valueOf_126 : decode cX1_valueOf 126 = .ok (.aload_n 0, 1) := by decide +kernel
theorem dX1_valueOf_127 : decode cX1_valueOf 127 = .ok (.getfield 15, 3) := by decide +kernel
theorem dX1_valueOf_130 : decode cX1_valueOf 130 = .ok (.iload_n 3, 1) := by decide +kernel
theorem dX1_valueOf_131 : decode cX1_valueOf 131 = .ok (.iconst 1, 1) := by decide +kernel
theorem dX1_valueOf_132 : decode cX1_valueOf 132 = .ok (.isub, 1) := by decide +kernel
theorem dX1_valueOf_133 : decode cX1_valueOf 133 = .ok (.iload 6, 2) := by decide +kernel
theorem dX1_valueOf_135 : decode cX1_valueOf 135 = .ok (.iconst 3, 1) := by decide +kernel
theorem dX1_valueOf_136 : decode cX1_valueOf 136 = .ok (.if_icmp .ne 9, 3) := by decide +kernel
theorem dX1_valueOf_139 : decode cX1_valueOf 139 = .ok (.iload 7, 2) := by decide +kernel
theorem dX1_valueOf_141 : decode cX1_valueOf 141 = .ok (.ineg, 1) := by decide +kernel
theorem dX1_valueOf_142 : decode cX1_valueOf 142 = .ok (.goto 13, 3) := by decide +kernel
theorem dX1_valueOf_145 : decode cX1_valueOf 145 = .ok (.iload 7, 2) := by decide +kernel
theorem dX1_valueOf_147 : decode cX1_valueOf 147 = .ok (.ifCond .ne 7, 3) := by decide +kernel
theorem dX1_valueOf_150 : decode cX1_valueOf 150 = .ok (.iconst 1, 1) := by decide +kernel
theorem dX1_valueOf_151 : decode cX1_valueOf 151 = .ok (.goto 4, 3) := by decide +kernel
theorem dX1_valueOf_154 : decode cX1_valueOf 154 = .ok (.iconst 0, 1) := by decide +kernel
theorem dX1_valueOf_155 : decode cX1_valueOf 155 = .ok (.iastore, 1) := by decide +kernel
theorem dX1_valueOf_156 : decode cX1_valueOf 156 = .ok (.goto 40, 3) := by decide +kernel
theorem dX1_valueOf_159 : decode cX1_valueOf 159 = .ok (.iload_n 3, 1) := by decide +kernel
theorem dX1_valueOf_160 : decode cX1_valueOf 160 = .ok (.iconst 2, 1) := by decide +kernel
theorem dX1_valueOf_161 : decode cX1_valueOf 161 = .ok (.if_icmp .ge 5, 3) := by decide +kernel
theorem dX1_valueOf_164 : decode cX1_valueOf 164 = .ok (.iconst 0, 1) := by decide +kernel
theorem dX1_valueOf_165 : decode cX1_valueOf 165 = .ok (.ireturn, 1) := by decide +kernel
theorem dX1_valueOf_166 : decode cX1_valueOf 166 = .ok (.iinc 3 (-1), 3) := by decide +kernel
theorem dX1_valueOf_169 : decode cX1_valueOf 169 = .ok (.aload_n 0, 1) := by decide +kernel
theorem dX1_valueOf_170 : decode cX1_valueOf 170 = .ok (.getfield 15, 3) := by decide +kernel
theorem dX1_valueOf_173 : decode cX1_valueOf 173 = .ok (.iload_n 3, 1) := by decide +kernel
theorem dX1_valueOf_174 : decode cX1_valueOf 174 = .ok (.iconst 1, 1) := by decide +kernel
theorem dX1_valueOf_175 : decode cX1_valueOf 175 = .ok (.isub, 1) := by decide +kernel
theorem dX1_valueOf_176 : decode cX1_valueOf 176 = .ok (.iload 6, 2) := by decide +kernel
theorem dX1_valueOf_178 : decode cX1_valueOf 178 = .ok (.aload_n 0, 1) := by decide +kernel
theorem dX1_valueOf_179 : decode cX1_valueOf 179 = .ok (.getfield 15, 3) := by decide +kernel
theorem dX1_valueOf_182 : decode cX1_valueOf 182 = .ok (.iload_n 3, 1) := by decide +kernel
theorem dX1_valueOf_183 : decode cX1_valueOf 183 = .ok (.iconst 1, 1) := by decide +kernel
theorem dX1_valueOf_184 : decode cX1_valueOf 184 = .ok (.isub, 1) := by decide +kernel
theorem dX1_valueOf_185 : decode cX1_valueOf 185 = .ok (.iaload, 1) := by decide +kernel
theorem dX1_valueOf_186 : decode cX1_valueOf 186 = .ok (.aload_n 0, 1) := by decide +kernel
theorem dX1_valueOf_187 : decode cX1_valueOf 187 = .ok (.getfield 15, 3) := by decide +kernel
theorem dX1_valueOf_190 : decode cX1_valueOf 190 = .ok (.iload_n 3, 1) := by decide +kernel
theorem dX1_valueOf_191 : decode cX1_valueOf 191 = .ok (.iaload, 1) := by decide +kernel
theorem dX1_valueOf_192 : decode cX1_valueOf 192 = .ok (.invokestatic 51, 3) := by decide +kernel
theorem dX1_valueOf_195 : decode cX1_valueOf 195 = .ok (.iastore, 1) := by decide +kernel
theorem dX1_valueOf_196 : decode cX1_valueOf 196 = .ok (.iinc 5 1, 3) := by decide +kernel
theorem dX1_valueOf_199 : decode cX1_valueOf 199 = .ok (.goto (-179), 3) := by decide +kernel
theorem dX1_valueOf_202 : decode cX1_valueOf 202 = .ok (.aload_n 0, 1) := by decide +kernel
theorem dX1_valueOf_203 : decode cX1_valueOf 203 = .ok (.getfield 15, 3) := by decide +kernel
theorem dX1_valueOf_206 : decode cX1_valueOf 206 = .ok (.iconst 0, 1) := by decide +kernel
theorem dX1_valueOf_207 : decode cX1_valueOf 207 = .ok (.iaload, 1) := by decide +kernel
theorem dX1_valueOf_208 : decode cX1_valueOf 208 = .ok (.ireturn, 1) := by decide +kernel
theorem dX1_joined_0 : decode cX1_joined 0 = .ok (.iload_n 0, 1) := by decide +kernel
theorem dX1_joined_1 : decode cX1_joined 1 = .ok (.lookupswitch 107 #[(42, 67), (43, 59), (45, 63), (60, 71), (61, 82), (209, 93)], 59) := by decide +kernel
theorem dX1_joined_60 : decode cX1_joined 60 = .ok (.iload_n 1, 1) := by decide +kernel
theorem dX1_joined_61 : decode cX1_joined 61 = .ok (.iload_n 2, 1) := by decide +kernel
theorem dX1_joined_62 : decode cX1_joined 62 = .ok (.iadd, 1) := by decide +kernel
theorem dX1_joined_63 : decode cX1_joined 63 = .ok (.ireturn, 1) := by decide +kernel
theorem dX1_joined_64 : decode cX1_joined 64 = .ok (.iload_n 1, 1) := by decide +kernel
theorem dX1_joined_65 : decode cX1_joined 65 = .ok (.iload_n 2, 1) := by decide +kernel
theorem dX1_joined_66 : decode cX1_joined 66 = .ok (.isub, 1) := by decide +kernel
theorem dX1_joined_67 : decode cX1_joined 67 = .ok (.ireturn, 1) := by decide +kernel
theorem dX1_joined_68 : decode cX1_joined 68 = .ok (.iload_n 1, 1) := by decide +kernel
theorem dX1_joined_69 : decode cX1_joined 69 = .ok (.iload_n 2, 1) := by decide +kernel
theorem dX1_joined_70 : decode cX1_joined 70 = .ok (.imul, 1) := by decide +kernel
theorem dX1_joined_71 : decode cX1_joined 71 = .ok (.ireturn, 1) := by decide +kernel
theorem dX1_joined_72 : decode cX1_joined 72 = .ok (.iload_n 1, 1) := by decide +kernel
theorem dX1_joined_73 : decode cX1_joined 73 = .ok (.iload_n 2, 1) := by decide +kernel
theorem dX1_joined_74 : decode cX1_joined 74 = .ok (.if_icmp .ge 7, 3) := by decide +kernel
theorem dX1_joined_77 : decode cX1_joined 77 = .ok (.iconst 1, 1) := by decide +kernel
theorem dX1_joined_78 : decode cX1_joined 78 = .ok (.goto 4, 3) := by decide +kernel
theorem dX1_joined_81 : decode cX1_joined 81 = .ok (.iconst 0, 1) := by decide +kernel
theorem dX1_joined_82 : decode cX1_joined 82 = .ok (.ireturn, 1) := by decide +kernel
theorem dX1_joined_83 : decode cX1_joined 83 = .ok (.iload_n 1, 1) := by decide +kernel
theorem dX1_joined_84 : decode cX1_joined 84 = .ok (.iload_n 2, 1) := by decide +kernel
theorem dX1_joined_85 : decode cX1_joined 85 = .ok (.if_icmp .ne 7, 3) := by decide +kernel
theorem dX1_joined_88 : decode cX1_joined 88 = .ok (.iconst 1, 1) := by decide +kernel
theorem dX1_joined_89 : decode cX1_joined 89 = .ok (.goto 4, 3) := by decide +kernel
theorem dX1_joined_92 : decode cX1_joined 92 = .ok (.iconst 0, 1) := by decide +kernel
theorem dX1_joined_93 : decode cX1_joined 93 = .ok (.ireturn, 1) := by decide +kernel
theorem dX1_joined_94 : decode cX1_joined 94 = .ok (.iload_n 1, 1) := by decide +kernel
theorem dX1_joined_95 : decode cX1_joined 95 = .ok (.ifCond .ne 7, 3) := by decide +kernel
theorem dX1_joined_98 : decode cX1_joined 98 = .ok (.iload_n 2, 1) := by decide +kernel
theorem dX1_joined_99 : decode cX1_joined 99 = .ok (.ifCond .eq 7, 3) := by decide +kernel
theorem dX1_joined_102 : decode cX1_joined 102 = .ok (.iconst 1, 1) := by decide +kernel
theorem dX1_joined_103 : decode cX1_joined 103 = .ok (.goto 4, 3) := by decide +kernel
theorem dX1_joined_106 : decode cX1_joined 106 = .ok (.iconst 0, 1) := by decide +kernel
theorem dX1_joined_107 : decode cX1_joined 107 = .ok (.ireturn, 1) := by decide +kernel
theorem dX1_joined_108 : decode cX1_joined 108 = .ok (.iload_n 1, 1) := by decide +kernel
theorem dX1_joined_109 : decode cX1_joined 109 = .ok (.ifCond .eq 11, 3) := by decide +kernel
theorem dX1_joined_112 : decode cX1_joined 112 = .ok (.iload_n 2, 1) := by decide +kernel
theorem dX1_joined_113 : decode cX1_joined 113 = .ok (.ifCond .eq 7, 3) := by decide +kernel
theorem dX1_joined_116 : decode cX1_joined 116 = .ok (.iconst 1, 1) := by decide +kernel
theorem dX1_joined_117 : decode cX1_joined 117 = .ok (.goto 4, 3) := by decide +kernel
theorem dX1_joined_120 : decode cX1_joined 120 = .ok (.iconst 0, 1) := by decide +kernel
theorem dX1_joined_121 : decode cX1_joined 121 = .ok (.ireturn, 1) := by decide +kernel
theorem dX2_init_0 : decode cX2_init 0 = .ok (.aload_n 0, 1) := by decide +kernel
theorem dX2_init_1 : decode cX2_init 1 = .ok (.invokespecial 3, 3) := by decide +kernel
theorem dX2_init_4 : decode cX2_init 4 = .ok (.aload_n 0, 1) := by decide +kernel
theorem dX2_init_5 : decode cX2_init 5 = .ok (.bipush 6, 2) := by decide +kernel
theorem dX2_init_7 : decode cX2_init 7 = .ok (.anewarray 9, 3) := by decide +kernel
theorem dX2_init_10 : decode cX2_init 10 = .ok (.putfield 11, 3) := by decide +kernel
theorem dX2_init_13 : decode cX2_init 13 = .ok (.aload_n 0, 1) := by decide +kernel
theorem dX2_init_14 : decode cX2_init 14 = .ok (.iconst 0, 1) := by decide +kernel
theorem dX2_init_15 : decode cX2_init 15 = .ok (.putfield 17, 3) := by decide +kernel
theorem dX2_init_18 : decode cX2_init 18 = .ok (.aload_n 0, 1) := by decide +kernel
theorem dX2_init_19 : decode cX2_init 19 = .ok (.new 21, 3) := by decide +kernel
theorem dX2_init_22 : decode cX2_init 22 = .ok (.dup, 1) := by decide +kernel
theorem dX2_init_23 : decode cX2_init 23 = .ok (.invokespecial 23, 3) := by decide +kernel
theorem dX2_init_26 : decode cX2_init 26 = .ok (.putfield 24, 3) := by decide +kernel
theorem dX2_init_29 : decode cX2_init 29 = .ok (.return_, 1) := by decide +kernel
theorem dX2_add_0 : decode cX2_add 0 = .ok (.aload_n 0, 1) := by decide +kernel
theorem dX2_add_1 : decode cX2_add 1 = .ok (.getfield 11, 3) := by decide +kernel
theorem dX2_add_4 : decode cX2_add 4 = .ok (.aload_n 0, 1) := by decide +kernel
theorem dX2_add_5 : decode cX2_add 5 = .ok (.getfield 17, 3) := by decide +kernel
theorem dX2_add_8 : decode cX2_add 8 = .ok (.aload_n 1, 1) := by decide +kernel
theorem dX2_add_9 : decode cX2_add 9 = .ok (.aastore, 1) := by decide +kernel
theorem dX2_add_10 : decode cX2_add 10 = .ok (.aload_n 0, 1) := by decide +kernel
theorem dX2_add_11 : decode cX2_add 11 = .ok (.dup, 1) := by decide +kernel
theorem dX2_add_12 : decode cX2_add 12 = .ok (.getfield 17, 3) := by decide +kernel
theorem dX2_add_15 : decode cX2_add 15 = .ok (.iconst 1, 1) := by decide +kernel
theorem dX2_add_16 : decode cX2_add 16 = .ok (.iadd, 1) := by decide +kernel
theorem dX2_add_17 : decode cX2_add 17 = .ok (.putfield 17, 3) := by decide +kernel
theorem dX2_add_20 : decode cX2_add 20 = .ok (.aload_n 0, 1) := by decide +kernel
theorem dX2_add_21 : decode cX2_add 21 = .ok (.getfield 17, 3) := by decide +kernel
theorem dX2_add_24 : decode cX2_add 24 = .ok (.iconst 1, 1) := by decide +kernel
theorem dX2_add_25 : decode cX2_add 25 = .ok (.isub, 1) := by decide +kernel
theorem dX2_add_26 : decode cX2_add 26 = .ok (.ireturn, 1) := by decide +kernel
theorem dX2_thinks_0 : decode cX2_thinks 0 = .ok (.aload_n 0, 1) := by decide +kernel
theorem dX2_thinks_1 : decode cX2_thinks 1 = .ok (.getfield 24, 3) := by decide +kernel
theorem dX2_thinks_4 : decode cX2_thinks 4 = .ok (.aload_n 1, 1) := by decide +kernel
theorem dX2_thinks_5 : decode cX2_thinks 5 = .ok (.iload_n 2, 1) := by decide +kernel
theorem dX2_thinks_6 : decode cX2_thinks 6 = .ok (.invokevirtual 28, 3) := by decide +kernel
theorem dX2_thinks_9 : decode cX2_thinks 9 = .ok (.aload_n 0, 1) := by decide +kernel
theorem dX2_thinks_10 : decode cX2_thinks 10 = .ok (.getfield 24, 3) := by decide +kernel
theorem dX2_thinks_13 : decode cX2_thinks 13 = .ok (.aload_n 1, 1) := by decide +kernel
theorem dX2_thinks_14 : decode cX2_thinks 14 = .ok (.iload_n 3, 1) := by decide +kernel
theorem dX2_thinks_15 : decode cX2_thinks 15 = .ok (.invokevirtual 32, 3) := by decide +kernel
theorem dX2_thinks_18 : decode cX2_thinks 18 = .ok (.bipush (-99), 2) := by decide +kernel
theorem dX2_thinks_20 : decode cX2_thinks 20 = .ok (.aload_n 0, 1) := by decide +kernel
theorem dX2_thinks_21 : decode cX2_thinks 21 = .ok (.getfield 24, 3) := by decide +kernel
theorem dX2_thinks_24 : decode cX2_thinks 24 = .ok (.aload_n 0, 1) := by decide +kernel
theorem dX2_thinks_25 : decode cX2_thinks 25 = .ok (.getfield 11, 3) := by decide +kernel
theorem dX2_thinks_28 : decode cX2_thinks 28 = .ok (.aload_n 1, 1) := by decide +kernel
theorem dX2_thinks_29 : decode cX2_thinks 29 = .ok (.getfield 35, 3) := by decide +kernel
theorem dX2_thinks_32 : decode cX2_thinks 32 = .ok (.aaload, 1) := by decide +kernel
theorem dX2_thinks_33 : decode cX2_thinks 33 = .ok (.iconst 0, 1) := by decide +kernel
theorem dX2_thinks_34 : decode cX2_thinks 34 = .ok (.invokevirtual 40, 3) := by decide +kernel
theorem dX2_thinks_37 : decode cX2_thinks 37 = .ok (.bipush 99, 2) := by decide +kernel
theorem dX2_thinks_39 : decode cX2_thinks 39 = .ok (.invokestatic 44, 3) := by decide +kernel
theorem dX2_thinks_42 : decode cX2_thinks 42 = .ok (.istore 4, 2) := by decide +kernel
theorem dX2_thinks_44 : decode cX2_thinks 44 = .ok (.bipush (-99), 2) := by decide +kernel
theorem dX2_thinks_46 : decode cX2_thinks 46 = .ok (.aload_n 1, 1) := by decide +kernel
theorem dX2_thinks_47 : decode cX2_thinks 47 = .ok (.getfield 48, 3) := by decide +kernel
theorem dX2_thinks_50 : decode cX2_thinks 50 = .ok (.iload_n 2, 1) := by decide +kernel
theorem dX2_thinks_51 : decode cX2_thinks 51 = .ok (.iaload, 1) := by decide +kernel
theorem dX2_thinks_52 : decode cX2_thinks 52 = .ok (.iload 4, 2) := by decide +kernel
theorem dX2_thinks_54 : decode cX2_thinks 54 = .ok (.iload_n 3, 1) := by decide +kernel
theorem dX2_thinks_55 : decode cX2_thinks 55 = .ok (.aload_n 1, 1) := by decide +kernel
theorem dX2_thinks_56 : decode cX2_thinks 56 = .ok (.getfield 52, 3) := by decide +kernel
theorem dX2_thinks_59 : decode cX2_thinks 59 = .ok (.aload_n 1, 1) := by decide +kernel
theorem dX2_thinks_60 : decode cX2_thinks 60 = .ok (.getfield 55, 3) := by decide +kernel
theorem dX2_thinks_63 : decode cX2_thinks 63 = .ok (.iload_n 2, 1) := by decide +kernel
theorem dX2_thinks_64 : decode cX2_thinks 64 = .ok (.iaload, 1) := by decide +kernel
theorem dX2_thinks_65 : decode cX2_thinks 65 = .ok (.invokestatic 58, 3) := by decide +kernel
theorem dX2_thinks_68 : decode cX2_thinks 68 = .ok (.bipush 99, 2) := by decide +kernel
theorem dX2_thinks_70 : decode cX2_thinks 70 = .ok (.invokestatic 44, 3) := by decide +kernel
theorem dX2_thinks_73 : decode cX2_thinks 73 = .ok (.ireturn, 1) := by decide +kernel
theorem dX2_mending_0 : decode cX2_mending 0 = .ok (.aload_n 0, 1) := by decide +kernel
theorem dX2_mending_1 : decode cX2_mending 1 = .ok (.getfield 24, 3) := by decide +kernel
theorem dX2_mending_4 : decode cX2_mending 4 = .ok (.aload_n 1, 1) := by decide +kernel
theorem dX2_mending_5 : decode cX2_mending 5 = .ok (.iload_n 2, 1) := by decide +kernel
theorem dX2_mending_6 : decode cX2_mending 6 = .ok (.invokevirtual 28, 3) := by decide +kernel
theorem dX2_mending_9 : decode cX2_mending 9 = .ok (.aload_n 0, 1) := by decide +kernel
theorem dX2_mending_10 : decode cX2_mending 10 = .ok (.getfield 24, 3) := by decide +kernel
theorem dX2_mending_13 : decode cX2_mending 13 = .ok (.aload_n 1, 1) := by decide +kernel
theorem dX2_mending_14 : decode cX2_mending 14 = .ok (.iload_n 3, 1) := by decide +kernel
theorem dX2_mending_15 : decode cX2_mending 15 = .ok (.invokevirtual 32, 3) := by decide +kernel
theorem dX2_mending_18 : decode cX2_mending 18 = .ok (.iconst 0, 1) := by decide +kernel
theorem dX2_mending_19 : decode cX2_mending 19 = .ok (.aload_n 0, 1) := by decide +kernel
theorem dX2_mending_20 : decode cX2_mending 20 = .ok (.getfield 24, 3) := by decide +kernel
theorem dX2_mending_23 : decode cX2_mending 23 = .ok (.aload_n 0, 1) := by decide +kernel
theorem dX2_mending_24 : decode cX2_mending 24 = .ok (.getfield 11, 3) := by decide +kernel
theorem dX2_mending_27 : decode cX2_mending 27 = .ok (.aload_n 1, 1) := by decide +kernel
theorem dX2_mending_28 : decode cX2_mending 28 = .ok (.getfield 35, 3) := by decide +kernel
theorem dX2_mending_31 : decode cX2_mending 31 = .ok (.aaload, 1) := by decide +kernel
theorem dX2_mending_32 : decode cX2_mending 32 = .ok (.iconst 1, 1) := by decide +kernel
theorem dX2_mending_33 : decode cX2_mending 33 = .ok (.invokevirtual 40, 3) := by decide +kernel
theorem dX2_mending_36 : decode cX2_mending 36 = .ok (.bipush 99, 2) := by decide +kernel
theorem dX2_mending_38 : decode cX2_mending 38 = .ok (.invokestatic 44, 3) := by decide +kernel
theorem dX2_mending_41 : decode cX2_mending 41 = .ok (.istore 4, 2) := by decide +kernel
theorem dX2_mending_43 : decode cX2_mending 43 = .ok (.iconst 0, 1) := by decide +kernel
theorem dX2_mending_44 : decode cX2_mending 44 = .ok (.aload_n 1, 1) := by decide +kernel
theorem dX2_mending_45 : decode cX2_mending 45 = .ok (.getfield 48, 3) := by decide +kernel
theorem dX2_mending_48 : decode cX2_mending 48 = .ok (.iload_n 2, 1) := by decide +kernel
theorem dX2_mending_49 : decode cX2_mending 49 = .ok (.iaload, 1) := by decide +kernel
theorem dX2_mending_50 : decode cX2_mending 50 = .ok (.iload 4, 2) := by decide +kernel
theorem dX2_mending_52 : decode cX2_mending 52 = .ok (.aload_n 1, 1) := by decide +kernel
theorem dX2_mending_53 : decode cX2_mending 53 = .ok (.getfield 55, 3) := by decide +kernel
theorem dX2_mending_56 : decode cX2_mending 56 = .ok (.iload_n 2, 1) := by decide +kernel
theorem dX2_mending_57 : decode cX2_mending 57 = .ok (.iaload, 1) := by decide +kernel
theorem dX2_mending_58 : decode cX2_mending 58 = .ok (.invokestatic 64, 3) := by decide +kernel
theorem dX2_mending_61 : decode cX2_mending 61 = .ok (.bipush 99, 2) := by decide +kernel
theorem dX2_mending_63 : decode cX2_mending 63 = .ok (.invokestatic 44, 3) := by decide +kernel
theorem dX2_mending_66 : decode cX2_mending 66 = .ok (.ireturn, 1) := by decide +kernel
theorem dX2_memory_0 : decode cX2_memory 0 = .ok (.iconst 0, 1) := by decide +kernel
theorem dX2_memory_1 : decode cX2_memory 1 = .ok (.istore_n 3, 1) := by decide +kernel
theorem dX2_memory_2 : decode cX2_memory 2 = .ok (.iconst 0, 1) := by decide +kernel
theorem dX2_memory_3 : decode cX2_memory 3 = .ok (.istore 4, 2) := by decide +kernel
theorem dX2_memory_5 : decode cX2_memory 5 = .ok (.iload 4, 2) := by decide +kernel
theorem dX2_memory_7 : decode cX2_memory 7 = .ok (.bipush 8, 2) := by decide +kernel
theorem dX2_memory_9 : decode cX2_memory 9 = .ok (.if_icmp .ge 20, 3) := by decide +kernel
theorem dX2_memory_12 : decode cX2_memory 12 = .ok (.iload_n 3, 1) := by decide +kernel
theorem dX2_memory_13 : decode cX2_memory 13 = .ok (.aload_n 0, 1) := by decide +kernel
theorem dX2_memory_14 : decode cX2_memory 14 = .ok (.aload_n 1, 1) := by decide +kernel
theorem dX2_memory_15 : decode cX2_memory 15 = .ok (.iload_n 2, 1) := by decide +kernel
theorem dX2_memory_16 : decode cX2_memory 16 = .ok (.iload 4, 2) := by decide +kernel
theorem dX2_memory_18 : decode cX2_memory 18 = .ok (.invokevirtual 67, 3) := by decide +kernel
theorem dX2_memory_21 : decode cX2_memory 21 = .ok (.iadd, 1) := by decide +kernel
theorem dX2_memory_22 : decode cX2_memory 22 = .ok (.istore_n 3, 1) := by decide +kernel
theorem dX2_memory_23 : decode cX2_memory 23 = .ok (.iinc 4 1, 3) := by decide +kernel
theorem dX2_memory_26 : decode cX2_memory 26 = .ok (.goto (-21), 3) := by decide +kernel
theorem dX2_memory_29 : decode cX2_memory 29 = .ok (.iload_n 3, 1) := by decide +kernel
theorem dX2_memory_30 : decode cX2_memory 30 = .ok (.ireturn, 1) := by decide +kernel
theorem dX2_isHazy_0 : decode cX2_isHazy 0 = .ok (.aload_n 0, 1) := by decide +kernel
theorem dX2_isHazy_1 : decode cX2_isHazy 1 = .ok (.aload_n 1, 1) := by decide +kernel
theorem dX2_isHazy_2 : decode cX2_isHazy 2 = .ok (.iload_n 2, 1) := by decide +kernel
theorem dX2_isHazy_3 : decode cX2_isHazy 3 = .ok (.invokevirtual 70, 3) := by decide +kernel
theorem dX2_isHazy_6 : decode cX2_isHazy 6 = .ok (.aload_n 1, 1) := by decide +kernel
theorem dX2_isHazy_7 : decode cX2_isHazy 7 = .ok (.getfield 74, 3) := by decide +kernel
theorem dX2_isHazy_10 : decode cX2_isHazy 10 = .ok (.if_icmp .lt 7, 3) := by decide +kernel
theorem dX2_isHazy_13 : decode cX2_isHazy 13 = .ok (.iconst 1, 1) := by decide +kernel
theorem dX2_isHazy_14 : decode cX2_isHazy 14 = .ok (.goto 4, 3) := by decide +kernel
theorem dX2_isHazy_17 : decode cX2_isHazy 17 = .ok (.iconst 0, 1) := by decide +kernel
theorem dX2_isHazy_18 : decode cX2_isHazy 18 = .ok (.ireturn, 1) := by decide +kernel
theorem dX2_claimed_0 : decode cX2_claimed 0 = .ok (.aload_n 0, 1) := by decide +kernel
theorem dX2_claimed_1 : decode cX2_claimed 1 = .ok (.aload_n 1, 1) := by decide +kernel
theorem dX2_claimed_2 : decode cX2_claimed 2 = .ok (.iload_n 2, 1) := by decide +kernel
theorem dX2_claimed_3 : decode cX2_claimed 3 = .ok (.invokevirtual 70, 3) := by decide +kernel
theorem dX2_claimed_6 : decode cX2_claimed 6 = .ok (.aload_n 1, 1) := by decide +kernel
theorem dX2_claimed_7 : decode cX2_claimed 7 = .ok (.getfield 74, 3) := by decide +kernel
theorem dX2_claimed_10 : decode cX2_claimed 10 = .ok (.if_icmp .lt 5, 3) := by decide +kernel
theorem dX2_claimed_13 : decode cX2_claimed 13 = .ok (.iconst 0, 1) := by decide +kernel
theorem dX2_claimed_14 : decode cX2_claimed 14 = .ok (.ireturn, 1) := by decide +kernel
theorem dX2_claimed_15 : decode cX2_claimed 15 = .ok (.aload_n 0, 1) := by decide +kernel
theorem dX2_claimed_16 : decode cX2_claimed 16 = .ok (.getfield 24, 3) := by decide +kernel
theorem dX2_claimed_19 : decode cX2_claimed 19 = .ok (.aload_n 1, 1) := by decide +kernel
theorem dX2_claimed_20 : decode cX2_claimed 20 = .ok (.iload_n 2, 1) := by decide +kernel
theorem dX2_claimed_21 : decode cX2_claimed 21 = .ok (.invokevirtual 28, 3) := by decide +kernel
theorem dX2_claimed_24 : decode cX2_claimed 24 = .ok (.iconst 0, 1) := by decide +kernel
theorem dX2_claimed_25 : decode cX2_claimed 25 = .ok (.aload_n 0, 1) := by decide +kernel
theorem dX2_claimed_26 : decode cX2_claimed 26 = .ok (.getfield 24, 3) := by decide +kernel
theorem dX2_claimed_29 : decode cX2_claimed 29 = .ok (.aload_n 0, 1) := by decide +kernel
theorem dX2_claimed_30 : decode cX2_claimed 30 = .ok (.getfield 11, 3) := by decide +kernel
theorem dX2_claimed_33 : decode cX2_claimed 33 = .ok (.aload_n 1, 1) := by decide +kernel
theorem dX2_claimed_34 : decode cX2_claimed 34 = .ok (.getfield 35, 3) := by decide +kernel
theorem dX2_claimed_37 : decode cX2_claimed 37 = .ok (.aaload, 1) := by decide +kernel
theorem dX2_claimed_38 : decode cX2_claimed 38 = .ok (.iconst 2, 1) := by decide +kernel
theorem dX2_claimed_39 : decode cX2_claimed 39 = .ok (.invokevirtual 40, 3) := by decide +kernel
theorem dX2_claimed_42 : decode cX2_claimed 42 = .ok (.bipush 99, 2) := by decide +kernel
theorem dX2_claimed_44 : decode cX2_claimed 44 = .ok (.invokestatic 44, 3) := by decide +kernel
theorem dX2_claimed_47 : decode cX2_claimed 47 = .ok (.istore_n 3, 1) := by decide +kernel
theorem dX2_claimed_48 : decode cX2_claimed 48 = .ok (.bipush (-99), 2) := by decide +kernel
theorem dX2_claimed_50 : decode cX2_claimed 50 = .ok (.aload_n 1, 1) := by decide +kernel
theorem dX2_claimed_51 : decode cX2_claimed 51 = .ok (.getfield 48, 3) := by decide +kernel
theorem dX2_claimed_54 : decode cX2_claimed 54 = .ok (.iload_n 2, 1) := by decide +kernel
theorem dX2_claimed_55 : decode cX2_claimed 55 = .ok (.iaload, 1) := by decide +kernel
theorem dX2_claimed_56 : decode cX2_claimed 56 = .ok (.iload_n 3, 1) := by decide +kernel
theorem dX2_claimed_57 : decode cX2_claimed 57 = .ok (.aload_n 1, 1) := by decide +kernel
theorem dX2_claimed_58 : decode cX2_claimed 58 = .ok (.getfield 55, 3) := by decide +kernel
theorem dX2_claimed_61 : decode cX2_claimed 61 = .ok (.iload_n 2, 1) := by decide +kernel
theorem dX2_claimed_62 : decode cX2_claimed 62 = .ok (.iaload, 1) := by decide +kernel
theorem dX2_claimed_63 : decode cX2_claimed 63 = .ok (.invokestatic 77, 3) := by decide +kernel
theorem dX2_claimed_66 : decode cX2_claimed 66 = .ok (.sipush 999, 3) := by decide +kernel
theorem dX2_claimed_69 : decode cX2_claimed 69 = .ok (.invokestatic 44, 3) := by decide +kernel
theorem dX2_claimed_72 : decode cX2_claimed 72 = .ok (.ireturn, 1) := by decide +kernel
theorem dX2_hazyPeople_0 : decode cX2_hazyPeople 0 = .ok (.iconst 0, 1) := by decide +kernel
theorem dX2_hazyPeople_1 : decode cX2_hazyPeople 1 = .ok (.istore_n 2, 1) := by decide +kernel
theorem dX2_hazyPeople_2 : decode cX2_hazyPeople 2 = .ok (.iconst 0, 1) := by decide +kernel
theorem dX2_hazyPeople_3 : decode cX2_hazyPeople 3 = .ok (.istore_n 3, 1) := by decide +kernel
theorem dX2_hazyPeople_4 : decode cX2_hazyPeople 4 = .ok (.iload_n 3, 1) := by decide +kernel
theorem dX2_hazyPeople_5 : decode cX2_hazyPeople 5 = .ok (.aload_n 1, 1) := by decide +kernel
theorem dX2_hazyPeople_6 : decode cX2_hazyPeople 6 = .ok (.getfield 80, 3) := by decide +kernel
theorem dX2_hazyPeople_9 : decode cX2_hazyPeople 9 = .ok (.if_icmp .ge 21, 3) := by decide +kernel
theorem dX2_hazyPeople_12 : decode cX2_hazyPeople 12 = .ok (.aload_n 0, 1) := by decide +kernel
theorem dX2_hazyPeople_13 : decode cX2_hazyPeople 13 = .ok (.aload_n 1, 1) := by decide +kernel
theorem dX2_hazyPeople_14 : decode cX2_hazyPeople 14 = .ok (.iload_n 3, 1) := by decide +kernel
theorem dX2_hazyPeople_15 : decode cX2_hazyPeople 15 = .ok (.invokevirtual 81, 3) := by decide +kernel
theorem dX2_hazyPeople_18 : decode cX2_hazyPeople 18 = .ok (.ifCond .eq 6, 3) := by decide +kernel
theorem dX2_hazyPeople_21 : decode cX2_hazyPeople 21 = .ok (.iinc 2 1, 3) := by decide +kernel
theorem dX2_hazyPeople_24 : decode cX2_hazyPeople 24 = .ok (.iinc 3 1, 3) := by decide +kernel
theorem dX2_hazyPeople_27 : decode cX2_hazyPeople 27 = .ok (.goto (-23), 3) := by decide +kernel
theorem dX2_hazyPeople_30 : decode cX2_hazyPeople 30 = .ok (.iload_n 2, 1) := by decide +kernel
theorem dX2_hazyPeople_31 : decode cX2_hazyPeople 31 = .ok (.ireturn, 1) := by decide +kernel
theorem dX2_due_0 : decode cX2_due 0 = .ok (.iconst 0, 1) := by decide +kernel
theorem dX2_due_1 : decode cX2_due 1 = .ok (.istore_n 2, 1) := by decide +kernel
theorem dX2_due_2 : decode cX2_due 2 = .ok (.iconst 0, 1) := by decide +kernel
theorem dX2_due_3 : decode cX2_due 3 = .ok (.istore_n 3, 1) := by decide +kernel
theorem dX2_due_4 : decode cX2_due 4 = .ok (.iload_n 3, 1) := by decide +kernel
theorem dX2_due_5 : decode cX2_due 5 = .ok (.aload_n 1, 1) := by decide +kernel
theorem dX2_due_6 : decode cX2_due 6 = .ok (.getfield 80, 3) := by decide +kernel
theorem dX2_due_9 : decode cX2_due 9 = .ok (.if_icmp .ge 18, 3) := by decide +kernel
theorem dX2_due_12 : decode cX2_due 12 = .ok (.iload_n 2, 1) := by decide +kernel
theorem dX2_due_13 : decode cX2_due 13 = .ok (.aload_n 0, 1) := by decide +kernel
theorem dX2_due_14 : decode cX2_due 14 = .ok (.aload_n 1, 1) := by decide +kernel
theorem dX2_due_15 : decode cX2_due 15 = .ok (.iload_n 3, 1) := by decide +kernel
theorem dX2_due_16 : decode cX2_due 16 = .ok (.invokevirtual 85, 3) := by decide +kernel
theorem dX2_due_19 : decode cX2_due 19 = .ok (.iadd, 1) := by decide +kernel
theorem dX2_due_20 : decode cX2_due 20 = .ok (.istore_n 2, 1) := by decide +kernel
theorem dX2_due_21 : decode cX2_due 21 = .ok (.iinc 3 1, 3) := by decide +kernel
theorem dX2_due_24 : decode cX2_due 24 = .ok (.goto (-20), 3) := by decide +kernel
theorem dX2_due_27 : decode cX2_due 27 = .ok (.iload_n 2, 1) := by decide +kernel
theorem dX2_due_28 : decode cX2_due 28 = .ok (.ireturn, 1) := by decide +kernel
theorem dX2_cost_0 : decode cX2_cost 0 = .ok (.iconst 0, 1) := by decide +kernel
theorem dX2_cost_1 : decode cX2_cost 1 = .ok (.istore_n 3, 1) := by decide +kernel
theorem dX2_cost_2 : decode cX2_cost 2 = .ok (.iconst 0, 1) := by decide +kernel
theorem dX2_cost_3 : decode cX2_cost 3 = .ok (.istore 4, 2) := by decide +kernel
theorem dX2_cost_5 : decode cX2_cost 5 = .ok (.iload 4, 2) := by decide +kernel
theorem dX2_cost_7 : decode cX2_cost 7 = .ok (.aload_n 1, 1) := by decide +kernel
theorem dX2_cost_8 : decode cX2_cost 8 = .ok (.getfield 80, 3) := by decide +kernel
theorem dX2_cost_11 : decode cX2_cost 11 = .ok (.if_icmp .ge 20, 3) := by decide +kernel
theorem dX2_cost_14 : decode cX2_cost 14 = .ok (.iload_n 3, 1) := by decide +kernel
theorem dX2_cost_15 : decode cX2_cost 15 = .ok (.aload_n 0, 1) := by decide +kernel
theorem dX2_cost_16 : decode cX2_cost 16 = .ok (.aload_n 1, 1) := by decide +kernel
theorem dX2_cost_17 : decode cX2_cost 17 = .ok (.iload 4, 2) := by decide +kernel
theorem dX2_cost_19 : decode cX2_cost 19 = .ok (.iload_n 2, 1) := by decide +kernel
theorem dX2_cost_20 : decode cX2_cost 20 = .ok (.invokevirtual 88, 3) := by decide +kernel
theorem dX2_cost_23 : decode cX2_cost 23 = .ok (.iadd, 1) := by decide +kernel
theorem dX2_cost_24 : decode cX2_cost 24 = .ok (.istore_n 3, 1) := by decide +kernel
theorem dX2_cost_25 : decode cX2_cost 25 = .ok (.iinc 4 1, 3) := by decide +kernel
theorem dX2_cost_28 : decode cX2_cost 28 = .ok (.goto (-23), 3) := by decide +kernel
theorem dX2_cost_31 : decode cX2_cost 31 = .ok (.iload_n 3, 1) := by decide +kernel
theorem dX2_cost_32 : decode cX2_cost 32 = .ok (.ireturn, 1) := by decide +kernel
theorem dX2_likedHours_0 : decode cX2_likedHours 0 = .ok (.iconst 0, 1) := by decide +kernel
theorem dX2_likedHours_1 : decode cX2_likedHours 1 = .ok (.istore_n 3, 1) := by decide +kernel
theorem dX2_likedHours_2 : decode cX2_likedHours 2 = .ok (.iconst 0, 1) := by decide +kernel
theorem dX2_likedHours_3 : decode cX2_likedHours 3 = .ok (.istore 4, 2) := by decide +kernel
theorem dX2_likedHours_5 : decode cX2_likedHours 5 = .ok (.iload 4, 2) := by decide +kernel
theorem dX2_likedHours_7 : decode cX2_likedHours 7 = .ok (.bipush 8, 2) := by decide +kernel
theorem dX2_likedHours_9 : decode cX2_likedHours 9 = .ok (.if_icmp .ge 27, 3) := by decide +kernel
theorem dX2_likedHours_12 : decode cX2_likedHours 12 = .ok (.aload_n 0, 1) := by decide +kernel
theorem dX2_likedHours_13 : decode cX2_likedHours 13 = .ok (.aload_n 1, 1) := by decide +kernel
theorem dX2_likedHours_14 : decode cX2_likedHours 14 = .ok (.iload_n 2, 1) := by decide +kernel
theorem dX2_likedHours_15 : decode cX2_likedHours 15 = .ok (.iload 4, 2) := by decide +kernel
theorem dX2_likedHours_17 : decode cX2_likedHours 17 = .ok (.invokevirtual 67, 3) := by decide +kernel
theorem dX2_likedHours_20 : decode cX2_likedHours 20 = .ok (.ifCond .le 10, 3) := by decide +kernel
theorem dX2_likedHours_23 : decode cX2_likedHours 23 = .ok (.iload_n 3, 1) := by decide +kernel
theorem dX2_likedHours_24 : decode cX2_likedHours 24 = .ok (.iconst 1, 1) := by decide +kernel
theorem dX2_likedHours_25 : decode cX2_likedHours 25 = .ok (.iload 4, 2) := by decide +kernel
theorem dX2_likedHours_27 : decode cX2_likedHours 27 = .ok (.ishl, 1) := by decide +kernel
theorem dX2_likedHours_28 : decode cX2_likedHours 28 = .ok (.ior, 1) := by decide +kernel
theorem dX2_likedHours_29 : decode cX2_likedHours 29 = .ok (.istore_n 3, 1) := by decide +kernel
theorem dX2_likedHours_30 : decode cX2_likedHours 30 = .ok (.iinc 4 1, 3) := by decide +kernel
theorem dX2_likedHours_33 : decode cX2_likedHours 33 = .ok (.goto (-28), 3) := by decide +kernel
theorem dX2_likedHours_36 : decode cX2_likedHours 36 = .ok (.iload_n 3, 1) := by decide +kernel
theorem dX2_likedHours_37 : decode cX2_likedHours 37 = .ok (.ireturn, 1) := by decide +kernel
theorem dX2_passYear_0 : decode cX2_passYear 0 = .ok (.aload_n 0, 1) := by decide +kernel
theorem dX2_passYear_1 : decode cX2_passYear 1 = .ok (.aload_n 1, 1) := by decide +kernel
theorem dX2_passYear_2 : decode cX2_passYear 2 = .ok (.invokevirtual 90, 3) := by decide +kernel
theorem dX2_passYear_5 : decode cX2_passYear 5 = .ok (.istore_n 2, 1) := by decide +kernel
theorem dX2_passYear_6 : decode cX2_passYear 6 = .ok (.aload_n 1, 1) := by decide +kernel
theorem dX2_passYear_7 : decode cX2_passYear 7 = .ok (.aload_n 1, 1) := by decide +kernel
theorem dX2_passYear_8 : decode cX2_passYear 8 = .ok (.invokevirtual 94, 3) := by decide +kernel
theorem dX2_passYear_11 : decode cX2_passYear 11 = .ok (.invokevirtual 98, 3) := by decide +kernel
theorem dX2_passYear_14 : decode cX2_passYear 14 = .ok (.aload_n 1, 1) := by decide +kernel
theorem dX2_passYear_15 : decode cX2_passYear 15 = .ok (.iload_n 2, 1) := by decide +kernel
theorem dX2_passYear_16 : decode cX2_passYear 16 = .ok (.ineg, 1) := by decide +kernel
theorem dX2_passYear_17 : decode cX2_passYear 17 = .ok (.invokevirtual 98, 3) := by decide +kernel
theorem dX2_passYear_20 : decode cX2_passYear 20 = .ok (.aload_n 1, 1) := by decide +kernel
theorem dX2_passYear_21 : decode cX2_passYear 21 = .ok (.dup, 1) := by decide +kernel
theorem dX2_passYear_22 : decode cX2_passYear 22 = .ok (.getfield 52, 3) := by decide +kernel
theorem dX2_passYear_25 : decode cX2_passYear 25 = .ok (.iconst 1, 1) := by decide +kernel
theorem dX2_passYear_26 : decode cX2_passYear 26 = .ok (.iadd, 1) := by decide +kernel
theorem dX2_passYear_27 : decode cX2_passYear 27 = .ok (.putfield 52, 3) := by decide +kernel
theorem dX2_passYear_30 : decode cX2_passYear 30 = .ok (.return_, 1) := by decide +kernel
theorem dX3_init_0 : decode cX3_init 0 = .ok (.aload_n 0, 1) := by decide +kernel
theorem dX3_init_1 : decode cX3_init 1 = .ok (.invokespecial 3, 3) := by decide +kernel
theorem dX3_init_4 : decode cX3_init 4 = .ok (.aload_n 0, 1) := by decide +kernel
theorem dX3_init_5 : decode cX3_init 5 = .ok (.bipush 8, 2) := by decide +kernel
theorem dX3_init_7 : decode cX3_init 7 = .ok (.newarray .int, 2) := by decide +kernel
theorem dX3_init_9 : decode cX3_init 9 = .ok (.putfield 9, 3) := by decide +kernel
theorem dX3_init_12 : decode cX3_init 12 = .ok (.aload_n 0, 1) := by decide +kernel
theorem dX3_init_13 : decode cX3_init 13 = .ok (.iconst 0, 1) := by decide +kernel
theorem dX3_init_14 : decode cX3_init 14 = .ok (.putfield 15, 3) := by decide +kernel
theorem dX3_init_17 : decode cX3_init 17 = .ok (.aload_n 0, 1) := by decide +kernel
theorem dX3_init_18 : decode cX3_init 18 = .ok (.iconst 0, 1) := by decide +kernel
theorem dX3_init_19 : decode cX3_init 19 = .ok (.putfield 19, 3) := by decide +kernel
theorem dX3_init_22 : decode cX3_init 22 = .ok (.aload_n 0, 1) := by decide +kernel
theorem dX3_init_23 : decode cX3_init 23 = .ok (.iconst 0, 1) := by decide +kernel
theorem dX3_init_24 : decode cX3_init 24 = .ok (.putfield 22, 3) := by decide +kernel
theorem dX3_init_27 : decode cX3_init 27 = .ok (.aload_n 0, 1) := by decide +kernel
theorem dX3_init_28 : decode cX3_init 28 = .ok (.bipush 100, 2) := by decide +kernel
theorem dX3_init_30 : decode cX3_init 30 = .ok (.putfield 25, 3) := by decide +kernel
theorem dX3_init_33 : decode cX3_init 33 = .ok (.aload_n 0, 1) := by decide +kernel
theorem dX3_init_34 : decode cX3_init 34 = .ok (.iconst 0, 1) := by decide +kernel
theorem dX3_init_35 : decode cX3_init 35 = .ok (.putfield 28, 3) := by decide +kernel
theorem dX3_init_38 : decode cX3_init 38 = .ok (.aload_n 0, 1) := by decide +kernel
theorem dX3_init_39 : decode cX3_init 39 = .ok (.iconst 0, 1) := by decide +kernel
theorem dX3_init_40 : decode cX3_init 40 = .ok (.putfield 31, 3) := by decide +kernel
theorem dX3_init_43 : decode cX3_init 43 = .ok (.aload_n 0, 1) := by decide +kernel
theorem dX3_init_44 : decode cX3_init 44 = .ok (.bipush 6, 2) := by decide +kernel
theorem dX3_init_46 : decode cX3_init 46 = .ok (.newarray .int, 2) := by decide +kernel
theorem dX3_init_48 : decode cX3_init 48 = .ok (.putfield 34, 3) := by decide +kernel
theorem dX3_init_51 : decode cX3_init 51 = .ok (.aload_n 0, 1) := by decide +kernel
theorem dX3_init_52 : decode cX3_init 52 = .ok (.bipush 6, 2) := by decide +kernel
theorem dX3_init_54 : decode cX3_init 54 = .ok (.newarray .int, 2) := by decide +kernel
theorem dX3_init_56 : decode cX3_init 56 = .ok (.putfield 37, 3) := by decide +kernel
theorem dX3_init_59 : decode cX3_init 59 = .ok (.aload_n 0, 1) := by decide +kernel
theorem dX3_init_60 : decode cX3_init 60 = .ok (.bipush 6, 2) := by decide +kernel
theorem dX3_init_62 : decode cX3_init 62 = .ok (.newarray .int, 2) := by decide +kernel
theorem dX3_init_64 : decode cX3_init 64 = .ok (.putfield 40, 3) := by decide +kernel
theorem dX3_init_67 : decode cX3_init 67 = .ok (.return_, 1) := by decide +kernel
theorem dX3_become_0 : decode cX3_become 0 = .ok (.aload_n 1, 1) := by decide +kernel
theorem dX3_become_1 : decode cX3_become 1 = .ok (.getfield 9, 3) := by decide +kernel
theorem dX3_become_4 : decode cX3_become 4 = .ok (.iconst 0, 1) := by decide +kernel
theorem dX3_become_5 : decode cX3_become 5 = .ok (.aload_n 0, 1) := by decide +kernel
theorem dX3_become_6 : decode cX3_become 6 = .ok (.getfield 9, 3) := by decide +kernel
theorem dX3_become_9 : decode cX3_become 9 = .ok (.iconst 0, 1) := by decide +kernel
theorem dX3_become_10 : decode cX3_become 10 = .ok (.bipush 8, 2) := by decide +kernel
theorem dX3_become_12 : decode cX3_become 12 = .ok (.invokestatic 43, 3) := by decide +kernel
theorem dX3_become_15 : decode cX3_become 15 = .ok (.aload_n 0, 1) := by decide +kernel
theorem dX3_become_16 : decode cX3_become 16 = .ok (.aload_n 1, 1) := by decide +kernel
theorem dX3_become_17 : decode cX3_become 17 = .ok (.getfield 15, 3) := by decide +kernel
theorem dX3_become_20 : decode cX3_become 20 = .ok (.putfield 15, 3) := by decide +kernel
theorem dX3_become_23 : decode cX3_become 23 = .ok (.aload_n 0, 1) := by decide +kernel
theorem dX3_become_24 : decode cX3_become 24 = .ok (.aload_n 1, 1) := by decide +kernel
theorem dX3_become_25 : decode cX3_become 25 = .ok (.getfield 19, 3) := by decide +kernel
theorem dX3_become_28 : decode cX3_become 28 = .ok (.putfield 19, 3) := by decide +kernel
theorem dX3_become_31 : decode cX3_become 31 = .ok (.aload_n 0, 1) := by decide +kernel
theorem dX3_become_32 : decode cX3_become 32 = .ok (.aload_n 1, 1) := by decide +kernel
theorem dX3_become_33 : decode cX3_become 33 = .ok (.getfield 22, 3) := by decide +kernel
theorem dX3_become_36 : decode cX3_become 36 = .ok (.putfield 22, 3) := by decide +kernel
theorem dX3_become_39 : decode cX3_become 39 = .ok (.aload_n 0, 1) := by decide +kernel
theorem dX3_become_40 : decode cX3_become 40 = .ok (.aload_n 1, 1) := by decide +kernel
theorem dX3_become_41 : decode cX3_become 41 = .ok (.getfield 25, 3) := by decide +kernel
theorem dX3_become_44 : decode cX3_become 44 = .ok (.putfield 25, 3) := by decide +kernel
theorem dX3_become_47 : decode cX3_become 47 = .ok (.aload_n 0, 1) := by decide +kernel
theorem dX3_become_48 : decode cX3_become 48 = .ok (.aload_n 1, 1) := by decide +kernel
theorem dX3_become_49 : decode cX3_become 49 = .ok (.getfield 28, 3) := by decide +kernel
theorem dX3_become_52 : decode cX3_become 52 = .ok (.putfield 28, 3) := by decide +kernel
theorem dX3_become_55 : decode cX3_become 55 = .ok (.aload_n 0, 1) := by decide +kernel
theorem dX3_become_56 : decode cX3_become 56 = .ok (.aload_n 1, 1) := by decide +kernel
theorem dX3_become_57 : decode cX3_become 57 = .ok (.getfield 31, 3) := by decide +kernel
theorem dX3_become_60 : decode cX3_become 60 = .ok (.putfield 31, 3) := by decide +kernel
theorem dX3_become_63 : decode cX3_become 63 = .ok (.aload_n 1, 1) := by decide +kernel
theorem dX3_become_64 : decode cX3_become 64 = .ok (.getfield 34, 3) := by decide +kernel
theorem dX3_become_67 : decode cX3_become 67 = .ok (.iconst 0, 1) := by decide +kernel
theorem dX3_become_68 : decode cX3_become 68 = .ok (.aload_n 0, 1) := by decide +kernel
theorem dX3_become_69 : decode cX3_become 69 = .ok (.getfield 34, 3) := by decide +kernel
theorem dX3_become_72 : decode cX3_become 72 = .ok (.iconst 0, 1) := by decide +kernel
theorem dX3_become_73 : decode cX3_become 73 = .ok (.bipush 6, 2) := by decide +kernel
theorem dX3_become_75 : decode cX3_become 75 = .ok (.invokestatic 43, 3) := by decide +kernel
theorem dX3_become_78 : decode cX3_become 78 = .ok (.aload_n 1, 1) := by decide +kernel
theorem dX3_become_79 : decode cX3_become 79 = .ok (.getfield 37, 3) := by decide +kernel
theorem dX3_become_82 : decode cX3_become 82 = .ok (.iconst 0, 1) := by decide +kernel
theorem dX3_become_83 : decode cX3_become 83 = .ok (.aload_n 0, 1) := by decide +kernel
theorem dX3_become_84 : decode cX3_become 84 = .ok (.getfield 37, 3) := by decide +kernel
theorem dX3_become_87 : decode cX3_become 87 = .ok (.iconst 0, 1) := by decide +kernel
theorem dX3_become_88 : decode cX3_become 88 = .ok (.bipush 6, 2) := by decide +kernel
theorem dX3_become_90 : decode cX3_become 90 = .ok (.invokestatic 43, 3) := by decide +kernel
theorem dX3_become_93 : decode cX3_become 93 = .ok (.aload_n 1, 1) := by decide +kernel
theorem dX3_become_94 : decode cX3_become 94 = .ok (.getfield 40, 3) := by decide +kernel
theorem dX3_become_97 : decode cX3_become 97 = .ok (.iconst 0, 1) := by decide +kernel
theorem dX3_become_98 : decode cX3_become 98 = .ok (.aload_n 0, 1) := by decide +kernel
theorem dX3_become_99 : decode cX3_become 99 = .ok (.getfield 40, 3) := by decide +kernel
theorem dX3_become_102 : decode cX3_become 102 = .ok (.iconst 0, 1) := by decide +kernel
theorem dX3_become_103 : decode cX3_become 103 = .ok (.bipush 6, 2) := by decide +kernel
theorem dX3_become_105 : decode cX3_become 105 = .ok (.invokestatic 43, 3) := by decide +kernel
theorem dX3_become_108 : decode cX3_become 108 = .ok (.return_, 1) := by decide +kernel
theorem dX3_has_0 : decode cX3_has 0 = .ok (.iload_n 1, 1) := by decide +kernel
theorem dX3_has_1 : decode cX3_has 1 = .ok (.ifCond .lt 15, 3) := by decide +kernel
theorem dX3_has_4 : decode cX3_has 4 = .ok (.iload_n 1, 1) := by decide +kernel
theorem dX3_has_5 : decode cX3_has 5 = .ok (.aload_n 0, 1) := by decide +kernel
theorem dX3_has_6 : decode cX3_has 6 = .ok (.getfield 31, 3) := by decide +kernel
theorem dX3_has_9 : decode cX3_has 9 = .ok (.if_icmp .ge 7, 3) := by decide +kernel
theorem dX3_has_12 : decode cX3_has 12 = .ok (.iconst 1, 1) := by decide +kernel
theorem dX3_has_13 : decode cX3_has 13 = .ok (.goto 4, 3) := by decide +kernel
theorem dX3_has_16 : decode cX3_has 16 = .ok (.iconst 0, 1) := by decide +kernel
theorem dX3_has_17 : decode cX3_has 17 = .ok (.ireturn, 1) := by decide +kernel
theorem dX3_welcome_0 : decode cX3_welcome 0 = .ok (.aload_n 0, 1) := by decide +kernel
theorem dX3_welcome_1 : decode cX3_welcome 1 = .ok (.getfield 31, 3) := by decide +kernel
theorem dX3_welcome_4 : decode cX3_welcome 4 = .ok (.bipush 6, 2) := by decide +kernel
theorem dX3_welcome_6 : decode cX3_welcome 6 = .ok (.if_icmp .lt 6, 3) := by decide +kernel
theorem dX3_welcome_9 : decode cX3_welcome 9 = .ok (.bipush (-4), 2) := by decide +kernel
theorem dX3_welcome_11 : decode cX3_welcome 11 = .ok (.ireturn, 1) := by decide +kernel
theorem dX3_welcome_12 : decode cX3_welcome 12 = .ok (.aload_n 0, 1) := by decide +kernel
theorem dX3_welcome_13 : decode cX3_welcome 13 = .ok (.getfield 31, 3) := by decide +kernel
theorem dX3_welcome_16 : decode cX3_welcome 16 = .ok (.istore_n 3, 1) := by decide +kernel
theorem dX3_welcome_17 : decode cX3_welcome 17 = .ok (.aload_n 0, 1) := by decide +kernel
theorem dX3_welcome_18 : decode cX3_welcome 18 = .ok (.getfield 34, 3) := by decide +kernel
theorem dX3_welcome_21 : decode cX3_welcome 21 = .ok (.iload_n 3, 1) := by decide +kernel
theorem dX3_welcome_22 : decode cX3_welcome 22 = .ok (.iload_n 1, 1) := by decide +kernel
theorem dX3_welcome_23 : decode cX3_welcome 23 = .ok (.iastore, 1) := by decide +kernel
theorem dX3_welcome_24 : decode cX3_welcome 24 = .ok (.aload_n 0, 1) := by decide +kernel
theorem dX3_welcome_25 : decode cX3_welcome 25 = .ok (.getfield 37, 3) := by decide +kernel
theorem dX3_welcome_28 : decode cX3_welcome 28 = .ok (.iload_n 3, 1) := by decide +kernel
theorem dX3_welcome_29 : decode cX3_welcome 29 = .ok (.iload_n 2, 1) := by decide +kernel
theorem dX3_welcome_30 : decode cX3_welcome 30 = .ok (.iastore, 1) := by decide +kernel
theorem dX3_welcome_31 : decode cX3_welcome 31 = .ok (.aload_n 0, 1) := by decide +kernel
theorem dX3_welcome_32 : decode cX3_welcome 32 = .ok (.getfield 40, 3) := by decide +kernel
theorem dX3_welcome_35 : decode cX3_welcome 35 = .ok (.iload_n 3, 1) := by decide +kernel
theorem dX3_welcome_36 : decode cX3_welcome 36 = .ok (.iconst 5, 1) := by decide +kernel
theorem dX3_welcome_37 : decode cX3_welcome 37 = .ok (.iastore, 1) := by decide +kernel
theorem dX3_welcome_38 : decode cX3_welcome 38 = .ok (.aload_n 0, 1) := by decide +kernel
theorem dX3_welcome_39 : decode cX3_welcome 39 = .ok (.dup, 1) := by decide +kernel
theorem dX3_welcome_40 : decode cX3_welcome 40 = .ok (.getfield 31, 3) := by decide +kernel
theorem dX3_welcome_43 : decode cX3_welcome 43 = .ok (.iconst 1, 1) := by decide +kernel
theorem dX3_welcome_44 : decode cX3_welcome 44 = .ok (.iadd, 1) := by decide +kernel
theorem dX3_welcome_45 : decode cX3_welcome 45 = .ok (.putfield 31, 3) := by decide +kernel
theorem dX3_welcome_48 : decode cX3_welcome 48 = .ok (.iload_n 3, 1) := by decide +kernel
theorem dX3_welcome_49 : decode cX3_welcome 49 = .ok (.ireturn, 1) := by decide +kernel
theorem dX3_mendedAt_0 : decode cX3_mendedAt 0 = .ok (.aload_n 0, 1) := by decide +kernel
theorem dX3_mendedAt_1 : decode cX3_mendedAt 1 = .ok (.getfield 15, 3) := by decide +kernel
theorem dX3_mendedAt_4 : decode cX3_mendedAt 4 = .ok (.iload_n 1, 1) := by decide +kernel
theorem dX3_mendedAt_5 : decode cX3_mendedAt 5 = .ok (.ishr, 1) := by decide +kernel
theorem dX3_mendedAt_6 : decode cX3_mendedAt 6 = .ok (.iconst 1, 1) := by decide +kernel
theorem dX3_mendedAt_7 : decode cX3_mendedAt 7 = .ok (.iand, 1) := by decide +kernel
theorem dX3_mendedAt_8 : decode cX3_mendedAt 8 = .ok (.ireturn, 1) := by decide +kernel
theorem dX3_weatherAhead_0 : decode cX3_weatherAhead 0 = .ok (.iload_n 1, 1) := by decide +kernel
theorem dX3_weatherAhead_1 : decode cX3_weatherAhead 1 = .ok (.ifCond .le 14, 3) := by decide +kernel
theorem dX3_weatherAhead_4 : decode cX3_weatherAhead 4 = .ok (.aload_n 0, 1) := by decide +kernel
theorem dX3_weatherAhead_5 : decode cX3_weatherAhead 5 = .ok (.getfield 9, 3) := by decide +kernel
theorem dX3_weatherAhead_8 : decode cX3_weatherAhead 8 = .ok (.iload_n 1, 1) := by decide +kernel
theorem dX3_weatherAhead_9 : decode cX3_weatherAhead 9 = .ok (.iconst 1, 1) := by decide +kernel
theorem dX3_weatherAhead_10 : decode cX3_weatherAhead 10 = .ok (.isub, 1) := by decide +kernel
theorem dX3_weatherAhead_11 : decode cX3_weatherAhead 11 = .ok (.iaload, 1) := by decide +kernel
theorem dX3_weatherAhead_12 : decode cX3_weatherAhead 12 = .ok (.goto 4, 3) := by decide +kernel
theorem dX3_weatherAhead_15 : decode cX3_weatherAhead 15 = .ok (.iconst 0, 1) := by decide +kernel
theorem dX3_weatherAhead_16 : decode cX3_weatherAhead 16 = .ok (.ireturn, 1) := by decide +kernel
theorem dX3_premiumsOfAll_0 : decode cX3_premiumsOfAll 0 = .ok (.iconst 0, 1) := by decide +kernel
theorem dX3_premiumsOfAll_1 : decode cX3_premiumsOfAll 1 = .ok (.istore_n 1, 1) := by decide +kernel
theorem dX3_premiumsOfAll_2 : decode cX3_premiumsOfAll 2 = .ok (.iconst 0, 1) := by decide +kernel
theorem dX3_premiumsOfAll_3 : decode cX3_premiumsOfAll 3 = .ok (.istore_n 2, 1) := by decide +kernel
theorem dX3_premiumsOfAll_4 : decode cX3_premiumsOfAll 4 = .ok (.iload_n 2, 1) := by decide +kernel
theorem dX3_premiumsOfAll_5 : decode cX3_premiumsOfAll 5 = .ok (.aload_n 0, 1) := by decide +kernel
theorem dX3_premiumsOfAll_6 : decode cX3_premiumsOfAll 6 = .ok (.getfield 31, 3) := by decide +kernel
theorem dX3_premiumsOfAll_9 : decode cX3_premiumsOfAll 9 = .ok (.if_icmp .ge 18, 3) := by decide +kernel
theorem dX3_premiumsOfAll_12 : decode cX3_premiumsOfAll 12 = .ok (.iload_n 1, 1) := by decide +kernel
theorem dX3_premiumsOfAll_13 : decode cX3_premiumsOfAll 13 = .ok (.aload_n 0, 1) := by decide +kernel
theorem dX3_premiumsOfAll_14 : decode cX3_premiumsOfAll 14 = .ok (.getfield 40, 3) := by decide +kernel
theorem dX3_premiumsOfAll_17 : decode cX3_premiumsOfAll 17 = .ok (.iload_n 2, 1) := by decide +kernel
theorem dX3_premiumsOfAll_18 : decode cX3_premiumsOfAll 18 = .ok (.iaload, 1) := by decide +kernel
theorem dX3_premiumsOfAll_19 : decode cX3_premiumsOfAll 19 = .ok (.iadd, 1) := by decide +kernel
theorem dX3_premiumsOfAll_20 : decode cX3_premiumsOfAll 20 = .ok (.istore_n 1, 1) := by decide +kernel
theorem dX3_premiumsOfAll_21 : decode cX3_premiumsOfAll 21 = .ok (.iinc 2 1, 3) := by decide +kernel
theorem dX3_premiumsOfAll_24 : decode cX3_premiumsOfAll 24 = .ok (.goto (-20), 3) := by decide +kernel
theorem dX3_premiumsOfAll_27 : decode cX3_premiumsOfAll 27 = .ok (.iload_n 1, 1) := by decide +kernel
theorem dX3_premiumsOfAll_28 : decode cX3_premiumsOfAll 28 = .ok (.ireturn, 1) := by decide +kernel
theorem dX3_earn_0 : decode cX3_earn 0 = .ok (.aload_n 0, 1) := by decide +kernel
theorem dX3_earn_1 : decode cX3_earn 1 = .ok (.getstatic 49, 3) := by decide +kernel
theorem dX3_earn_4 : decode cX3_earn 4 = .ok (.iconst 2, 1) := by decide +kernel
theorem dX3_earn_5 : decode cX3_earn 5 = .ok (.iaload, 1) := by decide +kernel
theorem dX3_earn_6 : decode cX3_earn 6 = .ok (.aload_n 0, 1) := by decide +kernel
theorem dX3_earn_7 : decode cX3_earn 7 = .ok (.getfield 25, 3) := by decide +kernel
theorem dX3_earn_10 : decode cX3_earn 10 = .ok (.iload_n 1, 1) := by decide +kernel
theorem dX3_earn_11 : decode cX3_earn 11 = .ok (.iadd, 1) := by decide +kernel
theorem dX3_earn_12 : decode cX3_earn 12 = .ok (.getstatic 52, 3) := by decide +kernel
theorem dX3_earn_15 : decode cX3_earn 15 = .ok (.iconst 2, 1) := by decide +kernel
theorem dX3_earn_16 : decode cX3_earn 16 = .ok (.iaload, 1) := by decide +kernel
theorem dX3_earn_17 : decode cX3_earn 17 = .ok (.invokestatic 55, 3) := by decide +kernel
theorem dX3_earn_20 : decode cX3_earn 20 = .ok (.putfield 25, 3) := by decide +kernel
theorem dX3_earn_23 : decode cX3_earn 23 = .ok (.return_, 1) := by decide +kernel
theorem dX4_init_0 : decode cX4_init 0 = .ok (.aload_n 0, 1) := by decide +kernel
theorem dX4_init_1 : decode cX4_init 1 = .ok (.invokespecial 3, 3) := by decide +kernel
theorem dX4_init_4 : decode cX4_init 4 = .ok (.aload_n 0, 1) := by decide +kernel
theorem dX4_init_5 : decode cX4_init 5 = .ok (.sipush 160, 3) := by decide +kernel
theorem dX4_init_8 : decode cX4_init 8 = .ok (.newarray .int, 2) := by decide +kernel
theorem dX4_init_10 : decode cX4_init 10 = .ok (.putfield 9, 3) := by decide +kernel
theorem dX4_init_13 : decode cX4_init 13 = .ok (.aload_n 0, 1) := by decide +kernel
theorem dX4_init_14 : decode cX4_init 14 = .ok (.iconst 0, 1) := by decide +kernel
theorem dX4_init_15 : decode cX4_init 15 = .ok (.putfield 15, 3) := by decide +kernel
theorem dX4_init_18 : decode cX4_init 18 = .ok (.aload_n 0, 1) := by decide +kernel
theorem dX4_init_19 : decode cX4_init 19 = .ok (.iconst 0, 1) := by decide +kernel
theorem dX4_init_20 : decode cX4_init 20 = .ok (.putfield 21, 3) := by decide +kernel
theorem dX4_init_23 : decode cX4_init 23 = .ok (.aload_n 0, 1) := by decide +kernel
theorem dX4_init_24 : decode cX4_init 24 = .ok (.iconst 0, 1) := by decide +kernel
theorem dX4_init_25 : decode cX4_init 25 = .ok (.putfield 24, 3) := by decide +kernel
theorem dX4_init_28 : decode cX4_init 28 = .ok (.aload_n 0, 1) := by decide +kernel
theorem dX4_init_29 : decode cX4_init 29 = .ok (.iconst 0, 1) := by decide +kernel
theorem dX4_init_30 : decode cX4_init 30 = .ok (.putfield 27, 3) := by decide +kernel
theorem dX4_init_33 : decode cX4_init 33 = .ok (.aload_n 0, 1) := by decide +kernel
theorem dX4_init_34 : decode cX4_init 34 = .ok (.iconst 0, 1) := by decide +kernel
theorem dX4_init_35 : decode cX4_init 35 = .ok (.putfield 30, 3) := by decide +kernel
theorem dX4_init_38 : decode cX4_init 38 = .ok (.aload_n 0, 1) := by decide +kernel
theorem dX4_init_39 : decode cX4_init 39 = .ok (.iconst 0, 1) := by decide +kernel
theorem dX4_init_40 : decode cX4_init 40 = .ok (.putfield 33, 3) := by decide +kernel
theorem dX4_init_43 : decode cX4_init 43 = .ok (.aload_n 0, 1) := by decide +kernel
theorem dX4_init_44 : decode cX4_init 44 = .ok (.sipush 160, 3) := by decide +kernel
theorem dX4_init_47 : decode cX4_init 47 = .ok (.newarray .int, 2) := by decide +kernel
theorem dX4_init_49 : decode cX4_init 49 = .ok (.putfield 36, 3) := by decide +kernel
theorem dX4_init_52 : decode cX4_init 52 = .ok (.aload_n 0, 1) := by decide +kernel
theorem dX4_init_53 : decode cX4_init 53 = .ok (.iconst 0, 1) := by decide +kernel
theorem dX4_init_54 : decode cX4_init 54 = .ok (.putfield 39, 3) := by decide +kernel
theorem dX4_init_57 : decode cX4_init 57 = .ok (.aload_n 0, 1) := by decide +kernel
theorem dX4_init_58 : decode cX4_init 58 = .ok (.iconst (-1), 1) := by decide +kernel
theorem dX4_init_59 : decode cX4_init 59 = .ok (.putfield 42, 3) := by decide +kernel
theorem dX4_init_62 : decode cX4_init 62 = .ok (.return_, 1) := by decide +kernel
theorem dX4_take_0 : decode cX4_take 0 = .ok (.aload_n 0, 1) := by decide +kernel
theorem dX4_take_1 : decode cX4_take 1 = .ok (.getfield 15, 3) := by decide +kernel
theorem dX4_take_4 : decode cX4_take 4 = .ok (.aload_n 0, 1) := by decide +kernel
theorem dX4_take_5 : decode cX4_take 5 = .ok (.getfield 9, 3) := by decide +kernel
theorem dX4_take_8 : decode cX4_take 8 = .ok (.arraylength, 1) := by decide +kernel
theorem dX4_take_9 : decode cX4_take 9 = .ok (.if_icmp .lt 6, 3) := by decide +kernel
theorem dX4_take_12 : decode cX4_take 12 = .ok (.bipush (-4), 2) := by decide +kernel
theorem dX4_take_14 : decode cX4_take 14 = .ok (.ireturn, 1) := by decide +kernel
theorem dX4_take_15 : decode cX4_take 15 = .ok (.aload_n 0, 1) := by decide +kernel
theorem dX4_take_16 : decode cX4_take 16 = .ok (.getfield 9, 3) := by decide +kernel
theorem dX4_take_19 : decode cX4_take 19 = .ok (.aload_n 0, 1) := by decide +kernel
theorem dX4_take_20 : decode cX4_take 20 = .ok (.getfield 15, 3) := by decide +kernel
theorem dX4_take_23 : decode cX4_take 23 = .ok (.iload_n 1, 1) := by decide +kernel
theorem dX4_take_24 : decode cX4_take 24 = .ok (.iastore, 1) := by decide +kernel
theorem dX4_take_25 : decode cX4_take 25 = .ok (.aload_n 0, 1) := by decide +kernel
theorem dX4_take_26 : decode cX4_take 26 = .ok (.dup, 1) := by decide +kernel
theorem dX4_take_27 : decode cX4_take 27 = .ok (.getfield 15, 3) := by decide +kernel
theorem dX4_take_30 : decode cX4_take 30 = .ok (.iconst 1, 1) := by decide +kernel
theorem dX4_take_31 : decode cX4_take 31 = .ok (.iadd, 1) := by decide +kernel
theorem dX4_take_32 : decode cX4_take 32 = .ok (.putfield 15, 3) := by decide +kernel
theorem dX4_take_35 : decode cX4_take 35 = .ok (.aload_n 0, 1) := by decide +kernel
theorem dX4_take_36 : decode cX4_take 36 = .ok (.getfield 15, 3) := by decide +kernel
theorem dX4_take_39 : decode cX4_take 39 = .ok (.ireturn, 1) := by decide +kernel
theorem dX4_parse_0 : decode cX4_parse 0 = .ok (.aload_n 0, 1) := by decide +kernel
theorem dX4_parse_1 : decode cX4_parse 1 = .ok (.iconst 0, 1) := by decide +kernel
theorem dX4_parse_2 : decode cX4_parse 2 = .ok (.putfield 27, 3) := by decide +kernel
theorem dX4_parse_5 : decode cX4_parse 5 = .ok (.aload_n 0, 1) := by decide +kernel
theorem dX4_parse_6 : decode cX4_parse 6 = .ok (.iconst 0, 1) := by decide +kernel
theorem dX4_parse_7 : decode cX4_parse 7 = .ok (.putfield 33, 3) := by decide +kernel
theorem dX4_parse_10 : decode cX4_parse 10 = .ok (.aload_n 0, 1) := by decide +kernel
theorem dX4_parse_11 : decode cX4_parse 11 = .ok (.iconst 0, 1) := by decide +kernel
theorem dX4_parse_12 : decode cX4_parse 12 = .ok (.putfield 39, 3) := by decide +kernel
theorem dX4_parse_15 : decode cX4_parse 15 = .ok (.aload_n 0, 1) := by decide +kernel
theorem dX4_parse_16 : decode cX4_parse 16 = .ok (.iconst (-1), 1) := by decide +kernel
theorem dX4_parse_17 : decode cX4_parse 17 = .ok (.putfield 42, 3) := by decide +kernel
theorem dX4_parse_20 : decode cX4_parse 20 = .ok (.iconst 4, 1) := by decide +kernel
theorem dX4_parse_21 : decode cX4_parse 21 = .ok (.newarray .int, 2) := by decide +kernel
theorem dX4_parse_23 : decode cX4_parse 23 = .ok (.astore_n 1, 1) := by decide +kernel
theorem dX4_parse_24 : decode cX4_parse 24 = .ok (.aload_n 0, 1) := by decide +kernel
theorem dX4_parse_25 : decode cX4_parse 25 = .ok (.invokevirtual 47, 3) := by decide +kernel
theorem dX4_parse_28 : decode cX4_parse 28 = .ok (.iconst 0, 1) := by decide +kernel
theorem dX4_parse_29 : decode cX4_parse 29 = .ok (.istore_n 2, 1) := by decide +kernel
theorem dX4_parse_30 : decode cX4_parse 30 = .ok (.iload_n 2, 1) := by decide +kernel
theorem dX4_parse_31 : decode cX4_parse 31 = .ok (.iconst 3, 1) := by decide +kernel
theorem dX4_parse_32 : decode cX4_parse 32 = .ok (.if_icmp .ge 37, 3) := by decide +kernel
theorem dX4_parse_35 : decode cX4_parse 35 = .ok (.aload_n 0, 1) := by decide +kernel
theorem dX4_parse_36 : decode cX4_parse 36 = .ok (.sipush 206, 3) := by decide +kernel
theorem dX4_parse_39 : decode cX4_parse 39 = .ok (.iload_n 2, 1) := by decide +kernel
theorem dX4_parse_40 : decode cX4_parse 40 = .ok (.iadd, 1) := by decide +kernel
theorem dX4_parse_41 : decode cX4_parse 41 = .ok (.invokevirtual 50, 3) := by decide +kernel
theorem dX4_parse_44 : decode cX4_parse 44 = .ok (.aload_n 0, 1) := by decide +kernel
theorem dX4_parse_45 : decode cX4_parse 45 = .ok (.invokevirtual 54, 3) := by decide +kernel
theorem dX4_parse_48 : decode cX4_parse 48 = .ok (.aload_n 1, 1) := by decide +kernel
theorem dX4_parse_49 : decode cX4_parse 49 = .ok (.iload_n 2, 1) := by decide +kernel
theorem dX4_parse_50 : decode cX4_parse 50 = .ok (.iconst 1, 1) := by decide +kernel
theorem dX4_parse_51 : decode cX4_parse 51 = .ok (.iadd, 1) := by decide +kernel
theorem dX4_parse_52 : decode cX4_parse 52 = .ok (.aload_n 0, 1) := by decide +kernel
theorem dX4_parse_53 : decode cX4_parse 53 = .ok (.getfield 39, 3) := by decide +kernel
theorem dX4_parse_56 : decode cX4_parse 56 = .ok (.iastore, 1) := by decide +kernel
theorem dX4_parse_57 : decode cX4_parse 57 = .ok (.aload_n 0, 1) := by decide +kernel
theorem dX4_parse_58 : decode cX4_parse 58 = .ok (.bipush 59, 2) := by decide +kernel
theorem dX4_parse_60 : decode cX4_parse 60 = .ok (.invokevirtual 50, 3) := by decide +kernel
theorem dX4_parse_63 : decode cX4_parse 63 = .ok (.iinc 2 1, 3) := by decide +kernel
theorem dX4_parse_66 : decode cX4_parse 66 = .ok (.goto (-36), 3) := by decide +kernel
theorem dX4_parse_69 : decode cX4_parse 69 = .ok (.aload_n 0, 1) := by decide +kernel
theorem dX4_parse_70 : decode cX4_parse 70 = .ok (.getfield 21, 3) := by decide +kernel
theorem dX4_parse_73 : decode cX4_parse 73 = .ok (.ifCond .eq 7, 3) := by decide +kernel
theorem dX4_parse_76 : decode cX4_parse 76 = .ok (.aload_n 0, 1) := by decide +kernel
theorem dX4_parse_77 : decode cX4_parse 77 = .ok (.invokevirtual 57, 3) := by decide +kernel
theorem dX4_parse_80 : decode cX4_parse 80 = .ok (.aload_n 0, 1) := by decide +kernel
theorem dX4_parse_81 : decode cX4_parse 81 = .ok (.getfield 42, 3) := by decide +kernel
theorem dX4_parse_84 : decode cX4_parse 84 = .ok (.iconst (-1), 1) := by decide +kernel
theorem dX4_parse_85 : decode cX4_parse 85 = .ok (.if_icmp .ne 22, 3) := by decide +kernel
theorem dX4_parse_88 : decode cX4_parse 88 = .ok (.new 45, 3) := by decide +kernel
theorem dX4_parse_91 : decode cX4_parse 91 = .ok (.dup, 1) := by decide +kernel
theorem dX4_parse_92 : decode cX4_parse 92 = .ok (.aload_n 0, 1) := by decide +kernel
theorem dX4_parse_93 : decode cX4_parse 93 = .ok (.getfield 36, 3) := by decide +kernel
theorem dX4_parse_96 : decode cX4_parse 96 = .ok (.aload_n 0, 1) := by decide +kernel
theorem dX4_parse_97 : decode cX4_parse 97 = .ok (.getfield 39, 3) := by decide +kernel
theorem dX4_parse_100 : decode cX4_parse 100 = .ok (.aload_n 1, 1) := by decide +kernel
theorem dX4_parse_101 : decode cX4_parse 101 = .ok (.invokespecial 60, 3) := by decide +kernel
theorem dX4_parse_104 : decode cX4_parse 104 = .ok (.goto 4, 3) := by decide +kernel
theorem dX4_parse_107 : decode cX4_parse 107 = .ok (.aconst_null, 1) := by decide +kernel
theorem dX4_parse_108 : decode cX4_parse 108 = .ok (.areturn, 1) := by decide +kernel
theorem dX4_expression_0 : decode cX4_expression 0 = .ok (.aload_n 0, 1) := by decide +kernel
theorem dX4_expression_1 : decode cX4_expression 1 = .ok (.invokevirtual 63, 3) := by decide +kernel
theorem dX4_expression_4 : decode cX4_expression 4 = .ok (.iconst 0, 1) := by decide +kernel
theorem dX4_expression_5 : decode cX4_expression 5 = .ok (.istore_n 1, 1) := by decide +kernel
theorem dX4_expression_6 : decode cX4_expression 6 = .ok (.iload_n 1, 1) := by decide +kernel
theorem dX4_expression_7 : decode cX4_expression 7 = .ok (.sipush 160, 3) := by decide +kernel
theorem dX4_expression_10 : decode cX4_expression 10 = .ok (.if_icmp .ge 34, 3) := by decide +kernel
theorem dX4_expression_13 : decode cX4_expression 13 = .ok (.aload_n 0, 1) := by decide +kernel
theorem dX4_expression_14 : decode cX4_expression 14 = .ok (.getfield 21, 3) := by decide +kernel
theorem dX4_expression_17 : decode cX4_expression 17 = .ok (.sipush 209, 3) := by decide +kernel
theorem dX4_expression_20 : decode cX4_expression 20 = .ok (.if_icmp .ne 24, 3) := by decide +kernel
theorem dX4_expression_23 : decode cX4_expression 23 = .ok (.aload_n 0, 1) := by decide +kernel
theorem dX4_expression_24 : decode cX4_expression 24 = .ok (.invokevirtual 47, 3) := by decide +kernel
theorem dX4_expression_27 : decode cX4_expression 27 = .ok (.aload_n 0, 1) := by decide +kernel
theorem dX4_expression_28 : decode cX4_expression 28 = .ok (.invokevirtual 63, 3) := by decide +kernel
theorem dX4_expression_31 : decode cX4_expression 31 = .ok (.aload_n 0, 1) := by decide +kernel
theorem dX4_expression_32 : decode cX4_expression 32 = .ok (.sipush (-209), 3) := by decide +kernel
theorem dX4_expression_35 : decode cX4_expression 35 = .ok (.invokevirtual 66, 3) := by decide +kernel
theorem dX4_expression_38 : decode cX4_expression 38 = .ok (.iinc 1 1, 3) := by decide +kernel
theorem dX4_expression_41 : decode cX4_expression 41 = .ok (.goto (-35), 3) := by decide +kernel
theorem dX4_expression_44 : decode cX4_expression 44 = .ok (.return_, 1) := by decide +kernel
theorem dX4_conjunction_0 : decode cX4_conjunction 0 = .ok (.aload_n 0, 1) := by decide +kernel
theorem dX4_conjunction_1 : decode cX4_conjunction 1 = .ok (.invokevirtual 69, 3) := by decide +kernel
theorem dX4_conjunction_4 : decode cX4_conjunction 4 = .ok (.iconst 0, 1) := by decide +kernel
theorem dX4_conjunction_5 : decode cX4_conjunction 5 = .ok (.istore_n 1, 1) := by decide +kernel
theorem dX4_conjunction_6 : decode cX4_conjunction 6 = .ok (.iload_n 1, 1) := by decide +kernel
theorem dX4_conjunction_7 : decode cX4_conjunction 7 = .ok (.sipush 160, 3) := by decide +kernel
theorem dX4_conjunction_10 : decode cX4_conjunction 10 = .ok (.if_icmp .ge 34, 3) := by decide +kernel
theorem dX4_conjunction_13 : decode cX4_conjunction 13 = .ok (.aload_n 0, 1) := by decide +kernel
theorem dX4_conjunction_14 : decode cX4_conjunction 14 = .ok (.getfield 21, 3) := by decide +kernel
theorem dX4_conjunction_17 : decode cX4_conjunction 17 = .ok (.sipush 210, 3) := by decide +kernel
theorem dX4_conjunction_20 : decode cX4_conjunction 20 = .ok (.if_icmp .ne 24, 3) := by decide +kernel
theorem dX4_conjunction_23 : decode cX4_conjunction 23 = .ok (.aload_n 0, 1) := by decide +kernel
theorem dX4_conjunction_24 : decode cX4_conjunction 24 = .ok (.invokevirtual 47, 3) := by decide +kernel
theorem dX4_conjunction_27 : decode cX4_conjunction 27 = .ok (.aload_n 0, 1) := by decide +kernel
theorem dX4_conjunction_28 : decode cX4_conjunction 28 = .ok (.invokevirtual 69, 3) := by decide +kernel
theorem dX4_conjunction_31 : decode cX4_conjunction 31 = .ok (.aload_n 0, 1) := by decide +kernel
theorem dX4_conjunction_32 : decode cX4_conjunction 32 = .ok (.sipush (-210), 3) := by decide +kernel
theorem dX4_conjunction_35 : decode cX4_conjunction 35 = .ok (.invokevirtual 66, 3) := by decide +kernel
theorem dX4_conjunction_38 : decode cX4_conjunction 38 = .ok (.iinc 1 1, 3) := by decide +kernel
theorem dX4_conjunction_41 : decode cX4_conjunction 41 = .ok (.goto (-35), 3) := by decide +kernel
theorem dX4_conjunction_44 : decode cX4_conjunction 44 = .ok (.return_, 1) := by decide +kernel
theorem dX4_negation_0 : decode cX4_negation 0 = .ok (.aload_n 0, 1) := by decide +kernel
theorem dX4_negation_1 : decode cX4_negation 1 = .ok (.getfield 21, 3) := by decide +kernel
theorem dX4_negation_4 : decode cX4_negation 4 = .ok (.sipush 211, 3) := by decide +kernel
theorem dX4_negation_7 : decode cX4_negation 7 = .ok (.if_icmp .ne 32, 3) := by decide +kernel
theorem dX4_negation_10 : decode cX4_negation 10 = .ok (.aload_n 0, 1) := by decide +kernel
theorem dX4_negation_11 : decode cX4_negation 11 = .ok (.invokevirtual 72, 3) := by decide +kernel
theorem dX4_negation_14 : decode cX4_negation 14 = .ok (.ifCond .eq 24, 3) := by decide +kernel
theorem dX4_negation_17 : decode cX4_negation 17 = .ok (.aload_n 0, 1) := by decide +kernel
theorem dX4_negation_18 : decode cX4_negation 18 = .ok (.invokevirtual 69, 3) := by decide +kernel
theorem dX4_negation_21 : decode cX4_negation 21 = .ok (.aload_n 0, 1) := by decide +kernel
theorem dX4_negation_22 : decode cX4_negation 22 = .ok (.dup, 1) := by decide +kernel
theorem dX4_negation_23 : decode cX4_negation 23 = .ok (.getfield 33, 3) := by decide +kernel
theorem dX4_negation_26 : decode cX4_negation 26 = .ok (.iconst 1, 1) := by decide +kernel
theorem dX4_negation_27 : decode cX4_negation 27 = .ok (.isub, 1) := by decide +kernel
theorem dX4_negation_28 : decode cX4_negation 28 = .ok (.putfield 33, 3) := by decide +kernel
theorem dX4_negation_31 : decode cX4_negation 31 = .ok (.aload_n 0, 1) := by decide +kernel
theorem dX4_negation_32 : decode cX4_negation 32 = .ok (.sipush (-211), 3) := by decide +kernel
theorem dX4_negation_35 : decode cX4_negation 35 = .ok (.invokevirtual 66, 3) := by decide +kernel
theorem dX4_negation_38 : decode cX4_negation 38 = .ok (.return_, 1) := by decide +kernel
theorem dX4_negation_39 : decode cX4_negation 39 = .ok (.aload_n 0, 1) := by decide +kernel
theorem dX4_negation_40 : decode cX4_negation 40 = .ok (.invokevirtual 76, 3) := by decide +kernel
theorem dX4_negation_43 : decode cX4_negation 43 = .ok (.aload_n 0, 1) := by decide +kernel
theorem dX4_negation_44 : decode cX4_negation 44 = .ok (.getfield 21, 3) := by decide +kernel
theorem dX4_negation_47 : decode cX4_negation 47 = .ok (.bipush 60, 2) := by decide +kernel
theorem dX4_negation_49 : decode cX4_negation 49 = .ok (.if_icmp .eq 12, 3) := by decide +kernel
theorem dX4_negation_52 : decode cX4_negation 52 = .ok (.aload_n 0, 1) := by decide +kernel
theorem dX4_negation_53 : decode cX4_negation 53 = .ok (.getfield 21, 3) := by decide +kernel
theorem dX4_negation_56 : decode cX4_negation 56 = .ok (.bipush 61, 2) := by decide +kernel
theorem dX4_negation_58 : decode cX4_negation 58 = .ok (.if_icmp .ne 22, 3) := by decide +kernel
theorem dX4_negation_61 : decode cX4_negation 61 = .ok (.aload_n 0, 1) := by decide +kernel
theorem dX4_negation_62 : decode cX4_negation 62 = .ok (.getfield 21, 3) := by decide +kernel
theorem dX4_negation_65 : decode cX4_negation 65 = .ok (.istore_n 1, 1) := by decide +kernel
theorem dX4_negation_66 : decode cX4_negation 66 = .ok (.aload_n 0, 1) := by decide +kernel
theorem dX4_negation_67 : decode cX4_negation 67 = .ok (.invokevirtual 47, 3) := by decide +kernel
theorem dX4_negation_70 : decode cX4_negation 70 = .ok (.aload_n 0, 1) := by decide +kernel
theorem dX4_negation_71 : decode cX4_negation 71 = .ok (.invokevirtual 76, 3) := by decide +kernel
theorem dX4_negation_74 : decode cX4_negation 74 = .ok (.aload_n 0, 1) := by decide +kernel
theorem dX4_negation_75 : decode cX4_negation 75 = .ok (.iload_n 1, 1) := by decide +kernel
theorem dX4_negation_76 : decode cX4_negation 76 = .ok (.ineg, 1) := by decide +kernel
theorem dX4_negation_77 : decode cX4_negation 77 = .ok (.invokevirtual 66, 3) := by decide +kernel
theorem dX4_negation_80 : decode cX4_negation 80 = .ok (.return_, 1) := by decide +kernel
theorem dX4_sum_0 : decode cX4_sum 0 = .ok (.aload_n 0, 1) := by decide +kernel
theorem dX4_sum_1 : decode cX4_sum 1 = .ok (.invokevirtual 79, 3) := by decide +kernel
theorem dX4_sum_4 : decode cX4_sum 4 = .ok (.iconst 0, 1) := by decide +kernel
theorem dX4_sum_5 : decode cX4_sum 5 = .ok (.istore_n 1, 1) := by decide +kernel
theorem dX4_sum_6 : decode cX4_sum 6 = .ok (.iload_n 1, 1) := by decide +kernel
theorem dX4_sum_7 : decode cX4_sum 7 = .ok (.sipush 160, 3) := by decide +kernel
theorem dX4_sum_10 : decode cX4_sum 10 = .ok (.if_icmp .ge 46, 3) := by decide +kernel
theorem dX4_sum_13 : decode cX4_sum 13 = .ok (.aload_n 0, 1) := by decide +kernel
theorem dX4_sum_14 : decode cX4_sum 14 = .ok (.getfield 21, 3) := by decide +kernel
theorem dX4_sum_17 : decode cX4_sum 17 = .ok (.bipush 43, 2) := by decide +kernel
theorem dX4_sum_19 : decode cX4_sum 19 = .ok (.if_icmp .eq 12, 3) := by decide +kernel
theorem dX4_sum_22 : decode cX4_sum 22 = .ok (.aload_n 0, 1) := by decide +kernel
theorem dX4_sum_23 : decode cX4_sum 23 = .ok (.getfield 21, 3) := by decide +kernel
theorem dX4_sum_26 : decode cX4_sum 26 = .ok (.bipush 45, 2) := by decide +kernel
theorem dX4_sum_28 : decode cX4_sum 28 = .ok (.if_icmp .ne 28, 3) := by decide +kernel
theorem dX4_sum_31 : decode cX4_sum 31 = .ok (.aload_n 0, 1) := by decide +kernel
theorem dX4_sum_32 : decode cX4_sum 32 = .ok (.getfield 21, 3) := by decide +kernel
theorem dX4_sum_35 : decode cX4_sum 35 = .ok (.istore_n 2, 1) := by decide +kernel
theorem dX4_sum_36 : decode cX4_sum 36 = .ok (.aload_n 0, 1) := by decide +kernel
theorem dX4_sum_37 : decode cX4_sum 37 = .ok (.invokevirtual 47, 3) := by decide +kernel
theorem dX4_sum_40 : decode cX4_sum 40 = .ok (.aload_n 0, 1) := by decide +kernel
theorem dX4_sum_41 : decode cX4_sum 41 = .ok (.invokevirtual 79, 3) := by decide +kernel
theorem dX4_sum_44 : decode cX4_sum 44 = .ok (.aload_n 0, 1) := by decide +kernel
theorem dX4_sum_45 : decode cX4_sum 45 = .ok (.iload_n 2, 1) := by decide +kernel
theorem dX4_sum_46 : decode cX4_sum 46 = .ok (.ineg, 1) := by decide +kernel
theorem dX4_sum_47 : decode cX4_sum 47 = .ok (.invokevirtual 66, 3) := by decide +kernel
theorem dX4_sum_50 : decode cX4_sum 50 = .ok (.iinc 1 1, 3) := by decide +kernel
theorem dX4_sum_53 : decode cX4_sum 53 = .ok (.goto (-47), 3) := by decide +kernel
theorem dX4_sum_56 : decode cX4_sum 56 = .ok (.return_, 1) := by decide +kernel
theorem dX4_term_0 : decode cX4_term 0 = .ok (.aload_n 0, 1) := by decide +kernel
theorem dX4_term_1 : decode cX4_term 1 = .ok (.invokevirtual 82, 3) := by decide +kernel
theorem dX4_term_4 : decode cX4_term 4 = .ok (.iconst 0, 1) := by decide +kernel
theorem dX4_term_5 : decode cX4_term 5 = .ok (.istore_n 1, 1) := by decide +kernel
theorem dX4_term_6 : decode cX4_term 6 = .ok (.iload_n 1, 1) := by decide +kernel
theorem dX4_term_7 : decode cX4_term 7 = .ok (.sipush 160, 3) := by decide +kernel
theorem dX4_term_10 : decode cX4_term 10 = .ok (.if_icmp .ge 32, 3) := by decide +kernel
theorem dX4_term_13 : decode cX4_term 13 = .ok (.aload_n 0, 1) := by decide +kernel
theorem dX4_term_14 : decode cX4_term 14 = .ok (.getfield 21, 3) := by decide +kernel
theorem dX4_term_17 : decode cX4_term 17 = .ok (.bipush 42, 2) := by decide +kernel
theorem dX4_term_19 : decode cX4_term 19 = .ok (.if_icmp .ne 23, 3) := by decide +kernel
theorem dX4_term_22 : decode cX4_term 22 = .ok (.aload_n 0, 1) := by decide +kernel
theorem dX4_term_23 : decode cX4_term 23 = .ok (.invokevirtual 47, 3) := by decide +kernel
theorem dX4_term_26 : decode cX4_term 26 = .ok (.aload_n 0, 1) := by decide +kernel
theorem dX4_term_27 : decode cX4_term 27 = .ok (.invokevirtual 82, 3) := by decide +kernel
theorem dX4_term_30 : decode cX4_term 30 = .ok (.aload_n 0, 1) := by decide +kernel
theorem dX4_term_31 : decode cX4_term 31 = .ok (.bipush (-42), 2) := by decide +kernel
theorem dX4_term_33 : decode cX4_term 33 = .ok (.invokevirtual 66, 3) := by decide +kernel
theorem dX4_term_36 : decode cX4_term 36 = .ok (.iinc 1 1, 3) := by decide +kernel
theorem dX4_term_39 : decode cX4_term 39 = .ok (.goto (-33), 3) := by decide +kernel
theorem dX4_term_42 : decode cX4_term 42 = .ok (.return_, 1) := by decide +kernel
theorem dX4_single_0 : decode cX4_single 0 = .ok (.aload_n 0, 1) := by decide +kernel
theorem dX4_single_1 : decode cX4_single 1 = .ok (.getfield 21, 3) := by decide +kernel
theorem dX4_single_4 : decode cX4_single 4 = .ok (.iconst 1, 1) := by decide +kernel
theorem dX4_single_5 : decode cX4_single 5 = .ok (.if_icmp .ne 18, 3) := by decide +kernel
theorem dX4_single_8 : decode cX4_single 8 = .ok (.aload_n 0, 1) := by decide +kernel
theorem dX4_single_9 : decode cX4_single 9 = .ok (.aload_n 0, 1) := by decide +kernel
theorem dX4_single_10 : decode cX4_single 10 = .ok (.getfield 30, 3) := by decide +kernel
theorem dX4_single_13 : decode cX4_single 13 = .ok (.invokevirtual 66, 3) := by decide +kernel
theorem dX4_single_16 : decode cX4_single 16 = .ok (.aload_n 0, 1) := by decide +kernel
theorem dX4_single_17 : decode cX4_single 17 = .ok (.invokevirtual 47, 3) := by decide +kernel
theorem dX4_single_20 : decode cX4_single 20 = .ok (.goto 111, 3) := by decide +kernel
theorem dX4_single_23 : decode cX4_single 23 = .ok (.aload_n 0, 1) := by decide +kernel
theorem dX4_single_24 : decode cX4_single 24 = .ok (.getfield 21, 3) := by decide +kernel
theorem dX4_single_27 : decode cX4_single 27 = .ok (.invokestatic 85, 3) := by decide +kernel
theorem dX4_single_30 : decode cX4_single 30 = .ok (.ifCond .eq 19, 3) := by decide +kernel
theorem dX4_single_33 : decode cX4_single 33 = .ok (.aload_n 0, 1) := by decide +kernel
theorem dX4_single_34 : decode cX4_single 34 = .ok (.aload_n 0, 1) := by decide +kernel
theorem dX4_single_35 : decode cX4_single 35 = .ok (.getfield 21, 3) := by decide +kernel
theorem dX4_single_38 : decode cX4_single 38 = .ok (.ineg, 1) := by decide +kernel
theorem dX4_single_39 : decode cX4_single 39 = .ok (.invokevirtual 66, 3) := by decide +kernel
theorem dX4_single_42 : decode cX4_single 42 = .ok (.aload_n 0, 1) := by decide +kernel
theorem dX4_single_43 : decode cX4_single 43 = .ok (.invokevirtual 47, 3) := by decide +kernel
theorem dX4_single_46 : decode cX4_single 46 = .ok (.goto 85, 3) := by decide +kernel
theorem dX4_single_49 : decode cX4_single 49 = .ok (.aload_n 0, 1) := by decide +kernel
theorem dX4_single_50 : decode cX4_single 50 = .ok (.getfield 21, 3) := by decide +kernel
theorem dX4_single_53 : decode cX4_single 53 = .ok (.bipush 45, 2) := by decide +kernel
theorem dX4_single_55 : decode cX4_single 55 = .ok (.if_icmp .ne 33, 3) := by decide +kernel
theorem dX4_single_58 : decode cX4_single 58 = .ok (.aload_n 0, 1) := by decide +kernel
theorem dX4_single_59 : decode cX4_single 59 = .ok (.invokevirtual 72, 3) := by decide +kernel
theorem dX4_single_62 : decode cX4_single 62 = .ok (.ifCond .eq 69, 3) := by decide +kernel
theorem dX4_single_65 : decode cX4_single 65 = .ok (.aload_n 0, 1) := by decide +kernel
theorem dX4_single_66 : decode cX4_single 66 = .ok (.invokevirtual 82, 3) := by decide +kernel
theorem dX4_single_69 : decode cX4_single 69 = .ok (.aload_n 0, 1) := by decide +kernel
theorem dX4_single_70 : decode cX4_single 70 = .ok (.dup, 1) := by decide +kernel
theorem dX4_single_71 : decode cX4_single 71 = .ok (.getfield 33, 3) := by decide +kernel
theorem dX4_single_74 : decode cX4_single 74 = .ok (.iconst 1, 1) := by decide +kernel
theorem dX4_single_75 : decode cX4_single 75 = .ok (.isub, 1) := by decide +kernel
theorem dX4_single_76 : decode cX4_single 76 = .ok (.putfield 33, 3) := by decide +kernel
theorem dX4_single_79 : decode cX4_single 79 = .ok (.aload_n 0, 1) := by decide +kernel
theorem dX4_single_80 : decode cX4_single 80 = .ok (.bipush (-3), 2) := by decide +kernel
theorem dX4_single_82 : decode cX4_single 82 = .ok (.invokevirtual 66, 3) := by decide +kernel
theorem dX4_single_85 : decode cX4_single 85 = .ok (.goto 46, 3) := by decide +kernel
theorem dX4_single_88 : decode cX4_single 88 = .ok (.aload_n 0, 1) := by decide +kernel
theorem dX4_single_89 : decode cX4_single 89 = .ok (.getfield 21, 3) := by decide +kernel
theorem dX4_single_92 : decode cX4_single 92 = .ok (.bipush 40, 2) := by decide +kernel
theorem dX4_single_94 : decode cX4_single 94 = .ok (.if_icmp .ne 33, 3) := by decide +kernel
theorem dX4_single_97 : decode cX4_single 97 = .ok (.aload_n 0, 1) := by decide +kernel
theorem dX4_single_98 : decode cX4_single 98 = .ok (.invokevirtual 72, 3) := by decide +kernel
theorem dX4_single_101 : decode cX4_single 101 = .ok (.ifCond .eq 30, 3) := by decide +kernel
theorem dX4_single_104 : decode cX4_single 104 = .ok (.aload_n 0, 1) := by decide +kernel
theorem dX4_single_105 : decode cX4_single 105 = .ok (.invokevirtual 54, 3) := by decide +kernel
theorem dX4_single_108 : decode cX4_single 108 = .ok (.aload_n 0, 1) := by decide +kernel
theorem dX4_single_109 : decode cX4_single 109 = .ok (.dup, 1) := by decide +kernel
theorem dX4_single_110 : decode cX4_single 110 = .ok (.getfield 33, 3) := by decide +kernel
theorem dX4_single_113 : decode cX4_single 113 = .ok (.iconst 1, 1) := by decide +kernel
theorem dX4_single_114 : decode cX4_single 114 = .ok (.isub, 1) := by decide +kernel
theorem dX4_single_115 : decode cX4_single 115 = .ok (.putfield 33, 3) := by decide +kernel
theorem dX4_single_118 : decode cX4_single 118 = .ok (.aload_n 0, 1) := by decide +kernel
theorem dX4_single_119 : decode cX4_single 119 = .ok (.bipush 41, 2) := by decide +kernel
theorem dX4_single_121 : decode cX4_single 121 = .ok (.invokevirtual 50, 3) := by decide +kernel
theorem dX4_single_124 : decode cX4_single 124 = .ok (.goto 7, 3) := by decide +kernel
theorem dX4_single_127 : decode cX4_single 127 = .ok (.aload_n 0, 1) := by decide +kernel
theorem dX4_single_128 : decode cX4_single 128 = .ok (.invokevirtual 57, 3) := by decide +kernel
theorem dX4_single_131 : decode cX4_single 131 = .ok (.return_, 1) := by decide +kernel
theorem dX4_opens_0 : decode cX4_opens 0 = .ok (.aload_n 0, 1) := by decide +kernel
theorem dX4_opens_1 : decode cX4_opens 1 = .ok (.getfield 33, 3) := by decide +kernel
theorem dX4_opens_4 : decode cX4_opens 4 = .ok (.iconst 5, 1) := by decide +kernel
theorem dX4_opens_5 : decode cX4_opens 5 = .ok (.if_icmp .lt 9, 3) := by decide +kernel
theorem dX4_opens_8 : decode cX4_opens 8 = .ok (.aload_n 0, 1) := by decide +kernel
theorem dX4_opens_9 : decode cX4_opens 9 = .ok (.invokevirtual 57, 3) := by decide +kernel
theorem dX4_opens_12 : decode cX4_opens 12 = .ok (.iconst 0, 1) := by decide +kernel
theorem dX4_opens_13 : decode cX4_opens 13 = .ok (.ireturn, 1) := by decide +kernel
theorem dX4_opens_14 : decode cX4_opens 14 = .ok (.aload_n 0, 1) := by decide +kernel
theorem dX4_opens_15 : decode cX4_opens 15 = .ok (.dup, 1) := by decide +kernel
theorem dX4_opens_16 : decode cX4_opens 16 = .ok (.getfield 33, 3) := by decide +kernel
theorem dX4_opens_19 : decode cX4_opens 19 = .ok (.iconst 1, 1) := by decide +kernel
theorem dX4_opens_20 : decode cX4_opens 20 = .ok (.iadd, 1) := by decide +kernel
theorem dX4_opens_21 : decode cX4_opens 21 = .ok (.putfield 33, 3) := by decide +kernel
theorem dX4_opens_24 : decode cX4_opens 24 = .ok (.aload_n 0, 1) := by decide +kernel
theorem dX4_opens_25 : decode cX4_opens 25 = .ok (.invokevirtual 47, 3) := by decide +kernel
theorem dX4_opens_28 : decode cX4_opens 28 = .ok (.iconst 1, 1) := by decide +kernel
theorem dX4_opens_29 : decode cX4_opens 29 = .ok (.ireturn, 1) := by decide +kernel
theorem dX4_expect_0 : decode cX4_expect 0 = .ok (.aload_n 0, 1) := by decide +kernel
theorem dX4_expect_1 : decode cX4_expect 1 = .ok (.getfield 21, 3) := by decide +kernel
theorem dX4_expect_4 : decode cX4_expect 4 = .ok (.iload_n 1, 1) := by decide +kernel
theorem dX4_expect_5 : decode cX4_expect 5 = .ok (.if_icmp .ne 10, 3) := by decide +kernel
theorem dX4_expect_8 : decode cX4_expect 8 = .ok (.aload_n 0, 1) := by decide +kernel
theorem dX4_expect_9 : decode cX4_expect 9 = .ok (.invokevirtual 47, 3) := by decide +kernel
theorem dX4_expect_12 : decode cX4_expect 12 = .ok (.goto 7, 3) := by decide +kernel
theorem dX4_expect_15 : decode cX4_expect 15 = .ok (.aload_n 0, 1) := by decide +kernel
theorem dX4_expect_16 : decode cX4_expect 16 = .ok (.invokevirtual 57, 3) := by decide +kernel
theorem dX4_expect_19 : decode cX4_expect 19 = .ok (.return_, 1) := by decide +kernel
theorem dX4_refuse_0 : decode cX4_refuse 0 = .ok (.aload_n 0, 1) := by decide +kernel
theorem dX4_refuse_1 : decode cX4_refuse 1 = .ok (.getfield 42, 3) := by decide +kernel
theorem dX4_refuse_4 : decode cX4_refuse 4 = .ok (.iconst (-1), 1) := by decide +kernel
theorem dX4_refuse_5 : decode cX4_refuse 5 = .ok (.if_icmp .ne 11, 3) := by decide +kernel
theorem dX4_refuse_8 : decode cX4_refuse 8 = .ok (.aload_n 0, 1) := by decide +kernel
theorem dX4_refuse_9 : decode cX4_refuse 9 = .ok (.aload_n 0, 1) := by decide +kernel
theorem dX4_refuse_10 : decode cX4_refuse 10 = .ok (.getfield 24, 3) := by decide +kernel
theorem dX4_refuse_13 : decode cX4_refuse 13 = .ok (.putfield 42, 3) := by decide +kernel
theorem dX4_refuse_16 : decode cX4_refuse 16 = .ok (.aload_n 0, 1) := by decide +kernel
theorem dX4_refuse_17 : decode cX4_refuse 17 = .ok (.iconst 2, 1) := by decide +kernel
theorem dX4_refuse_18 : decode cX4_refuse 18 = .ok (.putfield 21, 3) := by decide +kernel
theorem dX4_refuse_21 : decode cX4_refuse 21 = .ok (.return_, 1) := by decide +kernel
theorem dX4_emit_0 : decode cX4_emit 0 = .ok (.aload_n 0, 1) := by decide +kernel
theorem dX4_emit_1 : decode cX4_emit 1 = .ok (.getfield 39, 3) := by decide +kernel
theorem dX4_emit_4 : decode cX4_emit 4 = .ok (.aload_n 0, 1) := by decide +kernel
theorem dX4_emit_5 : decode cX4_emit 5 = .ok (.getfield 36, 3) := by decide +kernel
theorem dX4_emit_8 : decode cX4_emit 8 = .ok (.arraylength, 1) := by decide +kernel
theorem dX4_emit_9 : decode cX4_emit 9 = .ok (.if_icmp .ge 23, 3) := by decide +kernel
theorem dX4_emit_12 : decode cX4_emit 12 = .ok (.aload_n 0, 1) := by decide +kernel
theorem dX4_emit_13 : decode cX4_emit 13 = .ok (.getfield 36, 3) := by decide +kernel
theorem dX4_emit_16 : decode cX4_emit 16 = .ok (.aload_n 0, 1) := by decide +kernel
theorem dX4_emit_17 : decode cX4_emit 17 = .ok (.getfield 39, 3) := by decide +kernel
theorem dX4_emit_20 : decode cX4_emit 20 = .ok (.iload_n 1, 1) := by decide +kernel
theorem dX4_emit_21 : decode cX4_emit 21 = .ok (.iastore, 1) := by decide +kernel
theorem dX4_emit_22 : decode cX4_emit 22 = .ok (.aload_n 0, 1) := by decide +kernel
theorem dX4_emit_23 : decode cX4_emit 23 = .ok (.dup, 1) := by decide +kernel
theorem dX4_emit_24 : decode cX4_emit 24 = .ok (.getfield 39, 3) := by decide +kernel
theorem dX4_emit_27 : decode cX4_emit 27 = .ok (.iconst 1, 1) := by decide +kernel
theorem dX4_emit_28 : decode cX4_emit 28 = .ok (.iadd, 1) := by decide +kernel
theorem dX4_emit_29 : decode cX4_emit 29 = .ok (.putfield 39, 3) := by decide +kernel
theorem dX4_emit_32 : decode cX4_emit 32 = .ok (.return_, 1) := by decide +kernel
theorem dX4_advance_0 : decode cX4_advance 0 = .ok (.aload_n 0, 1) := by decide +kernel
theorem dX4_advance_1 : decode cX4_advance 1 = .ok (.getfield 27, 3) := by decide +kernel
theorem dX4_advance_4 : decode cX4_advance 4 = .ok (.aload_n 0, 1) := by decide +kernel
theorem dX4_advance_5 : decode cX4_advance 5 = .ok (.getfield 15, 3) := by decide +kernel
theorem dX4_advance_8 : decode cX4_advance 8 = .ok (.if_icmp .ge 44, 3) := by decide +kernel
theorem dX4_advance_11 : decode cX4_advance 11 = .ok (.aload_n 0, 1) := by decide +kernel
theorem dX4_advance_12 : decode cX4_advance 12 = .ok (.getfield 9, 3) := by decide +kernel
theorem dX4_advance_15 : decode cX4_advance 15 = .ok (.aload_n 0, 1) := by decide +kernel
theorem dX4_advance_16 : decode cX4_advance 16 = .ok (.getfield 27, 3) := by decide +kernel
theorem dX4_advance_19 : decode cX4_advance 19 = .ok (.iaload, 1) := by decide +kernel
theorem dX4_advance_20 : decode cX4_advance 20 = .ok (.bipush 32, 2) := by decide +kernel
theorem dX4_advance_22 : decode cX4_advance 22 = .ok (.if_icmp .eq 17, 3) := by decide +kernel
theorem dX4_advance_25 : decode cX4_advance 25 = .ok (.aload_n 0, 1) := by decide +kernel
theorem dX4_advance_26 : decode cX4_advance 26 = .ok (.getfield 9, 3) := by decide +kernel
theorem dX4_advance_29 : decode cX4_advance 29 = .ok (.aload_n 0, 1) := by decide +kernel
theorem dX4_advance_30 : decode cX4_advance 30 = .ok (.getfield 27, 3) := by decide +kernel
theorem dX4_advance_33 : decode cX4_advance 33 = .ok (.iaload, 1) := by decide +kernel
theorem dX4_advance_34 : decode cX4_advance 34 = .ok (.bipush 10, 2) := by decide +kernel
theorem dX4_advance_36 : decode cX4_advance 36 = .ok (.if_icmp .ne 16, 3) := by decide +kernel
theorem dX4_advance_39 : decode cX4_advance 39 = .ok (.aload_n 0, 1) := by decide +kernel
theorem dX4_advance_40 : decode cX4_advance 40 = .ok (.dup, 1) := by decide +kernel
theorem dX4_advance_41 : decode cX4_advance 41 = .ok (.getfield 27, 3) := by decide +kernel
theorem dX4_advance_44 : decode cX4_advance 44 = .ok (.iconst 1, 1) := by decide +kernel
theorem dX4_advance_45 : decode cX4_advance 45 = .ok (.iadd, 1) := by decide +kernel
theorem dX4_advance_46 : decode cX4_advance 46 = .ok (.putfield 27, 3) := by decide +kernel
theorem dX4_advance_49 : decode cX4_advance 49 = .ok (.goto (-49), 3) := by decide +kernel
theorem dX4_advance_52 : decode cX4_advance 52 = .ok (.aload_n 0, 1) := by decide +kernel
theorem dX4_advance_53 : decode cX4_advance 53 = .ok (.aload_n 0, 1) := by decide +kernel
theorem dX4_advance_54 : decode cX4_advance 54 = .ok (.getfield 27, 3) := by decide +kernel
theorem dX4_advance_57 : decode cX4_advance 57 = .ok (.putfield 24, 3) := by decide +kernel
theorem dX4_advance_60 : decode cX4_advance 60 = .ok (.aload_n 0, 1) := by decide +kernel
theorem dX4_advance_61 : decode cX4_advance 61 = .ok (.getfield 24, 3) := by decide +kernel
theorem dX4_advance_64 : decode cX4_advance 64 = .ok (.aload_n 0, 1) := by decide +kernel
theorem dX4_advance_65 : decode cX4_advance 65 = .ok (.getfield 15, 3) := by decide +kernel
theorem dX4_advance_68 : decode cX4_advance 68 = .ok (.if_icmp .lt 11, 3) := by decide +kernel
theorem dX4_advance_71 : decode cX4_advance 71 = .ok (.aload_n 0, 1) := by decide +kernel
theorem dX4_advance_72 : decode cX4_advance 72 = .ok (.iconst 0, 1) := by decide +kernel
theorem dX4_advance_73 : decode cX4_advance 73 = .ok (.putfield 21, 3) := by decide +kernel
theorem dX4_advance_76 : decode cX4_advance 76 = .ok (.goto 92, 3) := by decide +kernel
theorem dX4_advance_79 : decode cX4_advance 79 = .ok (.aload_n 0, 1) := by decide +kernel
theorem dX4_advance_80 : decode cX4_advance 80 = .ok (.getfield 9, 3) := by decide +kernel
theorem dX4_advance_83 : decode cX4_advance 83 = .ok (.aload_n 0, 1) := by decide +kernel
theorem dX4_advance_84 : decode cX4_advance 84 = .ok (.getfield 24, 3) := by decide +kernel
theorem dX4_advance_87 : decode cX4_advance 87 = .ok (.iaload, 1) := by decide +kernel
theorem dX4_advance_88 : decode cX4_advance 88 = .ok (.invokestatic 89, 3) := by decide +kernel
theorem dX4_advance_91 : decode cX4_advance 91 = .ok (.ifCond .eq 10, 3) := by decide +kernel
theorem dX4_advance_94 : decode cX4_advance 94 = .ok (.aload_n 0, 1) := by decide +kernel
theorem dX4_advance_95 : decode cX4_advance 95 = .ok (.invokevirtual 92, 3) := by decide +kernel
theorem dX4_advance_98 : decode cX4_advance 98 = .ok (.goto 70, 3) := by decide +kernel
theorem dX4_advance_101 : decode cX4_advance 101 = .ok (.aload_n 0, 1) := by decide +kernel
theorem dX4_advance_102 : decode cX4_advance 102 = .ok (.getfield 9, 3) := by decide +kernel
theorem dX4_advance_105 : decode cX4_advance 105 = .ok (.aload_n 0, 1) := by decide +kernel
theorem dX4_advance_106 : decode cX4_advance 106 = .ok (.getfield 24, 3) := by decide +kernel
theorem dX4_advance_109 : decode cX4_advance 109 = .ok (.iaload, 1) := by decide +kernel
theorem dX4_advance_110 : decode cX4_advance 110 = .ok (.invokestatic 95, 3) := by decide +kernel
theorem dX4_advance_113 : decode cX4_advance 113 = .ok (.ifCond .eq 10, 3) := by decide +kernel
theorem dX4_advance_116 : decode cX4_advance 116 = .ok (.aload_n 0, 1) := by decide +kernel
theorem dX4_advance_117 : decode cX4_advance 117 = .ok (.invokevirtual 98, 3) := by decide +kernel
theorem dX4_advance_120 : decode cX4_advance 120 = .ok (.goto 48, 3) := by decide +kernel
theorem dX4_advance_123 : decode cX4_advance 123 = .ok (.aload_n 0, 1) := by decide +kernel
theorem dX4_advance_124 : decode cX4_advance 124 = .ok (.getfield 9, 3) := by decide +kernel
theorem dX4_advance_127 : decode cX4_advance 127 = .ok (.aload_n 0, 1) := by decide +kernel
theorem dX4_advance_128 : decode cX4_advance 128 = .ok (.getfield 24, 3) := by decide +kernel
theorem dX4_advance_131 : decode cX4_advance 131 = .ok (.iaload, 1) := by decide +kernel
theorem dX4_advance_132 : decode cX4_advance 132 = .ok (.invokestatic 101, 3) := by decide +kernel
theorem dX4_advance_135 : decode cX4_advance 135 = .ok (.ifCond .eq 29, 3) := by decide +kernel
theorem dX4_advance_138 : decode cX4_advance 138 = .ok (.aload_n 0, 1) := by decide +kernel
theorem dX4_advance_139 : decode cX4_advance 139 = .ok (.aload_n 0, 1) := by decide +kernel
theorem dX4_advance_140 : decode cX4_advance 140 = .ok (.getfield 9, 3) := by decide +kernel
theorem dX4_advance_143 : decode cX4_advance 143 = .ok (.aload_n 0, 1) := by decide +kernel
theorem dX4_advance_144 : decode cX4_advance 144 = .ok (.getfield 24, 3) := by decide +kernel
theorem dX4_advance_147 : decode cX4_advance 147 = .ok (.iaload, 1) := by decide +kernel
theorem dX4_advance_148 : decode cX4_advance 148 = .ok (.putfield 21, 3) := by decide +kernel
theorem dX4_advance_151 : decode cX4_advance 151 = .ok (.aload_n 0, 1) := by decide +kernel
theorem dX4_advance_152 : decode cX4_advance 152 = .ok (.dup, 1) := by decide +kernel
theorem dX4_advance_153 : decode cX4_advance 153 = .ok (.getfield 27, 3) := by decide +kernel
theorem dX4_advance_156 : decode cX4_advance 156 = .ok (.iconst 1, 1) := by decide +kernel
theorem dX4_advance_157 : decode cX4_advance 157 = .ok (.iadd, 1) := by decide +kernel
theorem dX4_advance_158 : decode cX4_advance 158 = .ok (.putfield 27, 3) := by decide +kernel
theorem dX4_advance_161 : decode cX4_advance 161 = .ok (.goto 7, 3) := by decide +kernel
theorem dX4_advance_164 : decode cX4_advance 164 = .ok (.aload_n 0, 1) := by decide +kernel
theorem dX4_advance_165 : decode cX4_advance 165 = .ok (.invokevirtual 57, 3) := by decide +kernel
theorem dX4_advance_168 : decode cX4_advance 168 = .ok (.return_, 1) := by decide +kernel
theorem dX4_readWord_0 : decode cX4_readWord 0 = .ok (.aload_n 0, 1) := by decide +kernel
theorem dX4_readWord_1 : decode cX4_readWord 1 = .ok (.getfield 27, 3) := by decide +kernel
theorem dX4_readWord_4 : decode cX4_readWord 4 = .ok (.aload_n 0, 1) := by decide +kernel
theorem dX4_readWord_5 : decode cX4_readWord 5 = .ok (.getfield 15, 3) := by decide +kernel
theorem dX4_readWord_8 : decode cX4_readWord 8 = .ok (.if_icmp .ge 31, 3) := by decide +kernel
theorem dX4_readWord_11 : decode cX4_readWord 11 = .ok (.aload_n 0, 1) := by decide +kernel
theorem dX4_readWord_12 : decode cX4_readWord 12 = .ok (.getfield 9, 3) := by decide +kernel
theorem dX4_readWord_15 : decode cX4_readWord 15 = .ok (.aload_n 0, 1) := by decide +kernel
theorem dX4_readWord_16 : decode cX4_readWord 16 = .ok (.getfield 27, 3) := by decide +kernel
theorem dX4_readWord_19 : decode cX4_readWord 19 = .ok (.iaload, 1) := by decide +kernel
theorem dX4_readWord_20 : decode cX4_readWord 20 = .ok (.invokestatic 89, 3) := by decide +kernel
theorem dX4_readWord_23 : decode cX4_readWord 23 = .ok (.ifCond .eq 16, 3) := by decide +kernel
theorem dX4_readWord_26 : decode cX4_readWord 26 = .ok (.aload_n 0, 1) := by decide +kernel
theorem dX4_readWord_27 : decode cX4_readWord 27 = .ok (.dup, 1) := by decide +kernel
theorem dX4_readWord_28 : decode cX4_readWord 28 = .ok (.getfield 27, 3) := by decide +kernel
theorem dX4_readWord_31 : decode cX4_readWord 31 = .ok (.iconst 1, 1) := by decide +kernel
theorem dX4_readWord_32 : decode cX4_readWord 32 = .ok (.iadd, 1) := by decide +kernel
theorem dX4_readWord_33 : decode cX4_readWord 33 = .ok (.putfield 27, 3) := by decide +kernel
theorem dX4_readWord_36 : decode cX4_readWord 36 = .ok (.goto (-36), 3) := by decide +kernel
theorem dX4_readWord_39 : decode cX4_readWord 39 = .ok (.sipush 200, 3) := by decide +kernel
theorem dX4_readWord_42 : decode cX4_readWord 42 = .ok (.istore_n 1, 1) := by decide +kernel
theorem dX4_readWord_43 : decode cX4_readWord 43 = .ok (.iload_n 1, 1) := by decide +kernel
theorem dX4_readWord_44 : decode cX4_readWord 44 = .ok (.sipush 212, 3) := by decide +kernel
theorem dX4_readWord_47 : decode cX4_readWord 47 = .ok (.if_icmp .ge 26, 3) := by decide +kernel
theorem dX4_readWord_50 : decode cX4_readWord 50 = .ok (.aload_n 0, 1) := by decide +kernel
theorem dX4_readWord_51 : decode cX4_readWord 51 = .ok (.iload_n 1, 1) := by decide +kernel
theorem dX4_readWord_52 : decode cX4_readWord 52 = .ok (.invokestatic 104, 3) := by decide +kernel
theorem dX4_readWord_55 : decode cX4_readWord 55 = .ok (.invokevirtual 108, 3) := by decide +kernel
theorem dX4_readWord_58 : decode cX4_readWord 58 = .ok (.ifCond .eq 9, 3) := by decide +kernel
theorem dX4_readWord_61 : decode cX4_readWord 61 = .ok (.aload_n 0, 1) := by decide +kernel
theorem dX4_readWord_62 : decode cX4_readWord 62 = .ok (.iload_n 1, 1) := by decide +kernel
theorem dX4_readWord_63 : decode cX4_readWord 63 = .ok (.putfield 21, 3) := by decide +kernel
theorem dX4_readWord_66 : decode cX4_readWord 66 = .ok (.return_, 1) := by decide +kernel
theorem dX4_readWord_67 : decode cX4_readWord 67 = .ok (.iinc 1 1, 3) := by decide +kernel
theorem dX4_readWord_70 : decode cX4_readWord 70 = .ok (.goto (-27), 3) := by decide +kernel
theorem dX4_readWord_73 : decode cX4_readWord 73 = .ok (.aload_n 0, 1) := by decide +kernel
theorem dX4_readWord_74 : decode cX4_readWord 74 = .ok (.invokevirtual 57, 3) := by decide +kernel
theorem dX4_readWord_77 : decode cX4_readWord 77 = .ok (.return_, 1) := by decide +kernel
theorem dX4_isSpelled_0 : decode cX4_isSpelled 0 = .ok (.aload_n 1, 1) := by decide +kernel
theorem dX4_isSpelled_1 : decode cX4_isSpelled 1 = .ok (.invokevirtual 112, 3) := by decide +kernel
theorem dX4_isSpelled_4 : decode cX4_isSpelled 4 = .ok (.aload_n 0, 1) := by decide +kernel
theorem dX4_isSpelled_5 : decode cX4_isSpelled 5 = .ok (.getfield 27, 3) := by decide +kernel
theorem dX4_isSpelled_8 : decode cX4_isSpelled 8 = .ok (.aload_n 0, 1) := by decide +kernel
theorem dX4_isSpelled_9 : decode cX4_isSpelled 9 = .ok (.getfield 24, 3) := by decide +kernel
theorem dX4_isSpelled_12 : decode cX4_isSpelled 12 = .ok (.isub, 1) := by decide +kernel
theorem dX4_isSpelled_13 : decode cX4_isSpelled 13 = .ok (.if_icmp .eq 5, 3) := by decide +kernel
theorem dX4_isSpelled_16 : decode cX4_isSpelled 16 = .ok (.iconst 0, 1) := by decide +kernel
theorem dX4_isSpelled_17 : decode cX4_isSpelled 17 = .ok (.ireturn, 1) := by decide +kernel
theorem dX4_isSpelled_18 : decode cX4_isSpelled 18 = .ok (.iconst 0, 1) := by decide +kernel
theorem dX4_isSpelled_19 : decode cX4_isSpelled 19 = .ok (.istore_n 2, 1) := by decide +kernel
theorem dX4_isSpelled_20 : decode cX4_isSpelled 20 = .ok (.iload_n 2, 1) := by decide +kernel
theorem dX4_isSpelled_21 : decode cX4_isSpelled 21 = .ok (.aload_n 1, 1) := by decide +kernel
theorem dX4_isSpelled_22 : decode cX4_isSpelled 22 = .ok (.invokevirtual 112, 3) := by decide +kernel
theorem dX4_isSpelled_25 : decode cX4_isSpelled 25 = .ok (.if_icmp .ge 30, 3) := by decide +kernel
theorem dX4_isSpelled_28 : decode cX4_isSpelled 28 = .ok (.aload_n 1, 1) := by decide +kernel
theorem dX4_isSpelled_29 : decode cX4_isSpelled 29 = .ok (.iload_n 2, 1) := by decide +kernel
theorem dX4_isSpelled_30 : decode cX4_isSpelled 30 = .ok (.invokevirtual 118, 3) := by decide +kernel
theorem dX4_isSpelled_33 : decode cX4_isSpelled 33 = .ok (.aload_n 0, 1) := by decide +kernel
theorem dX4_isSpelled_34 : decode cX4_isSpelled 34 = .ok (.getfield 9, 3) := by decide +kernel
theorem dX4_isSpelled_37 : decode cX4_isSpelled 37 = .ok (.aload_n 0, 1) := by decide +kernel
theorem dX4_isSpelled_38 : decode cX4_isSpelled 38 = .ok (.getfield 24, 3) := by decide +kernel
theorem dX4_isSpelled_41 : decode cX4_isSpelled 41 = .ok (.iload_n 2, 1) := by decide +kernel
theorem dX4_isSpelled_42 : decode cX4_isSpelled 42 = .ok (.iadd, 1) := by decide +kernel
theorem dX4_isSpelled_43 : decode cX4_isSpelled 43 = .ok (.iaload, 1) := by decide +kernel
theorem dX4_isSpelled_44 : decode cX4_isSpelled 44 = .ok (.if_icmp .eq 5, 3) := by decide +kernel
theorem dX4_isSpelled_47 : decode cX4_isSpelled 47 = .ok (.iconst 0, 1) := by decide +kernel
theorem dX4_isSpelled_48 : decode cX4_isSpelled 48 = .ok (.ireturn, 1) := by decide +kernel
theorem dX4_isSpelled_49 : decode cX4_isSpelled 49 = .ok (.iinc 2 1, 3) := by decide +kernel
theorem dX4_isSpelled_52 : decode cX4_isSpelled 52 = .ok (.goto (-32), 3) := by decide +kernel
theorem dX4_isSpelled_55 : decode cX4_isSpelled 55 = .ok (.iconst 1, 1) := by decide +kernel
theorem dX4_isSpelled_56 : decode cX4_isSpelled 56 = .ok (.ireturn, 1) := by decide +kernel
theorem dX4_readNumber_0 : decode cX4_readNumber 0 = .ok (.aload_n 0, 1) := by decide +kernel
theorem dX4_readNumber_1 : decode cX4_readNumber 1 = .ok (.iconst 0, 1) := by decide +kernel
theorem dX4_readNumber_2 : decode cX4_readNumber 2 = .ok (.putfield 30, 3) := by decide +kernel
theorem dX4_readNumber_5 : decode cX4_readNumber 5 = .ok (.aload_n 0, 1) := by decide +kernel
theorem dX4_readNumber_6 : decode cX4_readNumber 6 = .ok (.getfield 27, 3) := by decide +kernel
theorem dX4_readNumber_9 : decode cX4_readNumber 9 = .ok (.aload_n 0, 1) := by decide +kernel
theorem dX4_readNumber_10 : decode cX4_readNumber 10 = .ok (.getfield 15, 3) := by decide +kernel
theorem dX4_readNumber_13 : decode cX4_readNumber 13 = .ok (.if_icmp .ge 55, 3) := by decide +kernel
theorem dX4_readNumber_16 : decode cX4_readNumber 16 = .ok (.aload_n 0, 1) := by decide +kernel
theorem dX4_readNumber_17 : decode cX4_readNumber 17 = .ok (.getfield 9, 3) := by decide +kernel
theorem dX4_readNumber_20 : decode cX4_readNumber 20 = .ok (.aload_n 0, 1) := by decide +kernel
theorem dX4_readNumber_21 : decode cX4_readNumber 21 = .ok (.getfield 27, 3) := by decide +kernel
theorem dX4_readNumber_24 : decode cX4_readNumber 24 = .ok (.iaload, 1) := by decide +kernel
theorem dX4_readNumber_25 : decode cX4_readNumber 25 = .ok (.invokestatic 95, 3) := by decide +kernel
theorem dX4_readNumber_28 : decode cX4_readNumber 28 = .ok (.ifCond .eq 40, 3) := by decide +kernel
theorem dX4_readNumber_31 : decode cX4_readNumber 31 = .ok (.aload_n 0, 1) := by decide +kernel
theorem dX4_readNumber_32 : decode cX4_readNumber 32 = .ok (.aload_n 0, 1) := by decide +kernel
theorem dX4_readNumber_33 : decode cX4_readNumber 33 = .ok (.getfield 30, 3) := by decide +kernel
theorem dX4_readNumber_36 : decode cX4_readNumber 36 = .ok (.bipush 10, 2) := by decide +kernel
theorem dX4_readNumber_38 : decode cX4_readNumber 38 = .ok (.imul, 1) := by decide +kernel
theorem dX4_readNumber_39 : decode cX4_readNumber 39 = .ok (.aload_n 0, 1) := by decide +kernel
theorem dX4_readNumber_40 : decode cX4_readNumber 40 = .ok (.getfield 9, 3) := by decide +kernel
theorem dX4_readNumber_43 : decode cX4_readNumber 43 = .ok (.aload_n 0, 1) := by decide +kernel
theorem dX4_readNumber_44 : decode cX4_readNumber 44 = .ok (.getfield 27, 3) := by decide +kernel
theorem dX4_readNumber_47 : decode cX4_readNumber 47 = .ok (.iaload, 1) := by decide +kernel
theorem dX4_readNumber_48 : decode cX4_readNumber 48 = .ok (.iadd, 1) := by decide +kernel
theorem dX4_readNumber_49 : decode cX4_readNumber 49 = .ok (.bipush 48, 2) := by decide +kernel
theorem dX4_readNumber_51 : decode cX4_readNumber 51 = .ok (.isub, 1) := by decide +kernel
theorem dX4_readNumber_52 : decode cX4_readNumber 52 = .ok (.putfield 30, 3) := by decide +kernel
theorem dX4_readNumber_55 : decode cX4_readNumber 55 = .ok (.aload_n 0, 1) := by decide +kernel
theorem dX4_readNumber_56 : decode cX4_readNumber 56 = .ok (.dup, 1) := by decide +kernel
theorem dX4_readNumber_57 : decode cX4_readNumber 57 = .ok (.getfield 27, 3) := by decide +kernel
theorem dX4_readNumber_60 : decode cX4_readNumber 60 = .ok (.iconst 1, 1) := by decide +kernel
theorem dX4_readNumber_61 : decode cX4_readNumber 61 = .ok (.iadd, 1) := by decide +kernel
theorem dX4_readNumber_62 : decode cX4_readNumber 62 = .ok (.putfield 27, 3) := by decide +kernel
theorem dX4_readNumber_65 : decode cX4_readNumber 65 = .ok (.goto (-60), 3) := by decide +kernel
theorem dX4_readNumber_68 : decode cX4_readNumber 68 = .ok (.aload_n 0, 1) := by decide +kernel
theorem dX4_readNumber_69 : decode cX4_readNumber 69 = .ok (.getfield 27, 3) := by decide +kernel
theorem dX4_readNumber_72 : decode cX4_readNumber 72 = .ok (.aload_n 0, 1) := by decide +kernel
theorem dX4_readNumber_73 : decode cX4_readNumber 73 = .ok (.getfield 24, 3) := by decide +kernel
theorem dX4_readNumber_76 : decode cX4_readNumber 76 = .ok (.isub, 1) := by decide +kernel
theorem dX4_readNumber_77 : decode cX4_readNumber 77 = .ok (.iconst 4, 1) := by decide +kernel
theorem dX4_readNumber_78 : decode cX4_readNumber 78 = .ok (.if_icmp .le 10, 3) := by decide +kernel
theorem dX4_readNumber_81 : decode cX4_readNumber 81 = .ok (.aload_n 0, 1) := by decide +kernel
theorem dX4_readNumber_82 : decode cX4_readNumber 82 = .ok (.invokevirtual 57, 3) := by decide +kernel
theorem dX4_readNumber_85 : decode cX4_readNumber 85 = .ok (.goto 8, 3) := by decide +kernel
theorem dX4_readNumber_88 : decode cX4_readNumber 88 = .ok (.aload_n 0, 1) := by decide +kernel
theorem dX4_readNumber_89 : decode cX4_readNumber 89 = .ok (.iconst 1, 1) := by decide +kernel
theorem dX4_readNumber_90 : decode cX4_readNumber 90 = .ok (.putfield 21, 3) := by decide +kernel
theorem dX4_readNumber_93 : decode cX4_readNumber 93 = .ok (.return_, 1) := by decide +kernel
theorem dX4_isLetter_0 : decode cX4_isLetter 0 = .ok (.iload_n 0, 1) := by decide +kernel
theorem dX4_isLetter_1 : decode cX4_isLetter 1 = .ok (.bipush 97, 2) := by decide +kernel
theorem dX4_isLetter_3 : decode cX4_isLetter 3 = .ok (.if_icmp .lt 13, 3) := by decide +kernel
theorem dX4_isLetter_6 : decode cX4_isLetter 6 = .ok (.iload_n 0, 1) := by decide +kernel
theorem dX4_isLetter_7 : decode cX4_isLetter 7 = .ok (.bipush 122, 2) := by decide +kernel
theorem dX4_isLetter_9 : decode cX4_isLetter 9 = .ok (.if_icmp .gt 7, 3) := by decide +kernel
theorem dX4_isLetter_12 : decode cX4_isLetter 12 = .ok (.iconst 1, 1) := by decide +kernel
theorem dX4_isLetter_13 : decode cX4_isLetter 13 = .ok (.goto 4, 3) := by decide +kernel
theorem dX4_isLetter_16 : decode cX4_isLetter 16 = .ok (.iconst 0, 1) := by decide +kernel
theorem dX4_isLetter_17 : decode cX4_isLetter 17 = .ok (.ireturn, 1) := by decide +kernel
theorem dX4_isDigit_0 : decode cX4_isDigit 0 = .ok (.iload_n 0, 1) := by decide +kernel
theorem dX4_isDigit_1 : decode cX4_isDigit 1 = .ok (.bipush 48, 2) := by decide +kernel
theorem dX4_isDigit_3 : decode cX4_isDigit 3 = .ok (.if_icmp .lt 13, 3) := by decide +kernel
theorem dX4_isDigit_6 : decode cX4_isDigit 6 = .ok (.iload_n 0, 1) := by decide +kernel
theorem dX4_isDigit_7 : decode cX4_isDigit 7 = .ok (.bipush 57, 2) := by decide +kernel
theorem dX4_isDigit_9 : decode cX4_isDigit 9 = .ok (.if_icmp .gt 7, 3) := by decide +kernel
theorem dX4_isDigit_12 : decode cX4_isDigit 12 = .ok (.iconst 1, 1) := by decide +kernel
theorem dX4_isDigit_13 : decode cX4_isDigit 13 = .ok (.goto 4, 3) := by decide +kernel
theorem dX4_isDigit_16 : decode cX4_isDigit 16 = .ok (.iconst 0, 1) := by decide +kernel
theorem dX4_isDigit_17 : decode cX4_isDigit 17 = .ok (.ireturn, 1) := by decide +kernel
theorem dX5_init_0 : decode cX5_init 0 = .ok (.aload_n 0, 1) := by decide +kernel
theorem dX5_init_1 : decode cX5_init 1 = .ok (.invokespecial 3, 3) := by decide +kernel
theorem dX5_init_4 : decode cX5_init 4 = .ok (.aload_n 0, 1) := by decide +kernel
theorem dX5_init_5 : decode cX5_init 5 = .ok (.sipush 256, 3) := by decide +kernel
theorem dX5_init_8 : decode cX5_init 8 = .ok (.newarray .int, 2) := by decide +kernel
theorem dX5_init_10 : decode cX5_init 10 = .ok (.putfield 9, 3) := by decide +kernel
theorem dX5_init_13 : decode cX5_init 13 = .ok (.aload_n 0, 1) := by decide +kernel
theorem dX5_init_14 : decode cX5_init 14 = .ok (.sipush 256, 3) := by decide +kernel
theorem dX5_init_17 : decode cX5_init 17 = .ok (.newarray .int, 2) := by decide +kernel
theorem dX5_init_19 : decode cX5_init 19 = .ok (.putfield 15, 3) := by decide +kernel
theorem dX5_init_22 : decode cX5_init 22 = .ok (.aload_n 0, 1) := by decide +kernel
theorem dX5_init_23 : decode cX5_init 23 = .ok (.sipush 256, 3) := by decide +kernel
theorem dX5_init_26 : decode cX5_init 26 = .ok (.newarray .int, 2) := by decide +kernel
theorem dX5_init_28 : decode cX5_init 28 = .ok (.putfield 18, 3) := by decide +kernel
theorem dX5_init_31 : decode cX5_init 31 = .ok (.aload_n 0, 1) := by decide +kernel
theorem dX5_init_32 : decode cX5_init 32 = .ok (.bipush 8, 2) := by decide +kernel
theorem dX5_init_34 : decode cX5_init 34 = .ok (.newarray .int, 2) := by decide +kernel
theorem dX5_init_36 : decode cX5_init 36 = .ok (.putfield 21, 3) := by decide +kernel
theorem dX5_init_39 : decode cX5_init 39 = .ok (.return_, 1) := by decide +kernel
theorem dX5_clear_0 : decode cX5_clear 0 = .ok (.iconst 0, 1) := by decide +kernel
theorem dX5_clear_1 : decode cX5_clear 1 = .ok (.istore_n 1, 1) := by decide +kernel
theorem dX5_clear_2 : decode cX5_clear 2 = .ok (.iload_n 1, 1) := by decide +kernel
theorem dX5_clear_3 : decode cX5_clear 3 = .ok (.sipush 256, 3) := by decide +kernel
theorem dX5_clear_6 : decode cX5_clear 6 = .ok (.if_icmp .ge 16, 3) := by decide +kernel
theorem dX5_clear_9 : decode cX5_clear 9 = .ok (.aload_n 0, 1) := by decide +kernel
theorem dX5_clear_10 : decode cX5_clear 10 = .ok (.getfield 15, 3) := by decide +kernel
theorem dX5_clear_13 : decode cX5_clear 13 = .ok (.iload_n 1, 1) := by decide +kernel
theorem dX5_clear_14 : decode cX5_clear 14 = .ok (.iconst 0, 1) := by decide +kernel
theorem dX5_clear_15 : decode cX5_clear 15 = .ok (.iastore, 1) := by decide +kernel
theorem dX5_clear_16 : decode cX5_clear 16 = .ok (.iinc 1 1, 3) := by decide +kernel
theorem dX5_clear_19 : decode cX5_clear 19 = .ok (.goto (-17), 3) := by decide +kernel
theorem dX5_clear_22 : decode cX5_clear 22 = .ok (.return_, 1) := by decide +kernel
theorem dX5_sumSteps_0 : decode cX5_sumSteps 0 = .ok (.aload_n 2, 1) := by decide +kernel
theorem dX5_sumSteps_1 : decode cX5_sumSteps 1 = .ok (.iconst 0, 1) := by decide +kernel
theorem dX5_sumSteps_2 : decode cX5_sumSteps 2 = .ok (.iload_n 1, 1) := by decide +kernel
theorem dX5_sumSteps_3 : decode cX5_sumSteps 3 = .ok (.iastore, 1) := by decide +kernel
theorem dX5_sumSteps_4 : decode cX5_sumSteps 4 = .ok (.iconst 0, 1) := by decide +kernel
theorem dX5_sumSteps_5 : decode cX5_sumSteps 5 = .ok (.istore_n 3, 1) := by decide +kernel
theorem dX5_sumSteps_6 : decode cX5_sumSteps 6 = .ok (.iload_n 3, 1) := by decide +kernel
theorem dX5_sumSteps_7 : decode cX5_sumSteps 7 = .ok (.bipush 8, 2) := by decide +kernel
theorem dX5_sumSteps_9 : decode cX5_sumSteps 9 = .ok (.if_icmp .ge 48, 3) := by decide +kernel
theorem dX5_sumSteps_12 : decode cX5_sumSteps 12 = .ok (.iconst 1, 1) := by decide +kernel
theorem dX5_sumSteps_13 : decode cX5_sumSteps 13 = .ok (.iload_n 3, 1) := by decide +kernel
theorem dX5_sumSteps_14 : decode cX5_sumSteps 14 = .ok (.ishl, 1) := by decide +kernel
theorem dX5_sumSteps_15 : decode cX5_sumSteps 15 = .ok (.istore 4, 2) := by decide +kernel
theorem dX5_sumSteps_17 : decode cX5_sumSteps 17 = .ok (.iconst 0, 1) := by decide +kernel
theorem dX5_sumSteps_18 : decode cX5_sumSteps 18 = .ok (.istore 5, 2) := by decide +kernel
theorem dX5_sumSteps_20 : decode cX5_sumSteps 20 = .ok (.iload 5, 2) := by decide +kernel
theorem dX5_sumSteps_22 : decode cX5_sumSteps 22 = .ok (.iload 4, 2) := by decide +kernel
theorem dX5_sumSteps_24 : decode cX5_sumSteps 24 = .ok (.if_icmp .ge 27, 3) := by decide +kernel
theorem dX5_sumSteps_27 : decode cX5_sumSteps 27 = .ok (.aload_n 2, 1) := by decide +kernel
theorem dX5_sumSteps_28 : decode cX5_sumSteps 28 = .ok (.iload 4, 2) := by decide +kernel
theorem dX5_sumSteps_30 : decode cX5_sumSteps 30 = .ok (.iload 5, 2) := by decide +kernel
theorem dX5_sumSteps_32 : decode cX5_sumSteps 32 = .ok (.iadd, 1) := by decide +kernel
theorem dX5_sumSteps_33 : decode cX5_sumSteps 33 = .ok (.aload_n 2, 1) := by decide +kernel
theorem dX5_sumSteps_34 : decode cX5_sumSteps 34 = .ok (.iload 5, 2) := by decide +kernel
theorem dX5_sumSteps_36 : decode cX5_sumSteps 36 = .ok (.iaload, 1) := by decide +kernel
theorem dX5_sumSteps_37 : decode cX5_sumSteps 37 = .ok (.aload_n 0, 1) := by decide +kernel
theorem dX5_sumSteps_38 : decode cX5_sumSteps 38 = .ok (.getfield 21, 3) := by decide +kernel
theorem dX5_sumSteps_41 : decode cX5_sumSteps 41 = .ok (.iload_n 3, 1) := by decide +kernel
theorem dX5_sumSteps_42 : decode cX5_sumSteps 42 = .ok (.iaload, 1) := by decide +kernel
theorem dX5_sumSteps_43 : decode cX5_sumSteps 43 = .ok (.iadd, 1) := by decide +kernel
theorem dX5_sumSteps_44 : decode cX5_sumSteps 44 = .ok (.iastore, 1) := by decide +kernel
theorem dX5_sumSteps_45 : decode cX5_sumSteps 45 = .ok (.iinc 5 1, 3) := by decide +kernel
theorem dX5_sumSteps_48 : decode cX5_sumSteps 48 = .ok (.goto (-28), 3) := by decide +kernel
theorem dX5_sumSteps_51 : decode cX5_sumSteps 51 = .ok (.iinc 3 1, 3) := by decide +kernel
theorem dX5_sumSteps_54 : decode cX5_sumSteps 54 = .ok (.goto (-48), 3) := by decide +kernel
theorem dX5_sumSteps_57 : decode cX5_sumSteps 57 = .ok (.return_, 1) := by decide +kernel
theorem dX5_countHazy_0 : decode cX5_countHazy 0 = .ok (.iconst 0, 1) := by decide +kernel
theorem dX5_countHazy_1 : decode cX5_countHazy 1 = .ok (.istore_n 2, 1) := by decide +kernel
theorem dX5_countHazy_2 : decode cX5_countHazy 2 = .ok (.iload_n 2, 1) := by decide +kernel
theorem dX5_countHazy_3 : decode cX5_countHazy 3 = .ok (.sipush 256, 3) := by decide +kernel
theorem dX5_countHazy_6 : decode cX5_countHazy 6 = .ok (.if_icmp .ge 29, 3) := by decide +kernel
theorem dX5_countHazy_9 : decode cX5_countHazy 9 = .ok (.aload_n 0, 1) := by decide +kernel
theorem dX5_countHazy_10 : decode cX5_countHazy 10 = .ok (.getfield 18, 3) := by decide +kernel
theorem dX5_countHazy_13 : decode cX5_countHazy 13 = .ok (.iload_n 2, 1) := by decide +kernel
theorem dX5_countHazy_14 : decode cX5_countHazy 14 = .ok (.iaload, 1) := by decide +kernel
theorem dX5_countHazy_15 : decode cX5_countHazy 15 = .ok (.iload_n 1, 1) := by decide +kernel
theorem dX5_countHazy_16 : decode cX5_countHazy 16 = .ok (.if_icmp .lt 13, 3) := by decide +kernel
theorem dX5_countHazy_19 : decode cX5_countHazy 19 = .ok (.aload_n 0, 1) := by decide +kernel
theorem dX5_countHazy_20 : decode cX5_countHazy 20 = .ok (.getfield 15, 3) := by decide +kernel
theorem dX5_countHazy_23 : decode cX5_countHazy 23 = .ok (.iload_n 2, 1) := by decide +kernel
theorem dX5_countHazy_24 : decode cX5_countHazy 24 = .ok (.dup2, 1) := by decide +kernel
theorem dX5_countHazy_25 : decode cX5_countHazy 25 = .ok (.iaload, 1) := by decide +kernel
theorem dX5_countHazy_26 : decode cX5_countHazy 26 = .ok (.iconst 1, 1) := by decide +kernel
theorem dX5_countHazy_27 : decode cX5_countHazy 27 = .ok (.iadd, 1) := by decide +kernel
theorem dX5_countHazy_28 : decode cX5_countHazy 28 = .ok (.iastore, 1) := by decide +kernel
theorem dX5_countHazy_29 : decode cX5_countHazy 29 = .ok (.iinc 2 1, 3) := by decide +kernel
theorem dX5_countHazy_32 : decode cX5_countHazy 32 = .ok (.goto (-30), 3) := by decide +kernel
theorem dX5_countHazy_35 : decode cX5_countHazy 35 = .ok (.return_, 1) := by decide +kernel
theorem dX5_cheapestFor_0 : decode cX5_cheapestFor 0 = .ok (.iconst (-1), 1) := by decide +kernel
theorem dX5_cheapestFor_1 : decode cX5_cheapestFor 1 = .ok (.istore_n 3, 1) := by decide +kernel
theorem dX5_cheapestFor_2 : decode cX5_cheapestFor 2 = .ok (.iconst 0, 1) := by decide +kernel
theorem dX5_cheapestFor_3 : decode cX5_cheapestFor 3 = .ok (.istore 4, 2) := by decide +kernel
theorem dX5_cheapestFor_5 : decode cX5_cheapestFor 5 = .ok (.iload 4, 2) := by decide +kernel
theorem dX5_cheapestFor_7 : decode cX5_cheapestFor 7 = .ok (.sipush 256, 3) := by decide +kernel
theorem dX5_cheapestFor_10 : decode cX5_cheapestFor 10 = .ok (.if_icmp .ge 51, 3) := by decide +kernel
theorem dX5_cheapestFor_13 : decode cX5_cheapestFor 13 = .ok (.iload 4, 2) := by decide +kernel
theorem dX5_cheapestFor_15 : decode cX5_cheapestFor 15 = .ok (.iload_n 2, 1) := by decide +kernel
theorem dX5_cheapestFor_16 : decode cX5_cheapestFor 16 = .ok (.iand, 1) := by decide +kernel
theorem dX5_cheapestFor_17 : decode cX5_cheapestFor 17 = .ok (.ifCond .ne 38, 3) := by decide +kernel
theorem dX5_cheapestFor_20 : decode cX5_cheapestFor 20 = .ok (.aload_n 0, 1) := by decide +kernel
theorem dX5_cheapestFor_21 : decode cX5_cheapestFor 21 = .ok (.getfield 15, 3) := by decide +kernel
theorem dX5_cheapestFor_24 : decode cX5_cheapestFor 24 = .ok (.iload 4, 2) := by decide +kernel
theorem dX5_cheapestFor_26 : decode cX5_cheapestFor 26 = .ok (.iaload, 1) := by decide +kernel
theorem dX5_cheapestFor_27 : decode cX5_cheapestFor 27 = .ok (.iload_n 1, 1) := by decide +kernel
theorem dX5_cheapestFor_28 : decode cX5_cheapestFor 28 = .ok (.if_icmp .lt 27, 3) := by decide +kernel
theorem dX5_cheapestFor_31 : decode cX5_cheapestFor 31 = .ok (.iload_n 3, 1) := by decide +kernel
theorem dX5_cheapestFor_32 : decode cX5_cheapestFor 32 = .ok (.iconst (-1), 1) := by decide +kernel
theorem dX5_cheapestFor_33 : decode cX5_cheapestFor 33 = .ok (.if_icmp .eq 19, 3) := by decide +kernel
theorem dX5_cheapestFor_36 : decode cX5_cheapestFor 36 = .ok (.aload_n 0, 1) := by decide +kernel
theorem dX5_cheapestFor_37 : decode cX5_cheapestFor 37 = .ok (.getfield 9, 3) := by decide +kernel
theorem dX5_cheapestFor_40 : decode cX5_cheapestFor 40 = .ok (.iload 4, 2) := by decide +kernel
theorem dX5_cheapestFor_42 : decode cX5_cheapestFor 42 = .ok (.iaload, 1) := by decide +kernel
theorem dX5_cheapestFor_43 : decode cX5_cheapestFor 43 = .ok (.aload_n 0, 1) := by decide +kernel
theorem dX5_cheapestFor_44 : decode cX5_cheapestFor 44 = .ok (.getfield 9, 3) := by decide +kernel
theorem dX5_cheapestFor_47 : decode cX5_cheapestFor 47 = .ok (.iload_n 3, 1) := by decide +kernel
theorem dX5_cheapestFor_48 : decode cX5_cheapestFor 48 = .ok (.iaload, 1) := by decide +kernel
theorem dX5_cheapestFor_49 : decode cX5_cheapestFor 49 = .ok (.if_icmp .ge 6, 3) := by decide +kernel
theorem dX5_cheapestFor_52 : decode cX5_cheapestFor 52 = .ok (.iload 4, 2) := by decide +kernel
theorem dX5_cheapestFor_54 : decode cX5_cheapestFor 54 = .ok (.istore_n 3, 1) := by decide +kernel
theorem dX5_cheapestFor_55 : decode cX5_cheapestFor 55 = .ok (.iinc 4 1, 3) := by decide +kernel
theorem dX5_cheapestFor_58 : decode cX5_cheapestFor 58 = .ok (.goto (-53), 3) := by decide +kernel
theorem dX5_cheapestFor_61 : decode cX5_cheapestFor 61 = .ok (.iload_n 3, 1) := by decide +kernel
theorem dX5_cheapestFor_62 : decode cX5_cheapestFor 62 = .ok (.ireturn, 1) := by decide +kernel
theorem dX5_mostWithin_0 : decode cX5_mostWithin 0 = .ok (.iconst 0, 1) := by decide +kernel
theorem dX5_mostWithin_1 : decode cX5_mostWithin 1 = .ok (.istore_n 3, 1) := by decide +kernel
theorem dX5_mostWithin_2 : decode cX5_mostWithin 2 = .ok (.iconst 1, 1) := by decide +kernel
theorem dX5_mostWithin_3 : decode cX5_mostWithin 3 = .ok (.istore 4, 2) := by decide +kernel
theorem dX5_mostWithin_5 : decode cX5_mostWithin 5 = .ok (.iload 4, 2) := by decide +kernel
theorem dX5_mostWithin_7 : decode cX5_mostWithin 7 = .ok (.sipush 256, 3) := by decide +kernel
theorem dX5_mostWithin_10 : decode cX5_mostWithin 10 = .ok (.if_icmp .ge 40, 3) := by decide +kernel
theorem dX5_mostWithin_13 : decode cX5_mostWithin 13 = .ok (.iload 4, 2) := by decide +kernel
theorem dX5_mostWithin_15 : decode cX5_mostWithin 15 = .ok (.iload_n 2, 1) := by decide +kernel
theorem dX5_mostWithin_16 : decode cX5_mostWithin 16 = .ok (.iand, 1) := by decide +kernel
theorem dX5_mostWithin_17 : decode cX5_mostWithin 17 = .ok (.ifCond .ne 27, 3) := by decide +kernel
theorem dX5_mostWithin_20 : decode cX5_mostWithin 20 = .ok (.aload_n 0, 1) := by decide +kernel
theorem dX5_mostWithin_21 : decode cX5_mostWithin 21 = .ok (.getfield 9, 3) := by decide +kernel
theorem dX5_mostWithin_24 : decode cX5_mostWithin 24 = .ok (.iload 4, 2) := by decide +kernel
theorem dX5_mostWithin_26 : decode cX5_mostWithin 26 = .ok (.iaload, 1) := by decide +kernel
theorem dX5_mostWithin_27 : decode cX5_mostWithin 27 = .ok (.iload_n 1, 1) := by decide +kernel
theorem dX5_mostWithin_28 : decode cX5_mostWithin 28 = .ok (.if_icmp .gt 16, 3) := by decide +kernel
theorem dX5_mostWithin_31 : decode cX5_mostWithin 31 = .ok (.aload_n 0, 1) := by decide +kernel
theorem dX5_mostWithin_32 : decode cX5_mostWithin 32 = .ok (.iload 4, 2) := by decide +kernel
theorem dX5_mostWithin_34 : decode cX5_mostWithin 34 = .ok (.iload_n 3, 1) := by decide +kernel
theorem dX5_mostWithin_35 : decode cX5_mostWithin 35 = .ok (.invokevirtual 24, 3) := by decide +kernel
theorem dX5_mostWithin_38 : decode cX5_mostWithin 38 = .ok (.ifCond .eq 6, 3) := by decide +kernel
theorem dX5_mostWithin_41 : decode cX5_mostWithin 41 = .ok (.iload 4, 2) := by decide +kernel
theorem dX5_mostWithin_43 : decode cX5_mostWithin 43 = .ok (.istore_n 3, 1) := by decide +kernel
theorem dX5_mostWithin_44 : decode cX5_mostWithin 44 = .ok (.iinc 4 1, 3) := by decide +kernel
theorem dX5_mostWithin_47 : decode cX5_mostWithin 47 = .ok (.goto (-42), 3) := by decide +kernel
theorem dX5_mostWithin_50 : decode cX5_mostWithin 50 = .ok (.iload_n 3, 1) := by decide +kernel
theorem dX5_mostWithin_51 : decode cX5_mostWithin 51 = .ok (.ireturn, 1) := by decide +kernel
theorem dX5_isBetter_0 : decode cX5_isBetter 0 = .ok (.aload_n 0, 1) := by decide +kernel
theorem dX5_isBetter_1 : decode cX5_isBetter 1 = .ok (.getfield 15, 3) := by decide +kernel
theorem dX5_isBetter_4 : decode cX5_isBetter 4 = .ok (.iload_n 1, 1) := by decide +kernel
theorem dX5_isBetter_5 : decode cX5_isBetter 5 = .ok (.iaload, 1) := by decide +kernel
theorem dX5_isBetter_6 : decode cX5_isBetter 6 = .ok (.aload_n 0, 1) := by decide +kernel
theorem dX5_isBetter_7 : decode cX5_isBetter 7 = .ok (.getfield 15, 3) := by decide +kernel
theorem dX5_isBetter_10 : decode cX5_isBetter 10 = .ok (.iload_n 2, 1) := by decide +kernel
theorem dX5_isBetter_11 : decode cX5_isBetter 11 = .ok (.iaload, 1) := by decide +kernel
theorem dX5_isBetter_12 : decode cX5_isBetter 12 = .ok (.if_icmp .gt 33, 3) := by decide +kernel
theorem dX5_isBetter_15 : decode cX5_isBetter 15 = .ok (.aload_n 0, 1) := by decide +kernel
theorem dX5_isBetter_16 : decode cX5_isBetter 16 = .ok (.getfield 15, 3) := by decide +kernel
theorem dX5_isBetter_19 : decode cX5_isBetter 19 = .ok (.iload_n 1, 1) := by decide +kernel
theorem dX5_isBetter_20 : decode cX5_isBetter 20 = .ok (.iaload, 1) := by decide +kernel
theorem dX5_isBetter_21 : decode cX5_isBetter 21 = .ok (.aload_n 0, 1) := by decide +kernel
theorem dX5_isBetter_22 : decode cX5_isBetter 22 = .ok (.getfield 15, 3) := by decide +kernel
theorem dX5_isBetter_25 : decode cX5_isBetter 25 = .ok (.iload_n 2, 1) := by decide +kernel
theorem dX5_isBetter_26 : decode cX5_isBetter 26 = .ok (.iaload, 1) := by decide +kernel
theorem dX5_isBetter_27 : decode cX5_isBetter 27 = .ok (.if_icmp .ne 22, 3) := by decide +kernel
theorem dX5_isBetter_30 : decode cX5_isBetter 30 = .ok (.aload_n 0, 1) := by decide +kernel
theorem dX5_isBetter_31 : decode cX5_isBetter 31 = .ok (.getfield 9, 3) := by decide +kernel
theorem dX5_isBetter_34 : decode cX5_isBetter 34 = .ok (.iload_n 1, 1) := by decide +kernel
theorem dX5_isBetter_35 : decode cX5_isBetter 35 = .ok (.iaload, 1) := by decide +kernel
theorem dX5_isBetter_36 : decode cX5_isBetter 36 = .ok (.aload_n 0, 1) := by decide +kernel
theorem dX5_isBetter_37 : decode cX5_isBetter 37 = .ok (.getfield 9, 3) := by decide +kernel
theorem dX5_isBetter_40 : decode cX5_isBetter 40 = .ok (.iload_n 2, 1) := by decide +kernel
theorem dX5_isBetter_41 : decode cX5_isBetter 41 = .ok (.iaload, 1) := by decide +kernel
theorem dX5_isBetter_42 : decode cX5_isBetter 42 = .ok (.if_icmp .ge 7, 3) := by decide +kernel
theorem dX5_isBetter_45 : decode cX5_isBetter 45 = .ok (.iconst 1, 1) := by decide +kernel
theorem dX5_isBetter_46 : decode cX5_isBetter 46 = .ok (.goto 4, 3) := by decide +kernel
theorem dX5_isBetter_49 : decode cX5_isBetter 49 = .ok (.iconst 0, 1) := by decide +kernel
theorem dX5_isBetter_50 : decode cX5_isBetter 50 = .ok (.ireturn, 1) := by decide +kernel
theorem dX6_init_0 : decode cX6_init 0 = .ok (.aload_n 0, 1) := by decide +kernel
theorem dX6_init_1 : decode cX6_init 1 = .ok (.invokespecial 3, 3) := by decide +kernel
theorem dX6_init_4 : decode cX6_init 4 = .ok (.aload_n 0, 1) := by decide +kernel
theorem dX6_init_5 : decode cX6_init 5 = .ok (.iconst (-1), 1) := by decide +kernel
theorem dX6_init_6 : decode cX6_init 6 = .ok (.putfield 11, 3) := by decide +kernel
theorem dX6_init_9 : decode cX6_init 9 = .ok (.aload_n 0, 1) := by decide +kernel
theorem dX6_init_10 : decode cX6_init 10 = .ok (.iconst 0, 1) := by decide +kernel
theorem dX6_init_11 : decode cX6_init 11 = .ok (.putfield 15, 3) := by decide +kernel
theorem dX6_init_14 : decode cX6_init 14 = .ok (.aload_n 0, 1) := by decide +kernel
theorem dX6_init_15 : decode cX6_init 15 = .ok (.bipush 40, 2) := by decide +kernel
theorem dX6_init_17 : decode cX6_init 17 = .ok (.newarray .int, 2) := by decide +kernel
theorem dX6_init_19 : decode cX6_init 19 = .ok (.putfield 18, 3) := by decide +kernel
theorem dX6_init_22 : decode cX6_init 22 = .ok (.return_, 1) := by decide +kernel
theorem dX6_isMissing_0 : decode cX6_isMissing 0 = .ok (.aload_n 0, 1) := by decide +kernel
theorem dX6_isMissing_1 : decode cX6_isMissing 1 = .ok (.getfield 11, 3) := by decide +kernel
theorem dX6_isMissing_4 : decode cX6_isMissing 4 = .ok (.iconst (-1), 1) := by decide +kernel
theorem dX6_isMissing_5 : decode cX6_isMissing 5 = .ok (.if_icmp .ne 7, 3) := by decide +kernel
theorem dX6_isMissing_8 : decode cX6_isMissing 8 = .ok (.iconst 1, 1) := by decide +kernel
theorem dX6_isMissing_9 : decode cX6_isMissing 9 = .ok (.goto 4, 3) := by decide +kernel
theorem dX6_isMissing_12 : decode cX6_isMissing 12 = .ok (.iconst 0, 1) := by decide +kernel
theorem dX6_isMissing_13 : decode cX6_isMissing 13 = .ok (.ireturn, 1) := by decide +kernel
theorem dX6_has_0 : decode cX6_has 0 = .ok (.iload_n 1, 1) := by decide +kernel
theorem dX6_has_1 : decode cX6_has 1 = .ok (.ifCond .lt 15, 3) := by decide +kernel
theorem dX6_has_4 : decode cX6_has 4 = .ok (.iload_n 1, 1) := by decide +kernel
theorem dX6_has_5 : decode cX6_has 5 = .ok (.aload_n 0, 1) := by decide +kernel
theorem dX6_has_6 : decode cX6_has 6 = .ok (.getfield 15, 3) := by decide +kernel
theorem dX6_has_9 : decode cX6_has 9 = .ok (.if_icmp .ge 7, 3) := by decide +kernel
theorem dX6_has_12 : decode cX6_has 12 = .ok (.iconst 1, 1) := by decide +kernel
theorem dX6_has_13 : decode cX6_has 13 = .ok (.goto 4, 3) := by decide +kernel
theorem dX6_has_16 : decode cX6_has 16 = .ok (.iconst 0, 1) := by decide +kernel
theorem dX6_has_17 : decode cX6_has 17 = .ok (.ireturn, 1) := by decide +kernel
theorem dX6_hasRun_0 : decode cX6_hasRun 0 = .ok (.iload_n 1, 1) := by decide +kernel
theorem dX6_hasRun_1 : decode cX6_hasRun 1 = .ok (.ifCond .lt 29, 3) := by decide +kernel
theorem dX6_hasRun_4 : decode cX6_hasRun 4 = .ok (.iload_n 2, 1) := by decide +kernel
theorem dX6_hasRun_5 : decode cX6_hasRun 5 = .ok (.ifCond .lt 25, 3) := by decide +kernel
theorem dX6_hasRun_8 : decode cX6_hasRun 8 = .ok (.iload_n 2, 1) := by decide +kernel
theorem dX6_hasRun_9 : decode cX6_hasRun 9 = .ok (.aload_n 0, 1) := by decide +kernel
theorem dX6_hasRun_10 : decode cX6_hasRun 10 = .ok (.getfield 15, 3) := by decide +kernel
theorem dX6_hasRun_13 : decode cX6_hasRun 13 = .ok (.if_icmp .gt 17, 3) := by decide +kernel
theorem dX6_hasRun_16 : decode cX6_hasRun 16 = .ok (.iload_n 1, 1) := by decide +kernel
theorem dX6_hasRun_17 : decode cX6_hasRun 17 = .ok (.aload_n 0, 1) := by decide +kernel
theorem dX6_hasRun_18 : decode cX6_hasRun 18 = .ok (.getfield 15, 3) := by decide +kernel
theorem dX6_hasRun_21 : decode cX6_hasRun 21 = .ok (.iload_n 2, 1) := by decide +kernel
theorem dX6_hasRun_22 : decode cX6_hasRun 22 = .ok (.isub, 1) := by decide +kernel
theorem dX6_hasRun_23 : decode cX6_hasRun 23 = .ok (.if_icmp .gt 7, 3) := by decide +kernel
theorem dX6_hasRun_26 : decode cX6_hasRun 26 = .ok (.iconst 1, 1) := by decide +kernel
theorem dX6_hasRun_27 : decode cX6_hasRun 27 = .ok (.goto 4, 3) := by decide +kernel
theorem dX6_hasRun_30 : decode cX6_hasRun 30 = .ok (.iconst 0, 1) := by decide +kernel
theorem dX6_hasRun_31 : decode cX6_hasRun 31 = .ok (.ireturn, 1) := by decide +kernel
theorem dX6_lay_0 : decode cX6_lay 0 = .ok (.aload_n 0, 1) := by decide +kernel
theorem dX6_lay_1 : decode cX6_lay 1 = .ok (.iload_n 1, 1) := by decide +kernel
theorem dX6_lay_2 : decode cX6_lay 2 = .ok (.putfield 11, 3) := by decide +kernel
theorem dX6_lay_5 : decode cX6_lay 5 = .ok (.aload_n 0, 1) := by decide +kernel
theorem dX6_lay_6 : decode cX6_lay 6 = .ok (.iload_n 2, 1) := by decide +kernel
theorem dX6_lay_7 : decode cX6_lay 7 = .ok (.putfield 15, 3) := by decide +kernel
theorem dX6_lay_10 : decode cX6_lay 10 = .ok (.iconst 0, 1) := by decide +kernel
theorem dX6_lay_11 : decode cX6_lay 11 = .ok (.istore_n 3, 1) := by decide +kernel
theorem dX6_lay_12 : decode cX6_lay 12 = .ok (.iload_n 3, 1) := by decide +kernel
theorem dX6_lay_13 : decode cX6_lay 13 = .ok (.bipush 40, 2) := by decide +kernel
theorem dX6_lay_15 : decode cX6_lay 15 = .ok (.if_icmp .ge 16, 3) := by decide +kernel
theorem dX6_lay_18 : decode cX6_lay 18 = .ok (.aload_n 0, 1) := by decide +kernel
theorem dX6_lay_19 : decode cX6_lay 19 = .ok (.getfield 18, 3) := by decide +kernel
theorem dX6_lay_22 : decode cX6_lay 22 = .ok (.iload_n 3, 1) := by decide +kernel
theorem dX6_lay_23 : decode cX6_lay 23 = .ok (.iconst 0, 1) := by decide +kernel
theorem dX6_lay_24 : decode cX6_lay 24 = .ok (.iastore, 1) := by decide +kernel
theorem dX6_lay_25 : decode cX6_lay 25 = .ok (.iinc 3 1, 3) := by decide +kernel
theorem dX6_lay_28 : decode cX6_lay 28 = .ok (.goto (-16), 3) := by decide +kernel
theorem dX6_lay_31 : decode cX6_lay 31 = .ok (.return_, 1) := by decide +kernel
theorem dX6_write_0 : decode cX6_write 0 = .ok (.aload_n 0, 1) := by decide +kernel
theorem dX6_write_1 : decode cX6_write 1 = .ok (.getfield 11, 3) := by decide +kernel
theorem dX6_write_4 : decode cX6_write 4 = .ok (.lookupswitch 50 #[(0, 28), (1, 39)], 28) := by decide +kernel
theorem dX6_write_32 : decode cX6_write 32 = .ok (.aload_n 0, 1) := by decide +kernel
theorem dX6_write_33 : decode cX6_write 33 = .ok (.getfield 18, 3) := by decide +kernel
theorem dX6_write_36 : decode cX6_write 36 = .ok (.iload_n 1, 1) := by decide +kernel
theorem dX6_write_37 : decode cX6_write 37 = .ok (.iload_n 2, 1) := by decide +kernel
theorem dX6_write_38 : decode cX6_write 38 = .ok (.i2b, 1) := by decide +kernel
theorem dX6_write_39 : decode cX6_write 39 = .ok (.iastore, 1) := by decide +kernel
theorem dX6_write_40 : decode cX6_write 40 = .ok (.goto 21, 3) := by decide +kernel
theorem dX6_write_43 : decode cX6_write 43 = .ok (.aload_n 0, 1) := by decide +kernel
theorem dX6_write_44 : decode cX6_write 44 = .ok (.getfield 18, 3) := by decide +kernel
theorem dX6_write_47 : decode cX6_write 47 = .ok (.iload_n 1, 1) := by decide +kernel
theorem dX6_write_48 : decode cX6_write 48 = .ok (.iload_n 2, 1) := by decide +kernel
theorem dX6_write_49 : decode cX6_write 49 = .ok (.i2s, 1) := by decide +kernel
theorem dX6_write_50 : decode cX6_write 50 = .ok (.iastore, 1) := by decide +kernel
theorem dX6_write_51 : decode cX6_write 51 = .ok (.goto 10, 3) := by decide +kernel
theorem dX6_write_54 : decode cX6_write 54 = .ok (.aload_n 0, 1) := by decide +kernel
theorem dX6_write_55 : decode cX6_write 55 = .ok (.getfield 18, 3) := by decide +kernel
theorem dX6_write_58 : decode cX6_write 58 = .ok (.iload_n 1, 1) := by decide +kernel
theorem dX6_write_59 : decode cX6_write 59 = .ok (.iload_n 2, 1) := by decide +kernel
theorem dX6_write_60 : decode cX6_write 60 = .ok (.iastore, 1) := by decide +kernel
theorem dX6_write_61 : decode cX6_write 61 = .ok (.return_, 1) := by decide +kernel
theorem dX7_init_0 : decode cX7_init 0 = .ok (.aload_n 0, 1) := by decide +kernel
theorem dX7_init_1 : decode cX7_init 1 = .ok (.invokespecial 1, 3) := by decide +kernel
theorem dX7_init_4 : decode cX7_init 4 = .ok (.aload_n 0, 1) := by decide +kernel
theorem dX7_init_5 : decode cX7_init 5 = .ok (.iload_n 2, 1) := by decide +kernel
theorem dX7_init_6 : decode cX7_init 6 = .ok (.newarray .int, 2) := by decide +kernel
theorem dX7_init_8 : decode cX7_init 8 = .ok (.putfield 7, 3) := by decide +kernel
theorem dX7_init_11 : decode cX7_init 11 = .ok (.aload_n 1, 1) := by decide +kernel
theorem dX7_init_12 : decode cX7_init 12 = .ok (.iconst 0, 1) := by decide +kernel
theorem dX7_init_13 : decode cX7_init 13 = .ok (.aload_n 0, 1) := by decide +kernel
theorem dX7_init_14 : decode cX7_init 14 = .ok (.getfield 7, 3) := by decide +kernel
theorem dX7_init_17 : decode cX7_init 17 = .ok (.iconst 0, 1) := by decide +kernel
theorem dX7_init_18 : decode cX7_init 18 = .ok (.iload_n 2, 1) := by decide +kernel
theorem dX7_init_19 : decode cX7_init 19 = .ok (.invokestatic 13, 3) := by decide +kernel
theorem dX7_init_22 : decode cX7_init 22 = .ok (.aload_n 0, 1) := by decide +kernel
theorem dX7_init_23 : decode cX7_init 23 = .ok (.aload_n 3, 1) := by decide +kernel
theorem dX7_init_24 : decode cX7_init 24 = .ok (.putfield 19, 3) := by decide +kernel
theorem dX7_init_27 : decode cX7_init 27 = .ok (.return_, 1) := by decide +kernel
theorem dX8_spelling_0 : decode cX8_spelling 0 = .ok (.iload_n 0, 1) := by decide +kernel
theorem dX8_spelling_1 : decode cX8_spelling 1 = .ok (.tableswitch 99 200 211 #[63, 66, 69, 72, 75, 78, 81, 84, 87, 90, 93, 96], 63) := by decide +kernel
theorem dX8_spelling_64 : decode cX8_spelling 64 = .ok (.ldc 7, 2) := by decide +kernel
theorem dX8_spelling_66 : decode cX8_spelling 66 = .ok (.areturn, 1) := by decide +kernel
theorem dX8_spelling_67 : decode cX8_spelling 67 = .ok (.ldc 9, 2) := by decide +kernel
theorem dX8_spelling_69 : decode cX8_spelling 69 = .ok (.areturn, 1) := by decide +kernel
theorem dX8_spelling_70 : decode cX8_spelling 70 = .ok (.ldc 11, 2) := by decide +kernel
theorem dX8_spelling_72 : decode cX8_spelling 72 = .ok (.areturn, 1) := by decide +kernel
theorem dX8_spelling_73 : decode cX8_spelling 73 = .ok (.ldc 13, 2) := by decide +kernel
theorem dX8_spelling_75 : decode cX8_spelling 75 = .ok (.areturn, 1) := by decide +kernel
theorem dX8_spelling_76 : decode cX8_spelling 76 = .ok (.ldc 15, 2) := by decide +kernel
theorem dX8_spelling_78 : decode cX8_spelling 78 = .ok (.areturn, 1) := by decide +kernel
theorem dX8_spelling_79 : decode cX8_spelling 79 = .ok (.ldc 17, 2) := by decide +kernel
theorem dX8_spelling_81 : decode cX8_spelling 81 = .ok (.areturn, 1) := by decide +kernel
theorem dX8_spelling_82 : decode cX8_spelling 82 = .ok (.ldc 19, 2) := by decide +kernel
theorem dX8_spelling_84 : decode cX8_spelling 84 = .ok (.areturn, 1) := by decide +kernel
theorem dX8_spelling_85 : decode cX8_spelling 85 = .ok (.ldc 21, 2) := by decide +kernel
theorem dX8_spelling_87 : decode cX8_spelling 87 = .ok (.areturn, 1) := by decide +kernel
theorem dX8_spelling_88 : decode cX8_spelling 88 = .ok (.ldc 23, 2) := by decide +kernel
theorem dX8_spelling_90 : decode cX8_spelling 90 = .ok (.areturn, 1) := by decide +kernel
theorem dX8_spelling_91 : decode cX8_spelling 91 = .ok (.ldc 25, 2) := by decide +kernel
theorem dX8_spelling_93 : decode cX8_spelling 93 = .ok (.areturn, 1) := by decide +kernel
theorem dX8_spelling_94 : decode cX8_spelling 94 = .ok (.ldc 27, 2) := by decide +kernel
theorem dX8_spelling_96 : decode cX8_spelling 96 = .ok (.areturn, 1) := by decide +kernel
theorem dX8_spelling_97 : decode cX8_spelling 97 = .ok (.ldc 29, 2) := by decide +kernel
theorem dX8_spelling_99 : decode cX8_spelling 99 = .ok (.areturn, 1) := by decide +kernel
theorem dX8_spelling_100 : decode cX8_spelling 100 = .ok (.ldc 31, 2) := by decide +kernel
theorem dX8_spelling_102 : decode cX8_spelling 102 = .ok (.areturn, 1) := by decide +kernel
theorem dX8_isName_0 : decode cX8_isName 0 = .ok (.iload_n 0, 1) := by decide +kernel
theorem dX8_isName_1 : decode cX8_isName 1 = .ok (.sipush 200, 3) := by decide +kernel
theorem dX8_isName_4 : decode cX8_isName 4 = .ok (.if_icmp .lt 14, 3) := by decide +kernel
theorem dX8_isName_7 : decode cX8_isName 7 = .ok (.iload_n 0, 1) := by decide +kernel
theorem dX8_isName_8 : decode cX8_isName 8 = .ok (.sipush 205, 3) := by decide +kernel
theorem dX8_isName_11 : decode cX8_isName 11 = .ok (.if_icmp .gt 7, 3) := by decide +kernel
theorem dX8_isName_14 : decode cX8_isName 14 = .ok (.iconst 1, 1) := by decide +kernel
theorem dX8_isName_15 : decode cX8_isName 15 = .ok (.goto 4, 3) := by decide +kernel
theorem dX8_isName_18 : decode cX8_isName 18 = .ok (.iconst 0, 1) := by decide +kernel
theorem dX8_isName_19 : decode cX8_isName 19 = .ok (.ireturn, 1) := by decide +kernel
theorem dX8_isSign_0 : decode cX8_isSign 0 = .ok (.iload_n 0, 1) := by decide +kernel
theorem dX8_isSign_1 : decode cX8_isSign 1 = .ok (.tableswitch 105 40 61 #[103, 103, 103, 103, 105, 103, 105, 105, 105, 105, 105, 105, 105, 105, 105, 105, 105, 105, 105, 103, 103, 103], 103) := by decide +kernel
theorem dX8_isSign_104 : decode cX8_isSign 104 = .ok (.iconst 1, 1) := by decide +kernel
theorem dX8_isSign_105 : decode cX8_isSign 105 = .ok (.ireturn, 1) := by decide +kernel
theorem dX8_isSign_106 : decode cX8_isSign 106 = .ok (.iconst 0, 1) := by decide +kernel
theorem dX8_isSign_107 : decode cX8_isSign 107 = .ok (.ireturn, 1) := by decide +kernel
