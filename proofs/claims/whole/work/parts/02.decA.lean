theorem dX0_init_0 : decode cX0_init 0 = .ok (.aload_n 0, 1) := by decide +kernel
theorem dX0_init_1 : decode cX0_init 1 = .ok (.invokespecial 3, 3) := by decide +kernel
theorem dX0_init_4 : decode cX0_init 4 = .ok (.aload_n 0, 1) := by decide +kernel
theorem dX0_init_5 : decode cX0_init 5 = .ok (.sipush 216, 3) := by decide +kernel
theorem dX0_init_8 : decode cX0_init 8 = .ok (.newarray .int, 2) := by decide +kernel
theorem dX0_init_10 : decode cX0_init 10 = .ok (.putfield 9, 3) := by decide +kernel
theorem dX0_init_13 : decode cX0_init 13 = .ok (.aload_n 0, 1) := by decide +kernel
theorem dX0_init_14 : decode cX0_init 14 = .ok (.sipush 216, 3) := by decide +kernel
theorem dX0_init_17 : decode cX0_init 17 = .ok (.newarray .int, 2) := by decide +kernel
theorem dX0_init_19 : decode cX0_init 19 = .ok (.putfield 15, 3) := by decide +kernel
theorem dX0_init_22 : decode cX0_init 22 = .ok (.aload_n 0, 1) := by decide +kernel
theorem dX0_init_23 : decode cX0_init 23 = .ok (.sipush 216, 3) := by decide +kernel
theorem dX0_init_26 : decode cX0_init 26 = .ok (.newarray .int, 2) := by decide +kernel
theorem dX0_init_28 : decode cX0_init 28 = .ok (.putfield 18, 3) := by decide +kernel
theorem dX0_init_31 : decode cX0_init 31 = .ok (.aload_n 0, 1) := by decide +kernel
theorem dX0_init_32 : decode cX0_init 32 = .ok (.sipush 216, 3) := by decide +kernel
theorem dX0_init_35 : decode cX0_init 35 = .ok (.newarray .boolean, 2) := by decide +kernel
theorem dX0_init_37 : decode cX0_init 37 = .ok (.putfield 21, 3) := by decide +kernel
theorem dX0_init_40 : decode cX0_init 40 = .ok (.return_, 1) := by decide +kernel
theorem dX0_makeOf_0 : decode cX0_makeOf 0 = .ok (.aload_n 0, 1) := by decide +kernel
theorem dX0_makeOf_1 : decode cX0_makeOf 1 = .ok (.iconst 0, 1) := by decide +kernel
theorem dX0_makeOf_2 : decode cX0_makeOf 2 = .ok (.putfield 25, 3) := by decide +kernel
theorem dX0_makeOf_5 : decode cX0_makeOf 5 = .ok (.aload_n 0, 1) := by decide +kernel
theorem dX0_makeOf_6 : decode cX0_makeOf 6 = .ok (.iconst 0, 1) := by decide +kernel
theorem dX0_makeOf_7 : decode cX0_makeOf 7 = .ok (.putfield 29, 3) := by decide +kernel
theorem dX0_makeOf_10 : decode cX0_makeOf 10 = .ok (.iconst 0, 1) := by decide +kernel
theorem dX0_makeOf_11 : decode cX0_makeOf 11 = .ok (.istore_n 2, 1) := by decide +kernel
theorem dX0_makeOf_12 : decode cX0_makeOf 12 = .ok (.iload_n 2, 1) := by decide +kernel
theorem dX0_makeOf_13 : decode cX0_makeOf 13 = .ok (.aload_n 1, 1) := by decide +kernel
theorem dX0_makeOf_14 : decode cX0_makeOf 14 = .ok (.getfield 32, 3) := by decide +kernel
theorem dX0_makeOf_17 : decode cX0_makeOf 17 = .ok (.iconst 0, 1) := by decide +kernel
theorem dX0_makeOf_18 : decode cX0_makeOf 18 = .ok (.iaload, 1) := by decide +kernel
theorem dX0_makeOf_19 : decode cX0_makeOf 19 = .ok (.if_icmp .ge 71, 3) := by decide +kernel
theorem dX0_makeOf_22 : decode cX0_makeOf 22 = .ok (.iconst 0, 1) := by decide +kernel
theorem dX0_makeOf_23 : decode cX0_makeOf 23 = .ok (.istore_n 3, 1) := by decide +kernel
theorem dX0_makeOf_24 : decode cX0_makeOf 24 = .ok (.iload_n 3, 1) := by decide +kernel
theorem dX0_makeOf_25 : decode cX0_makeOf 25 = .ok (.aload_n 1, 1) := by decide +kernel
theorem dX0_makeOf_26 : decode cX0_makeOf 26 = .ok (.getfield 32, 3) := by decide +kernel
theorem dX0_makeOf_29 : decode cX0_makeOf 29 = .ok (.iconst 1, 1) := by decide +kernel
theorem dX0_makeOf_30 : decode cX0_makeOf 30 = .ok (.iaload, 1) := by decide +kernel
theorem dX0_makeOf_31 : decode cX0_makeOf 31 = .ok (.if_icmp .ge 53, 3) := by decide +kernel
theorem dX0_makeOf_34 : decode cX0_makeOf 34 = .ok (.iconst 0, 1) := by decide +kernel
theorem dX0_makeOf_35 : decode cX0_makeOf 35 = .ok (.istore 4, 2) := by decide +kernel
theorem dX0_makeOf_37 : decode cX0_makeOf 37 = .ok (.iload 4, 2) := by decide +kernel
theorem dX0_makeOf_39 : decode cX0_makeOf 39 = .ok (.aload_n 1, 1) := by decide +kernel
theorem dX0_makeOf_40 : decode cX0_makeOf 40 = .ok (.getfield 32, 3) := by decide +kernel
theorem dX0_makeOf_43 : decode cX0_makeOf 43 = .ok (.iconst 2, 1) := by decide +kernel
theorem dX0_makeOf_44 : decode cX0_makeOf 44 = .ok (.iaload, 1) := by decide +kernel
theorem dX0_makeOf_45 : decode cX0_makeOf 45 = .ok (.if_icmp .ge 33, 3) := by decide +kernel
theorem dX0_makeOf_48 : decode cX0_makeOf 48 = .ok (.aload_n 0, 1) := by decide +kernel
theorem dX0_makeOf_49 : decode cX0_makeOf 49 = .ok (.aload_n 1, 1) := by decide +kernel
theorem dX0_makeOf_50 : decode cX0_makeOf 50 = .ok (.aload_n 1, 1) := by decide +kernel
theorem dX0_makeOf_51 : decode cX0_makeOf 51 = .ok (.iconst 0, 1) := by decide +kernel
theorem dX0_makeOf_52 : decode cX0_makeOf 52 = .ok (.iload_n 2, 1) := by decide +kernel
theorem dX0_makeOf_53 : decode cX0_makeOf 53 = .ok (.invokevirtual 36, 3) := by decide +kernel
theorem dX0_makeOf_56 : decode cX0_makeOf 56 = .ok (.aload_n 1, 1) := by decide +kernel
theorem dX0_makeOf_57 : decode cX0_makeOf 57 = .ok (.iconst 1, 1) := by decide +kernel
theorem dX0_makeOf_58 : decode cX0_makeOf 58 = .ok (.iload_n 3, 1) := by decide +kernel
theorem dX0_makeOf_59 : decode cX0_makeOf 59 = .ok (.invokevirtual 36, 3) := by decide +kernel
theorem dX0_makeOf_62 : decode cX0_makeOf 62 = .ok (.aload_n 1, 1) := by decide +kernel
theorem dX0_makeOf_63 : decode cX0_makeOf 63 = .ok (.iconst 2, 1) := by decide +kernel
theorem dX0_makeOf_64 : decode cX0_makeOf 64 = .ok (.iload 4, 2) := by decide +kernel
theorem dX0_makeOf_66 : decode cX0_makeOf 66 = .ok (.invokevirtual 36, 3) := by decide +kernel
theorem dX0_makeOf_69 : decode cX0_makeOf 69 = .ok (.invokevirtual 40, 3) := by decide +kernel
theorem dX0_makeOf_72 : decode cX0_makeOf 72 = .ok (.iinc 4 1, 3) := by decide +kernel
theorem dX0_makeOf_75 : decode cX0_makeOf 75 = .ok (.goto (-38), 3) := by decide +kernel
theorem dX0_makeOf_78 : decode cX0_makeOf 78 = .ok (.iinc 3 1, 3) := by decide +kernel
theorem dX0_makeOf_81 : decode cX0_makeOf 81 = .ok (.goto (-57), 3) := by decide +kernel
theorem dX0_makeOf_84 : decode cX0_makeOf 84 = .ok (.iinc 2 1, 3) := by decide +kernel
theorem dX0_makeOf_87 : decode cX0_makeOf 87 = .ok (.goto (-75), 3) := by decide +kernel
theorem dX0_makeOf_90 : decode cX0_makeOf 90 = .ok (.return_, 1) := by decide +kernel
theorem dX0_addThrow_0 : decode cX0_addThrow 0 = .ok (.aload_n 0, 1) := by decide +kernel
theorem dX0_addThrow_1 : decode cX0_addThrow 1 = .ok (.getfield 25, 3) := by decide +kernel
theorem dX0_addThrow_4 : decode cX0_addThrow 4 = .ok (.sipush 216, 3) := by decide +kernel
theorem dX0_addThrow_7 : decode cX0_addThrow 7 = .ok (.if_icmp .lt 4, 3) := by decide +kernel
theorem dX0_addThrow_10 : decode cX0_addThrow 10 = .ok (.return_, 1) := by decide +kernel
theorem dX0_addThrow_11 : decode cX0_addThrow 11 = .ok (.aload_n 0, 1) := by decide +kernel
theorem dX0_addThrow_12 : decode cX0_addThrow 12 = .ok (.getfield 9, 3) := by decide +kernel
theorem dX0_addThrow_15 : decode cX0_addThrow 15 = .ok (.aload_n 0, 1) := by decide +kernel
theorem dX0_addThrow_16 : decode cX0_addThrow 16 = .ok (.getfield 25, 3) := by decide +kernel
theorem dX0_addThrow_19 : decode cX0_addThrow 19 = .ok (.iload_n 2, 1) := by decide +kernel
theorem dX0_addThrow_20 : decode cX0_addThrow 20 = .ok (.iload_n 3, 1) := by decide +kernel
theorem dX0_addThrow_21 : decode cX0_addThrow 21 = .ok (.iload 4, 2) := by decide +kernel
theorem dX0_addThrow_23 : decode cX0_addThrow 23 = .ok (.invokestatic 44, 3) := by decide +kernel
theorem dX0_addThrow_26 : decode cX0_addThrow 26 = .ok (.iastore, 1) := by decide +kernel
theorem dX0_addThrow_27 : decode cX0_addThrow 27 = .ok (.aload_n 0, 1) := by decide +kernel
theorem dX0_addThrow_28 : decode cX0_addThrow 28 = .ok (.getfield 15, 3) := by decide +kernel
theorem dX0_addThrow_31 : decode cX0_addThrow 31 = .ok (.aload_n 0, 1) := by decide +kernel
theorem dX0_addThrow_32 : decode cX0_addThrow 32 = .ok (.getfield 25, 3) := by decide +kernel
theorem dX0_addThrow_35 : decode cX0_addThrow 35 = .ok (.aload_n 1, 1) := by decide +kernel
theorem dX0_addThrow_36 : decode cX0_addThrow 36 = .ok (.iload_n 2, 1) := by decide +kernel
theorem dX0_addThrow_37 : decode cX0_addThrow 37 = .ok (.iload_n 3, 1) := by decide +kernel
theorem dX0_addThrow_38 : decode cX0_addThrow 38 = .ok (.iload 4, 2) := by decide +kernel
theorem dX0_addThrow_40 : decode cX0_addThrow 40 = .ok (.iconst 0, 1) := by decide +kernel
theorem dX0_addThrow_41 : decode cX0_addThrow 41 = .ok (.invokevirtual 48, 3) := by decide +kernel
theorem dX0_addThrow_44 : decode cX0_addThrow 44 = .ok (.iastore, 1) := by decide +kernel
theorem dX0_addThrow_45 : decode cX0_addThrow 45 = .ok (.aload_n 0, 1) := by decide +kernel
theorem dX0_addThrow_46 : decode cX0_addThrow 46 = .ok (.getfield 18, 3) := by decide +kernel
theorem dX0_addThrow_49 : decode cX0_addThrow 49 = .ok (.aload_n 0, 1) := by decide +kernel
theorem dX0_addThrow_50 : decode cX0_addThrow 50 = .ok (.getfield 25, 3) := by decide +kernel
theorem dX0_addThrow_53 : decode cX0_addThrow 53 = .ok (.aload_n 1, 1) := by decide +kernel
theorem dX0_addThrow_54 : decode cX0_addThrow 54 = .ok (.iload_n 2, 1) := by decide +kernel
theorem dX0_addThrow_55 : decode cX0_addThrow 55 = .ok (.iload_n 3, 1) := by decide +kernel
theorem dX0_addThrow_56 : decode cX0_addThrow 56 = .ok (.iload 4, 2) := by decide +kernel
theorem dX0_addThrow_58 : decode cX0_addThrow 58 = .ok (.iconst 1, 1) := by decide +kernel
theorem dX0_addThrow_59 : decode cX0_addThrow 59 = .ok (.invokevirtual 48, 3) := by decide +kernel
theorem dX0_addThrow_62 : decode cX0_addThrow 62 = .ok (.iastore, 1) := by decide +kernel
theorem dX0_addThrow_63 : decode cX0_addThrow 63 = .ok (.aload_n 0, 1) := by decide +kernel
theorem dX0_addThrow_64 : decode cX0_addThrow 64 = .ok (.getfield 21, 3) := by decide +kernel
theorem dX0_addThrow_67 : decode cX0_addThrow 67 = .ok (.aload_n 0, 1) := by decide +kernel
theorem dX0_addThrow_68 : decode cX0_addThrow 68 = .ok (.getfield 25, 3) := by decide +kernel
theorem dX0_addThrow_71 : decode cX0_addThrow 71 = .ok (.iload_n 2, 1) := by decide +kernel
theorem dX0_addThrow_72 : decode cX0_addThrow 72 = .ok (.iload_n 3, 1) := by decide +kernel
theorem dX0_addThrow_73 : decode cX0_addThrow 73 = .ok (.iload 4, 2) := by decide +kernel
theorem dX0_addThrow_75 : decode cX0_addThrow 75 = .ok (.invokestatic 52, 3) := by decide +kernel
theorem dX0_addThrow_78 : decode cX0_addThrow 78 = .ok (.iconst 1, 1) := by decide +kernel
theorem dX0_addThrow_79 : decode cX0_addThrow 79 = .ok (.if_icmp .ne 7, 3) := by decide +kernel
theorem dX0_addThrow_82 : decode cX0_addThrow 82 = .ok (.iconst 1, 1) := by decide +kernel
theorem dX0_addThrow_83 : decode cX0_addThrow 83 = .ok (.goto 4, 3) := by decide +kernel
theorem dX0_addThrow_86 : decode cX0_addThrow 86 = .ok (.iconst 0, 1) := by decide +kernel
theorem dX0_addThrow_87 : decode cX0_addThrow 87 = .ok (.bastore, 1) := by decide +kernel
theorem dX0_addThrow_88 : decode cX0_addThrow 88 = .ok (.aload_n 0, 1) := by decide +kernel
theorem dX0_addThrow_89 : decode cX0_addThrow 89 = .ok (.dup, 1) := by decide +kernel
theorem dX0_addThrow_90 : decode cX0_addThrow 90 = .ok (.getfield 29, 3) := by decide +kernel
theorem dX0_addThrow_93 : decode cX0_addThrow 93 = .ok (.aload_n 0, 1) := by decide +kernel
theorem dX0_addThrow_94 : decode cX0_addThrow 94 = .ok (.getfield 15, 3) := by decide +kernel
theorem dX0_addThrow_97 : decode cX0_addThrow 97 = .ok (.aload_n 0, 1) := by decide +kernel
theorem dX0_addThrow_98 : decode cX0_addThrow 98 = .ok (.getfield 25, 3) := by decide +kernel
theorem dX0_addThrow_101 : decode cX0_addThrow 101 = .ok (.iaload, 1) := by decide +kernel
theorem dX0_addThrow_102 : decode cX0_addThrow 102 = .ok (.aload_n 0, 1) := by decide +kernel
theorem dX0_addThrow_103 : decode cX0_addThrow 103 = .ok (.getfield 18, 3) := by decide +kernel
theorem dX0_addThrow_106 : decode cX0_addThrow 106 = .ok (.aload_n 0, 1) := by decide +kernel
theorem dX0_addThrow_107 : decode cX0_addThrow 107 = .ok (.getfield 25, 3) := by decide +kernel
theorem dX0_addThrow_110 : decode cX0_addThrow 110 = .ok (.iaload, 1) := by decide +kernel
theorem dX0_addThrow_111 : decode cX0_addThrow 111 = .ok (.ior, 1) := by decide +kernel
theorem dX0_addThrow_112 : decode cX0_addThrow 112 = .ok (.ior, 1) := by decide +kernel
theorem dX0_addThrow_113 : decode cX0_addThrow 113 = .ok (.putfield 29, 3) := by decide +kernel
theorem dX0_addThrow_116 : decode cX0_addThrow 116 = .ok (.aload_n 0, 1) := by decide +kernel
theorem dX0_addThrow_117 : decode cX0_addThrow 117 = .ok (.dup, 1) := by decide +kernel
theorem dX0_addThrow_118 : decode cX0_addThrow 118 = .ok (.getfield 25, 3) := by decide +kernel
theorem dX0_addThrow_121 : decode cX0_addThrow 121 = .ok (.iconst 1, 1) := by decide +kernel
theorem dX0_addThrow_122 : decode cX0_addThrow 122 = .ok (.iadd, 1) := by decide +kernel
theorem dX0_addThrow_123 : decode cX0_addThrow 123 = .ok (.putfield 25, 3) := by decide +kernel
theorem dX0_addThrow_126 : decode cX0_addThrow 126 = .ok (.return_, 1) := by decide +kernel
theorem dX0_shownAs_0 : decode cX0_shownAs 0 = .ok (.bipush 100, 2) := by decide +kernel
theorem dX0_shownAs_2 : decode cX0_shownAs 2 = .ok (.iload_n 0, 1) := by decide +kernel
theorem dX0_shownAs_3 : decode cX0_shownAs 3 = .ok (.imul, 1) := by decide +kernel
theorem dX0_shownAs_4 : decode cX0_shownAs 4 = .ok (.bipush 10, 2) := by decide +kernel
theorem dX0_shownAs_6 : decode cX0_shownAs 6 = .ok (.iload_n 1, 1) := by decide +kernel
theorem dX0_shownAs_7 : decode cX0_shownAs 7 = .ok (.imul, 1) := by decide +kernel
theorem dX0_shownAs_8 : decode cX0_shownAs 8 = .ok (.iadd, 1) := by decide +kernel
theorem dX0_shownAs_9 : decode cX0_shownAs 9 = .ok (.iload_n 2, 1) := by decide +kernel
theorem dX0_shownAs_10 : decode cX0_shownAs 10 = .ok (.iadd, 1) := by decide +kernel
theorem dX0_shownAs_11 : decode cX0_shownAs 11 = .ok (.ireturn, 1) := by decide +kernel
theorem dX0_alikePairs_0 : decode cX0_alikePairs 0 = .ok (.iload_n 0, 1) := by decide +kernel
theorem dX0_alikePairs_1 : decode cX0_alikePairs 1 = .ok (.iload_n 1, 1) := by decide +kernel
theorem dX0_alikePairs_2 : decode cX0_alikePairs 2 = .ok (.if_icmp .ne 7, 3) := by decide +kernel
theorem dX0_alikePairs_5 : decode cX0_alikePairs 5 = .ok (.iconst 1, 1) := by decide +kernel
theorem dX0_alikePairs_6 : decode cX0_alikePairs 6 = .ok (.goto 4, 3) := by decide +kernel
theorem dX0_alikePairs_9 : decode cX0_alikePairs 9 = .ok (.iconst 0, 1) := by decide +kernel
theorem dX0_alikePairs_10 : decode cX0_alikePairs 10 = .ok (.iload_n 1, 1) := by decide +kernel
theorem dX0_alikePairs_11 : decode cX0_alikePairs 11 = .ok (.iload_n 2, 1) := by decide +kernel
theorem dX0_alikePairs_12 : decode cX0_alikePairs 12 = .ok (.if_icmp .ne 7, 3) := by decide +kernel
theorem dX0_alikePairs_15 : decode cX0_alikePairs 15 = .ok (.iconst 1, 1) := by decide +kernel
theorem dX0_alikePairs_16 : decode cX0_alikePairs 16 = .ok (.goto 4, 3) := by decide +kernel
theorem dX0_alikePairs_19 : decode cX0_alikePairs 19 = .ok (.iconst 0, 1) := by decide +kernel
theorem dX0_alikePairs_20 : decode cX0_alikePairs 20 = .ok (.iadd, 1) := by decide +kernel
theorem dX0_alikePairs_21 : decode cX0_alikePairs 21 = .ok (.iload_n 0, 1) := by decide +kernel
theorem dX0_alikePairs_22 : decode cX0_alikePairs 22 = .ok (.iload_n 2, 1) := by decide +kernel
theorem dX0_alikePairs_23 : decode cX0_alikePairs 23 = .ok (.if_icmp .ne 7, 3) := by decide +kernel
theorem dX0_alikePairs_26 : decode cX0_alikePairs 26 = .ok (.iconst 1, 1) := by decide +kernel
theorem dX0_alikePairs_27 : decode cX0_alikePairs 27 = .ok (.goto 4, 3) := by decide +kernel
theorem dX0_alikePairs_30 : decode cX0_alikePairs 30 = .ok (.iconst 0, 1) := by decide +kernel
theorem dX0_alikePairs_31 : decode cX0_alikePairs 31 = .ok (.iadd, 1) := by decide +kernel
theorem dX0_alikePairs_32 : decode cX0_alikePairs 32 = .ok (.ireturn, 1) := by decide +kernel
theorem dX0_opensStill_0 : decode cX0_opensStill 0 = .ok (.iload_n 2, 1) := by decide +kernel
theorem dX0_opensStill_1 : decode cX0_opensStill 1 = .ok (.ifCond .ne 12, 3) := by decide +kernel
theorem dX0_opensStill_4 : decode cX0_opensStill 4 = .ok (.aload_n 0, 1) := by decide +kernel
theorem dX0_opensStill_5 : decode cX0_opensStill 5 = .ok (.getfield 15, 3) := by decide +kernel
theorem dX0_opensStill_8 : decode cX0_opensStill 8 = .ok (.iload_n 1, 1) := by decide +kernel
theorem dX0_opensStill_9 : decode cX0_opensStill 9 = .ok (.iaload, 1) := by decide +kernel
theorem dX0_opensStill_10 : decode cX0_opensStill 10 = .ok (.goto 9, 3) := by decide +kernel
theorem dX0_opensStill_13 : decode cX0_opensStill 13 = .ok (.aload_n 0, 1) := by decide +kernel
theorem dX0_opensStill_14 : decode cX0_opensStill 14 = .ok (.getfield 18, 3) := by decide +kernel
theorem dX0_opensStill_17 : decode cX0_opensStill 17 = .ok (.iload_n 1, 1) := by decide +kernel
theorem dX0_opensStill_18 : decode cX0_opensStill 18 = .ok (.iaload, 1) := by decide +kernel
theorem dX0_opensStill_19 : decode cX0_opensStill 19 = .ok (.ireturn, 1) := by decide +kernel
theorem dX0_opensThrown_0 : decode cX0_opensThrown 0 = .ok (.aload_n 0, 1) := by decide +kernel
theorem dX0_opensThrown_1 : decode cX0_opensThrown 1 = .ok (.iload_n 1, 1) := by decide +kernel
theorem dX0_opensThrown_2 : decode cX0_opensThrown 2 = .ok (.aload_n 0, 1) := by decide +kernel
theorem dX0_opensThrown_3 : decode cX0_opensThrown 3 = .ok (.getfield 21, 3) := by decide +kernel
theorem dX0_opensThrown_6 : decode cX0_opensThrown 6 = .ok (.iload_n 1, 1) := by decide +kernel
theorem dX0_opensThrown_7 : decode cX0_opensThrown 7 = .ok (.baload, 1) := by decide +kernel
theorem dX0_opensThrown_8 : decode cX0_opensThrown 8 = .ok (.ifCond .eq 9, 3) := by decide +kernel
theorem dX0_opensThrown_11 : decode cX0_opensThrown 11 = .ok (.iconst 1, 1) := by decide +kernel
theorem dX0_opensThrown_12 : decode cX0_opensThrown 12 = .ok (.iload_n 2, 1) := by decide +kernel
theorem dX0_opensThrown_13 : decode cX0_opensThrown 13 = .ok (.isub, 1) := by decide +kernel
theorem dX0_opensThrown_14 : decode cX0_opensThrown 14 = .ok (.goto 4, 3) := by decide +kernel
theorem dX0_opensThrown_17 : decode cX0_opensThrown 17 = .ok (.iload_n 2, 1) := by decide +kernel
theorem dX0_opensThrown_18 : decode cX0_opensThrown 18 = .ok (.invokevirtual 55, 3) := by decide +kernel
theorem dX0_opensThrown_21 : decode cX0_opensThrown 21 = .ok (.ireturn, 1) := by decide +kernel
theorem dX0_manyOpening_0 : decode cX0_manyOpening 0 = .ok (.iconst 0, 1) := by decide +kernel
theorem dX0_manyOpening_1 : decode cX0_manyOpening 1 = .ok (.istore_n 3, 1) := by decide +kernel
theorem dX0_manyOpening_2 : decode cX0_manyOpening 2 = .ok (.iconst 0, 1) := by decide +kernel
theorem dX0_manyOpening_3 : decode cX0_manyOpening 3 = .ok (.istore 4, 2) := by decide +kernel
theorem dX0_manyOpening_5 : decode cX0_manyOpening 5 = .ok (.iload 4, 2) := by decide +kernel
theorem dX0_manyOpening_7 : decode cX0_manyOpening 7 = .ok (.aload_n 0, 1) := by decide +kernel
theorem dX0_manyOpening_8 : decode cX0_manyOpening 8 = .ok (.getfield 25, 3) := by decide +kernel
theorem dX0_manyOpening_11 : decode cX0_manyOpening 11 = .ok (.if_icmp .ge 24, 3) := by decide +kernel
theorem dX0_manyOpening_14 : decode cX0_manyOpening 14 = .ok (.aload_n 0, 1) := by decide +kernel
theorem dX0_manyOpening_15 : decode cX0_manyOpening 15 = .ok (.iload 4, 2) := by decide +kernel
theorem dX0_manyOpening_17 : decode cX0_manyOpening 17 = .ok (.iload_n 2, 1) := by decide +kernel
theorem dX0_manyOpening_18 : decode cX0_manyOpening 18 = .ok (.invokevirtual 58, 3) := by decide +kernel
theorem dX0_manyOpening_21 : decode cX0_manyOpening 21 = .ok (.iload_n 1, 1) := by decide +kernel
theorem dX0_manyOpening_22 : decode cX0_manyOpening 22 = .ok (.iand, 1) := by decide +kernel
theorem dX0_manyOpening_23 : decode cX0_manyOpening 23 = .ok (.ifCond .eq 6, 3) := by decide +kernel
theorem dX0_manyOpening_26 : decode cX0_manyOpening 26 = .ok (.iinc 3 1, 3) := by decide +kernel
theorem dX0_manyOpening_29 : decode cX0_manyOpening 29 = .ok (.iinc 4 1, 3) := by decide +kernel
theorem dX0_manyOpening_32 : decode cX0_manyOpening 32 = .ok (.goto (-27), 3) := by decide +kernel
theorem dX0_manyOpening_35 : decode cX0_manyOpening 35 = .ok (.iload_n 3, 1) := by decide +kernel
theorem dX0_manyOpening_36 : decode cX0_manyOpening 36 = .ok (.ireturn, 1) := by decide +kernel
theorem dX0_sumOpening_0 : decode cX0_sumOpening 0 = .ok (.iconst 0, 1) := by decide +kernel
theorem dX0_sumOpening_1 : decode cX0_sumOpening 1 = .ok (.istore_n 3, 1) := by decide +kernel
theorem dX0_sumOpening_2 : decode cX0_sumOpening 2 = .ok (.iconst 0, 1) := by decide +kernel
theorem dX0_sumOpening_3 : decode cX0_sumOpening 3 = .ok (.istore 4, 2) := by decide +kernel
theorem dX0_sumOpening_5 : decode cX0_sumOpening 5 = .ok (.iload 4, 2) := by decide +kernel
theorem dX0_sumOpening_7 : decode cX0_sumOpening 7 = .ok (.aload_n 0, 1) := by decide +kernel
theorem dX0_sumOpening_8 : decode cX0_sumOpening 8 = .ok (.getfield 25, 3) := by decide +kernel
theorem dX0_sumOpening_11 : decode cX0_sumOpening 11 = .ok (.if_icmp .ge 24, 3) := by decide +kernel
theorem dX0_sumOpening_14 : decode cX0_sumOpening 14 = .ok (.iload_n 3, 1) := by decide +kernel
theorem dX0_sumOpening_15 : decode cX0_sumOpening 15 = .ok (.aload_n 0, 1) := by decide +kernel
theorem dX0_sumOpening_16 : decode cX0_sumOpening 16 = .ok (.iload 4, 2) := by decide +kernel
theorem dX0_sumOpening_18 : decode cX0_sumOpening 18 = .ok (.iload_n 2, 1) := by decide +kernel
theorem dX0_sumOpening_19 : decode cX0_sumOpening 19 = .ok (.invokevirtual 58, 3) := by decide +kernel
theorem dX0_sumOpening_22 : decode cX0_sumOpening 22 = .ok (.iload_n 1, 1) := by decide +kernel
theorem dX0_sumOpening_23 : decode cX0_sumOpening 23 = .ok (.iand, 1) := by decide +kernel
theorem dX0_sumOpening_24 : decode cX0_sumOpening 24 = .ok (.invokestatic 61, 3) := by decide +kernel
theorem dX0_sumOpening_27 : decode cX0_sumOpening 27 = .ok (.iadd, 1) := by decide +kernel
theorem dX0_sumOpening_28 : decode cX0_sumOpening 28 = .ok (.istore_n 3, 1) := by decide +kernel
theorem dX0_sumOpening_29 : decode cX0_sumOpening 29 = .ok (.iinc 4 1, 3) := by decide +kernel
theorem dX0_sumOpening_32 : decode cX0_sumOpening 32 = .ok (.goto (-27), 3) := by decide +kernel
theorem dX0_sumOpening_35 : decode cX0_sumOpening 35 = .ok (.iload_n 3, 1) := by decide +kernel
theorem dX0_sumOpening_36 : decode cX0_sumOpening 36 = .ok (.ireturn, 1) := by decide +kernel
theorem dX0_manyStill_0 : decode cX0_manyStill 0 = .ok (.iconst 0, 1) := by decide +kernel
theorem dX0_manyStill_1 : decode cX0_manyStill 1 = .ok (.istore_n 3, 1) := by decide +kernel
theorem dX0_manyStill_2 : decode cX0_manyStill 2 = .ok (.iconst 0, 1) := by decide +kernel
theorem dX0_manyStill_3 : decode cX0_manyStill 3 = .ok (.istore 4, 2) := by decide +kernel
theorem dX0_manyStill_5 : decode cX0_manyStill 5 = .ok (.iload 4, 2) := by decide +kernel
theorem dX0_manyStill_7 : decode cX0_manyStill 7 = .ok (.aload_n 0, 1) := by decide +kernel
theorem dX0_manyStill_8 : decode cX0_manyStill 8 = .ok (.getfield 25, 3) := by decide +kernel
theorem dX0_manyStill_11 : decode cX0_manyStill 11 = .ok (.if_icmp .ge 26, 3) := by decide +kernel
theorem dX0_manyStill_14 : decode cX0_manyStill 14 = .ok (.aload_n 0, 1) := by decide +kernel
theorem dX0_manyStill_15 : decode cX0_manyStill 15 = .ok (.iload 4, 2) := by decide +kernel
theorem dX0_manyStill_17 : decode cX0_manyStill 17 = .ok (.iload_n 2, 1) := by decide +kernel
theorem dX0_manyStill_18 : decode cX0_manyStill 18 = .ok (.invokevirtual 55, 3) := by decide +kernel
theorem dX0_manyStill_21 : decode cX0_manyStill 21 = .ok (.iload_n 1, 1) := by decide +kernel
theorem dX0_manyStill_22 : decode cX0_manyStill 22 = .ok (.invokestatic 67, 3) := by decide +kernel
theorem dX0_manyStill_25 : decode cX0_manyStill 25 = .ok (.ifCond .eq 6, 3) := by decide +kernel
theorem dX0_manyStill_28 : decode cX0_manyStill 28 = .ok (.iinc 3 1, 3) := by decide +kernel
theorem dX0_manyStill_31 : decode cX0_manyStill 31 = .ok (.iinc 4 1, 3) := by decide +kernel
theorem dX0_manyStill_34 : decode cX0_manyStill 34 = .ok (.goto (-29), 3) := by decide +kernel
theorem dX0_manyStill_37 : decode cX0_manyStill 37 = .ok (.iload_n 3, 1) := by decide +kernel
theorem dX0_manyStill_38 : decode cX0_manyStill 38 = .ok (.ireturn, 1) := by decide +kernel
theorem dX0_firstStill_0 : decode cX0_firstStill 0 = .ok (.iconst 0, 1) := by decide +kernel
theorem dX0_firstStill_1 : decode cX0_firstStill 1 = .ok (.istore_n 3, 1) := by decide +kernel
theorem dX0_firstStill_2 : decode cX0_firstStill 2 = .ok (.iload_n 3, 1) := by decide +kernel
theorem dX0_firstStill_3 : decode cX0_firstStill 3 = .ok (.aload_n 0, 1) := by decide +kernel
theorem dX0_firstStill_4 : decode cX0_firstStill 4 = .ok (.getfield 25, 3) := by decide +kernel
theorem dX0_firstStill_7 : decode cX0_firstStill 7 = .ok (.if_icmp .ge 29, 3) := by decide +kernel
theorem dX0_firstStill_10 : decode cX0_firstStill 10 = .ok (.aload_n 0, 1) := by decide +kernel
theorem dX0_firstStill_11 : decode cX0_firstStill 11 = .ok (.iload_n 3, 1) := by decide +kernel
theorem dX0_firstStill_12 : decode cX0_firstStill 12 = .ok (.iload_n 2, 1) := by decide +kernel
theorem dX0_firstStill_13 : decode cX0_firstStill 13 = .ok (.invokevirtual 55, 3) := by decide +kernel
theorem dX0_firstStill_16 : decode cX0_firstStill 16 = .ok (.iload_n 1, 1) := by decide +kernel
theorem dX0_firstStill_17 : decode cX0_firstStill 17 = .ok (.invokestatic 67, 3) := by decide +kernel
theorem dX0_firstStill_20 : decode cX0_firstStill 20 = .ok (.ifCond .eq 10, 3) := by decide +kernel
theorem dX0_firstStill_23 : decode cX0_firstStill 23 = .ok (.aload_n 0, 1) := by decide +kernel
theorem dX0_firstStill_24 : decode cX0_firstStill 24 = .ok (.getfield 9, 3) := by decide +kernel
theorem dX0_firstStill_27 : decode cX0_firstStill 27 = .ok (.iload_n 3, 1) := by decide +kernel
theorem dX0_firstStill_28 : decode cX0_firstStill 28 = .ok (.iaload, 1) := by decide +kernel
theorem dX0_firstStill_29 : decode cX0_firstStill 29 = .ok (.ireturn, 1) := by decide +kernel
theorem dX0_firstStill_30 : decode cX0_firstStill 30 = .ok (.iinc 3 1, 3) := by decide +kernel
theorem dX0_firstStill_33 : decode cX0_firstStill 33 = .ok (.goto (-31), 3) := by decide +kernel
theorem dX0_firstStill_36 : decode cX0_firstStill 36 = .ok (.bipush (-9), 2) := by decide +kernel
theorem dX0_firstStill_38 : decode cX0_firstStill 38 = .ok (.ireturn, 1) := by decide +kernel
theorem dX1_init_0 : decode cX1_init 0 = .ok (.aload_n 0, 1) := by decide +kernel
theorem dX1_init_1 : decode cX1_init 1 = .ok (.invokespecial 3, 3) := by decide +kernel
theorem dX1_init_4 : decode cX1_init 4 = .ok (.aload_n 0, 1) := by decide +kernel
theorem dX1_init_5 : decode cX1_init 5 = .ok (.aload_n 1, 1) := by decide +kernel
theorem dX1_init_6 : decode cX1_init 6 = .ok (.putfield 9, 3) := by decide +kernel
theorem dX1_init_9 : decode cX1_init 9 = .ok (.aload_n 0, 1) := by decide +kernel
theorem dX1_init_10 : decode cX1_init 10 = .ok (.bipush 9, 2) := by decide +kernel
theorem dX1_init_12 : decode cX1_init 12 = .ok (.newarray .int, 2) := by decide +kernel
theorem dX1_init_14 : decode cX1_init 14 = .ok (.putfield 15, 3) := by decide +kernel
theorem dX1_init_17 : decode cX1_init 17 = .ok (.aload_n 0, 1) := by decide +kernel
theorem dX1_init_18 : decode cX1_init 18 = .ok (.bipush 108, 2) := by decide +kernel
theorem dX1_init_20 : decode cX1_init 20 = .ok (.newarray .int, 2) := by decide +kernel
theorem dX1_init_22 : decode cX1_init 22 = .ok (.putfield 19, 3) := by decide +kernel
theorem dX1_init_25 : decode cX1_init 25 = .ok (.aload_n 0, 1) := by decide +kernel
theorem dX1_init_26 : decode cX1_init 26 = .ok (.invokevirtual 22, 3) := by decide +kernel
theorem dX1_init_29 : decode cX1_init 29 = .ok (.return_, 1) := by decide +kernel
theorem dX1_begin_0 : decode cX1_begin 0 = .ok (.iconst 0, 1) := by decide +kernel
theorem dX1_begin_1 : decode cX1_begin 1 = .ok (.istore_n 1, 1) := by decide +kernel
theorem dX1_begin_2 : decode cX1_begin 2 = .ok (.iload_n 1, 1) := by decide +kernel
theorem dX1_begin_3 : decode cX1_begin 3 = .ok (.bipush 9, 2) := by decide +kernel
theorem dX1_begin_5 : decode cX1_begin 5 = .ok (.if_icmp .ge 16, 3) := by decide +kernel
theorem dX1_begin_8 : decode cX1_begin 8 = .ok (.aload_n 0, 1) := by decide +kernel
theorem dX1_begin_9 : decode cX1_begin 9 = .ok (.getfield 15, 3) := by decide +kernel
theorem dX1_begin_12 : decode cX1_begin 12 = .ok (.iload_n 1, 1) := by decide +kernel
theorem dX1_begin_13 : decode cX1_begin 13 = .ok (.iconst 0, 1) := by decide +kernel
theorem dX1_begin_14 : decode cX1_begin 14 = .ok (.iastore, 1) := by decide +kernel
theorem dX1_begin_15 : decode cX1_begin 15 = .ok (.iinc 1 1, 3) := by decide +kernel
theorem dX1_begin_18 : decode cX1_begin 18 = .ok (.goto (-16), 3) := by decide +kernel
theorem dX1_begin_21 : decode cX1_begin 21 = .ok (.aload_n 0, 1) := by decide +kernel
theorem dX1_begin_22 : decode cX1_begin 22 = .ok (.getfield 15, 3) := by decide +kernel
theorem dX1_begin_25 : decode cX1_begin 25 = .ok (.bipush 8, 2) := by decide +kernel
theorem dX1_begin_27 : decode cX1_begin 27 = .ok (.bipush (-9), 2) := by decide +kernel
theorem dX1_begin_29 : decode cX1_begin 29 = .ok (.iastore, 1) := by decide +kernel
theorem dX1_begin_30 : decode cX1_begin 30 = .ok (.aload_n 0, 1) := by decide +kernel
theorem dX1_begin_31 : decode cX1_begin 31 = .ok (.iconst 0, 1) := by decide +kernel
theorem dX1_begin_32 : decode cX1_begin 32 = .ok (.putfield 25, 3) := by decide +kernel
theorem dX1_begin_35 : decode cX1_begin 35 = .ok (.return_, 1) := by decide +kernel
theorem dX1_becomes_0 : decode cX1_becomes 0 = .ok (.aload_n 1, 1) := by decide +kernel
theorem dX1_becomes_1 : decode cX1_becomes 1 = .ok (.getfield 15, 3) := by decide +kernel
theorem dX1_becomes_4 : decode cX1_becomes 4 = .ok (.iconst 0, 1) := by decide +kernel
theorem dX1_becomes_5 : decode cX1_becomes 5 = .ok (.aload_n 0, 1) := by decide +kernel
theorem dX1_becomes_6 : decode cX1_becomes 6 = .ok (.getfield 15, 3) := by decide +kernel
theorem dX1_becomes_9 : decode cX1_becomes 9 = .ok (.iconst 0, 1) := by decide +kernel
theorem dX1_becomes_10 : decode cX1_becomes 10 = .ok (.bipush 9, 2) := by decide +kernel
theorem dX1_becomes_12 : decode cX1_becomes 12 = .ok (.invokestatic 29, 3) := by decide +kernel
theorem dX1_becomes_15 : decode cX1_becomes 15 = .ok (.aload_n 1, 1) := by decide +kernel
theorem dX1_becomes_16 : decode cX1_becomes 16 = .ok (.getfield 19, 3) := by decide +kernel
theorem dX1_becomes_19 : decode cX1_becomes 19 = .ok (.iconst 0, 1) := by decide +kernel
theorem dX1_becomes_20 : decode cX1_becomes 20 = .ok (.aload_n 0, 1) := by decide +kernel
theorem dX1_becomes_21 : decode cX1_becomes 21 = .ok (.getfield 19, 3) := by decide +kernel
theorem dX1_becomes_24 : decode cX1_becomes 24 = .ok (.iconst 0, 1) := by decide +kernel
theorem dX1_becomes_25 : decode cX1_becomes 25 = .ok (.aload_n 0, 1) := by decide +kernel
theorem dX1_becomes_26 : decode cX1_becomes 26 = .ok (.getfield 19, 3) := by decide +kernel
theorem dX1_becomes_29 : decode cX1_becomes 29 = .ok (.arraylength, 1) := by decide +kernel
theorem dX1_becomes_30 : decode cX1_becomes 30 = .ok (.invokestatic 29, 3) := by decide +kernel
theorem dX1_becomes_33 : decode cX1_becomes 33 = .ok (.aload_n 0, 1) := by decide +kernel
theorem dX1_becomes_34 : decode cX1_becomes 34 = .ok (.aload_n 1, 1) := by decide +kernel
theorem dX1_becomes_35 : decode cX1_becomes 35 = .ok (.getfield 25, 3) := by decide +kernel
theorem dX1_becomes_38 : decode cX1_becomes 38 = .ok (.putfield 25, 3) := by decide +kernel
theorem dX1_becomes_41 : decode cX1_becomes 41 = .ok (.return_, 1) := by decide +kernel
theorem dX1_remember_0 : decode cX1_remember 0 = .ok (.aload_n 0, 1) := by decide +kernel
theorem dX1_remember_1 : decode cX1_remember 1 = .ok (.getfield 25, 3) := by decide +kernel
theorem dX1_remember_4 : decode cX1_remember 4 = .ok (.bipush 12, 2) := by decide +kernel
theorem dX1_remember_6 : decode cX1_remember 6 = .ok (.if_icmp .lt 7, 3) := by decide +kernel
theorem dX1_remember_9 : decode cX1_remember 9 = .ok (.aload_n 0, 1) := by decide +kernel
theorem dX1_remember_10 : decode cX1_remember 10 = .ok (.invokevirtual 35, 3) := by decide +kernel
theorem dX1_remember_13 : decode cX1_remember 13 = .ok (.aload_n 0, 1) := by decide +kernel
theorem dX1_remember_14 : decode cX1_remember 14 = .ok (.getfield 15, 3) := by decide +kernel
theorem dX1_remember_17 : decode cX1_remember 17 = .ok (.iconst 0, 1) := by decide +kernel
theorem dX1_remember_18 : decode cX1_remember 18 = .ok (.aload_n 0, 1) := by decide +kernel
theorem dX1_remember_19 : decode cX1_remember 19 = .ok (.getfield 19, 3) := by decide +kernel
theorem dX1_remember_22 : decode cX1_remember 22 = .ok (.aload_n 0, 1) := by decide +kernel
theorem dX1_remember_23 : decode cX1_remember 23 = .ok (.getfield 25, 3) := by decide +kernel
theorem dX1_remember_26 : decode cX1_remember 26 = .ok (.bipush 9, 2) := by decide +kernel
theorem dX1_remember_28 : decode cX1_remember 28 = .ok (.imul, 1) := by decide +kernel
theorem dX1_remember_29 : decode cX1_remember 29 = .ok (.bipush 9, 2) := by decide +kernel
theorem dX1_remember_31 : decode cX1_remember 31 = .ok (.invokestatic 29, 3) := by decide +kernel
theorem dX1_remember_34 : decode cX1_remember 34 = .ok (.aload_n 0, 1) := by decide +kernel
theorem dX1_remember_35 : decode cX1_remember 35 = .ok (.dup, 1) := by decide +kernel
theorem dX1_remember_36 : decode cX1_remember 36 = .ok (.getfield 25, 3) := by decide +kernel
theorem dX1_remember_39 : decode cX1_remember 39 = .ok (.iconst 1, 1) := by decide +kernel
theorem dX1_remember_40 : decode cX1_remember 40 = .ok (.iadd, 1) := by decide +kernel
theorem dX1_remember_41 : decode cX1_remember 41 = .ok (.putfield 25, 3) := by decide +kernel
theorem dX1_remember_44 : decode cX1_remember 44 = .ok (.return_, 1) := by decide +kernel
theorem dX1_loseOldest_0 : decode cX1_loseOldest 0 = .ok (.bipush 9, 2) := by decide +kernel
theorem dX1_loseOldest_2 : decode cX1_loseOldest 2 = .ok (.istore_n 1, 1) := by decide +kernel
theorem dX1_loseOldest_3 : decode cX1_loseOldest 3 = .ok (.iload_n 1, 1) := by decide +kernel
theorem dX1_loseOldest_4 : decode cX1_loseOldest 4 = .ok (.aload_n 0, 1) := by decide +kernel
theorem dX1_loseOldest_5 : decode cX1_loseOldest 5 = .ok (.getfield 19, 3) := by decide +kernel
theorem dX1_loseOldest_8 : decode cX1_loseOldest 8 = .ok (.arraylength, 1) := by decide +kernel
theorem dX1_loseOldest_9 : decode cX1_loseOldest 9 = .ok (.if_icmp .ge 24, 3) := by decide +kernel
theorem dX1_loseOldest_12 : decode cX1_loseOldest 12 = .ok (.aload_n 0, 1) := by decide +kernel
theorem dX1_loseOldest_13 : decode cX1_loseOldest 13 = .ok (.getfield 19, 3) := by decide +kernel
theorem dX1_loseOldest_16 : decode cX1_loseOldest 16 = .ok (.iload_n 1, 1) := by decide +kernel
theorem dX1_loseOldest_17 : decode cX1_loseOldest 17 = .ok (.bipush 9, 2) := by decide +kernel
theorem dX1_loseOldest_19 : decode cX1_loseOldest 19 = .ok (.isub, 1) := by decide +kernel
theorem dX1_loseOldest_20 : decode cX1_loseOldest 20 = .ok (.aload_n 0, 1) := by decide +kernel
theorem dX1_loseOldest_21 : decode cX1_loseOldest 21 = .ok (.getfield 19, 3) := by decide +kernel
theorem dX1_loseOldest_24 : decode cX1_loseOldest 24 = .ok (.iload_n 1, 1) := by decide +kernel
theorem dX1_loseOldest_25 : decode cX1_loseOldest 25 = .ok (.iaload, 1) := by decide +kernel
theorem dX1_loseOldest_26 : decode cX1_loseOldest 26 = .ok (.iastore, 1) := by decide +kernel
theorem dX1_loseOldest_27 : decode cX1_loseOldest 27 = .ok (.iinc 1 1, 3) := by decide +kernel
theorem dX1_loseOldest_30 : decode cX1_loseOldest 30 = .ok (.goto (-27), 3) := by decide +kernel
theorem dX1_loseOldest_33 : decode cX1_loseOldest 33 = .ok (.aload_n 0, 1) := by decide +kernel
theorem dX1_loseOldest_34 : decode cX1_loseOldest 34 = .ok (.bipush 11, 2) := by decide +kernel
theorem dX1_loseOldest_36 : decode cX1_loseOldest 36 = .ok (.putfield 25, 3) := by decide +kernel
theorem dX1_loseOldest_39 : decode cX1_loseOldest 39 = .ok (.return_, 1) := by decide +kernel
theorem dX1_stepBack_0 : decode cX1_stepBack 0 = .ok (.aload_n 0, 1) := by decide +kernel
theorem dX1_stepBack_1 : decode cX1_stepBack 1 = .ok (.getfield 25, 3) := by decide +kernel
theorem dX1_stepBack_4 : decode cX1_stepBack 4 = .ok (.ifCond .le 34, 3) := by decide +kernel
theorem dX1_stepBack_7 : decode cX1_stepBack 7 = .ok (.aload_n 0, 1) := by decide +kernel
theorem dX1_stepBack_8 : decode cX1_stepBack 8 = .ok (.dup, 1) := by decide +kernel
theorem dX1_stepBack_9 : decode cX1_stepBack 9 = .ok (.getfield 25, 3) := by decide +kernel
theorem dX1_stepBack_12 : decode cX1_stepBack 12 = .ok (.iconst 1, 1) := by decide +kernel
theorem dX1_stepBack_13 : decode cX1_stepBack 13 = .ok (.isub, 1) := by decide +kernel
theorem dX1_stepBack_14 : decode cX1_stepBack 14 = .ok (.putfield 25, 3) := by decide +kernel
theorem dX1_stepBack_17 : decode cX1_stepBack 17 = .ok (.aload_n 0, 1) := by decide +kernel
theorem dX1_stepBack_18 : decode cX1_stepBack 18 = .ok (.getfield 19, 3) := by decide +kernel
theorem dX1_stepBack_21 : decode cX1_stepBack 21 = .ok (.aload_n 0, 1) := by decide +kernel
theorem dX1_stepBack_22 : decode cX1_stepBack 22 = .ok (.getfield 25, 3) := by decide +kernel
theorem dX1_stepBack_25 : decode cX1_stepBack 25 = .ok (.bipush 9, 2) := by decide +kernel
theorem dX1_stepBack_27 : decode cX1_stepBack 27 = .ok (.imul, 1) := by decide +kernel
theorem dX1_stepBack_28 : decode cX1_stepBack 28 = .ok (.aload_n 0, 1) := by decide +kernel
theorem dX1_stepBack_29 : decode cX1_stepBack 29 = .ok (.getfield 15, 3) := by decide +kernel
theorem dX1_stepBack_32 : decode cX1_stepBack 32 = .ok (.iconst 0, 1) := by decide +kernel
theorem dX1_stepBack_33 : decode cX1_stepBack 33 = .ok (.bipush 9, 2) := by decide +kernel
theorem dX1_stepBack_35 : decode cX1_stepBack 35 = .ok (.invokestatic 29, 3) := by decide +kernel
theorem dX1_stepBack_38 : decode cX1_stepBack 38 = .ok (.return_, 1) := by decide +kernel
theorem dX1_berthsOf_0 : decode cX1_berthsOf 0 = .ok (.aload_n 0, 1) := by decide +kernel
theorem dX1_berthsOf_1 : decode cX1_berthsOf 1 = .ok (.getfield 15, 3) := by decide +kernel
theorem dX1_berthsOf_4 : decode cX1_berthsOf 4 = .ok (.iconst 0, 1) := by decide +kernel
theorem dX1_berthsOf_5 : decode cX1_berthsOf 5 = .ok (.iload_n 1, 1) := by decide +kernel
theorem dX1_berthsOf_6 : decode cX1_berthsOf 6 = .ok (.iadd, 1) := by decide +kernel
theorem dX1_berthsOf_7 : decode cX1_berthsOf 7 = .ok (.iaload, 1) := by decide +kernel
theorem dX1_berthsOf_8 : decode cX1_berthsOf 8 = .ok (.ireturn, 1) := by decide +kernel
theorem dX1_tidesOf_0 : decode cX1_tidesOf 0 = .ok (.aload_n 0, 1) := by decide +kernel
theorem dX1_tidesOf_1 : decode cX1_tidesOf 1 = .ok (.getfield 15, 3) := by decide +kernel
theorem dX1_tidesOf_4 : decode cX1_tidesOf 4 = .ok (.iconst 2, 1) := by decide +kernel
theorem dX1_tidesOf_5 : decode cX1_tidesOf 5 = .ok (.iload_n 1, 1) := by decide +kernel
theorem dX1_tidesOf_6 : decode cX1_tidesOf 6 = .ok (.iadd, 1) := by decide +kernel
theorem dX1_tidesOf_7 : decode cX1_tidesOf 7 = .ok (.iaload, 1) := by decide +kernel
theorem dX1_tidesOf_8 : decode cX1_tidesOf 8 = .ok (.ireturn, 1) := by decide +kernel
theorem dX1_isBlind_0 : decode cX1_isBlind 0 = .ok (.aload_n 0, 1) := by decide +kernel
theorem dX1_isBlind_1 : decode cX1_isBlind 1 = .ok (.getfield 15, 3) := by decide +kernel
theorem dX1_isBlind_4 : decode cX1_isBlind 4 = .ok (.iconst 4, 1) := by decide +kernel
theorem dX1_isBlind_5 : decode cX1_isBlind 5 = .ok (.iload_n 1, 1) := by decide +kernel
theorem dX1_isBlind_6 : decode cX1_isBlind 6 = .ok (.iadd, 1) := by decide +kernel
theorem dX1_isBlind_7 : decode cX1_isBlind 7 = .ok (.iaload, 1) := by decide +kernel
theorem dX1_isBlind_8 : decode cX1_isBlind 8 = .ok (.ifCond .eq 7, 3) := by decide +kernel
theorem dX1_isBlind_11 : decode cX1_isBlind 11 = .ok (.iconst 1, 1) := by decide +kernel
theorem dX1_isBlind_12 : decode cX1_isBlind 12 = .ok (.goto 4, 3) := by decide +kernel
theorem dX1_isBlind_15 : decode cX1_isBlind 15 = .ok (.iconst 0, 1) := by decide +kernel
theorem dX1_isBlind_16 : decode cX1_isBlind 16 = .ok (.ireturn, 1) := by decide +kernel
theorem dX1_wind_0 : decode cX1_wind 0 = .ok (.aload_n 0, 1) := by decide +kernel
theorem dX1_wind_1 : decode cX1_wind 1 = .ok (.getfield 15, 3) := by decide +kernel
theorem dX1_wind_4 : decode cX1_wind 4 = .ok (.bipush 6, 2) := by decide +kernel
theorem dX1_wind_6 : decode cX1_wind 6 = .ok (.iaload, 1) := by decide +kernel
theorem dX1_wind_7 : decode cX1_wind 7 = .ok (.ireturn, 1) := by decide +kernel
theorem dX1_shown_0 : decode cX1_shown 0 = .ok (.aload_n 0, 1) := by decide +kernel
theorem dX1_shown_1 : decode cX1_shown 1 = .ok (.getfield 15, 3) := by decide +kernel
theorem dX1_shown_4 : decode cX1_shown 4 = .ok (.bipush 8, 2) := by decide +kernel
theorem dX1_shown_6 : decode cX1_shown 6 = .ok (.iaload, 1) := by decide +kernel
theorem dX1_shown_7 : decode cX1_shown 7 = .ok (.ireturn, 1) := by decide +kernel
theorem dX1_lies_0 : decode cX1_lies 0 = .ok (.aload_n 0, 1) := by decide +kernel
theorem dX1_lies_1 : decode cX1_lies 1 = .ok (.getfield 15, 3) := by decide +kernel
theorem dX1_lies_4 : decode cX1_lies 4 = .ok (.bipush 8, 2) := by decide +kernel
theorem dX1_lies_6 : decode cX1_lies 6 = .ok (.iaload, 1) := by decide +kernel
theorem dX1_lies_7 : decode cX1_lies 7 = .ok (.bipush (-9), 2) := by decide +kernel
theorem dX1_lies_9 : decode cX1_lies 9 = .ok (.if_icmp .eq 7, 3) := by decide +kernel
theorem dX1_lies_12 : decode cX1_lies 12 = .ok (.iconst 1, 1) := by decide +kernel
theorem dX1_lies_13 : decode cX1_lies 13 = .ok (.goto 4, 3) := by decide +kernel
theorem dX1_lies_16 : decode cX1_lies 16 = .ok (.iconst 0, 1) := by decide +kernel
theorem dX1_lies_17 : decode cX1_lies 17 = .ok (.ireturn, 1) := by decide +kernel
theorem dX1_owned_0 : decode cX1_owned 0 = .ok (.aload_n 0, 1) := by decide +kernel
theorem dX1_owned_1 : decode cX1_owned 1 = .ok (.iconst 0, 1) := by decide +kernel
theorem dX1_owned_2 : decode cX1_owned 2 = .ok (.invokevirtual 38, 3) := by decide +kernel
theorem dX1_owned_5 : decode cX1_owned 5 = .ok (.aload_n 0, 1) := by decide +kernel
theorem dX1_owned_6 : decode cX1_owned 6 = .ok (.iconst 1, 1) := by decide +kernel
theorem dX1_owned_7 : decode cX1_owned 7 = .ok (.invokevirtual 38, 3) := by decide +kernel
theorem dX1_owned_10 : decode cX1_owned 10 = .ok (.ior, 1) := by decide +kernel
theorem dX1_owned_11 : decode cX1_owned 11 = .ok (.ireturn, 1) := by decide +kernel
theorem dX1_free_0 : decode cX1_free 0 = .ok (.aload_n 0, 1) := by decide +kernel
theorem dX1_free_1 : decode cX1_free 1 = .ok (.invokevirtual 42, 3) := by decide +kernel
theorem dX1_free_4 : decode cX1_free 4 = .ok (.iconst (-1), 1) := by decide +kernel
theorem dX1_free_5 : decode cX1_free 5 = .ok (.ixor, 1) := by decide +kernel
theorem dX1_free_6 : decode cX1_free 6 = .ok (.ireturn, 1) := by decide +kernel
theorem dX1_owner_0 : decode cX1_owner 0 = .ok (.iconst 0, 1) := by decide +kernel
theorem dX1_owner_1 : decode cX1_owner 1 = .ok (.istore_n 2, 1) := by decide +kernel
theorem dX1_owner_2 : decode cX1_owner 2 = .ok (.iload_n 2, 1) := by decide +kernel
theorem dX1_owner_3 : decode cX1_owner 3 = .ok (.iconst 2, 1) := by decide +kernel
theorem dX1_owner_4 : decode cX1_owner 4 = .ok (.if_icmp .ge 23, 3) := by decide +kernel
theorem dX1_owner_7 : decode cX1_owner 7 = .ok (.aload_n 0, 1) := by decide +kernel
theorem dX1_owner_8 : decode cX1_owner 8 = .ok (.iload_n 2, 1) := by decide +kernel
theorem dX1_owner_9 : decode cX1_owner 9 = .ok (.invokevirtual 38, 3) := by decide +kernel
theorem dX1_owner_12 : decode cX1_owner 12 = .ok (.iload_n 1, 1) := by decide +kernel
theorem dX1_owner_13 : decode cX1_owner 13 = .ok (.invokestatic 46, 3) := by decide +kernel
theorem dX1_owner_16 : decode cX1_owner 16 = .ok (.ifCond .eq 5, 3) := by decide +kernel
theorem dX1_owner_19 : decode cX1_owner 19 = .ok (.iload_n 2, 1) := by decide +kernel
theorem dX1_owner_20 : decode cX1_owner 20 = .ok (.ireturn, 1) := by decide +kernel
theorem dX1_owner_21 : decode cX1_owner 21 = .ok (.iinc 2 1, 3) := by decide +kernel
theorem dX1_owner_24 : decode cX1_owner 24 = .ok (.goto (-22), 3) := by decide +kernel
theorem dX1_owner_27 : decode cX1_owner 27 = .ok (.bipush (-9), 2) := by decide +kernel
theorem dX1_owner_29 : decode cX1_owner 29 = .ok (.ireturn, 1) := by decide +kernel
theorem dX1_winner_0 : decode cX1_winner 0 = .ok (.iconst 0, 1) := by decide +kernel
theorem dX1_winner_1 : decode cX1_winner 1 = .ok (.istore_n 1, 1) := by decide +kernel
theorem dX1_winner_2 : decode cX1_winner 2 = .ok (.iload_n 1, 1) := by decide +kernel
theorem dX1_winner_3 : decode cX1_winner 3 = .ok (.iconst 2, 1) := by decide +kernel
theorem dX1_winner_4 : decode cX1_winner 4 = .ok (.if_icmp .ge 29, 3) := by decide +kernel
theorem dX1_winner_7 : decode cX1_winner 7 = .ok (.aload_n 0, 1) := by decide +kernel
theorem dX1_winner_8 : decode cX1_winner 8 = .ok (.iload_n 1, 1) := by decide +kernel
theorem dX1_winner_9 : decode cX1_winner 9 = .ok (.invokevirtual 38, 3) := by decide +kernel
theorem dX1_winner_12 : decode cX1_winner 12 = .ok (.invokestatic 50, 3) := by decide +kernel
theorem dX1_winner_15 : decode cX1_winner 15 = .ok (.aload_n 0, 1) := by decide +kernel
theorem dX1_winner_16 : decode cX1_winner 16 = .ok (.getfield 9, 3) := by decide +kernel
theorem dX1_winner_19 : decode cX1_winner 19 = .ok (.getfield 55, 3) := by decide +kernel
theorem dX1_winner_22 : decode cX1_winner 22 = .ok (.if_icmp .lt 5, 3) := by decide +kernel
theorem dX1_winner_25 : decode cX1_winner 25 = .ok (.iload_n 1, 1) := by decide +kernel
theorem dX1_winner_26 : decode cX1_winner 26 = .ok (.ireturn, 1) := by decide +kernel
theorem dX1_winner_27 : decode cX1_winner 27 = .ok (.iinc 1 1, 3) := by decide +kernel
theorem dX1_winner_30 : decode cX1_winner 30 = .ok (.goto (-28), 3) := by decide +kernel
theorem dX1_winner_33 : decode cX1_winner 33 = .ok (.bipush (-9), 2) := by decide +kernel
theorem dX1_winner_35 : decode cX1_winner 35 = .ok (.ireturn, 1) := by decide +kernel
theorem dX1_whoMoves_0 : decode cX1_whoMoves 0 = .ok (.aload_n 0, 1) := by decide +kernel
theorem dX1_whoMoves_1 : decode cX1_whoMoves 1 = .ok (.invokevirtual 60, 3) := by decide +kernel
theorem dX1_whoMoves_4 : decode cX1_whoMoves 4 = .ok (.bipush (-9), 2) := by decide +kernel
theorem dX1_whoMoves_6 : decode cX1_whoMoves 6 = .ok (.if_icmp .ne 13, 3) := by decide +kernel
theorem dX1_whoMoves_9 : decode cX1_whoMoves 9 = .ok (.aload_n 0, 1) := by decide +kernel
theorem dX1_whoMoves_10 : decode cX1_whoMoves 10 = .ok (.getfield 15, 3) := by decide +kernel
theorem dX1_whoMoves_13 : decode cX1_whoMoves 13 = .ok (.bipush 7, 2) := by decide +kernel
theorem dX1_whoMoves_15 : decode cX1_whoMoves 15 = .ok (.iaload, 1) := by decide +kernel
theorem dX1_whoMoves_16 : decode cX1_whoMoves 16 = .ok (.goto 5, 3) := by decide +kernel
theorem dX1_whoMoves_19 : decode cX1_whoMoves 19 = .ok (.bipush (-9), 2) := by decide +kernel
theorem dX1_whoMoves_21 : decode cX1_whoMoves 21 = .ok (.ireturn, 1) := by decide +kernel
theorem dX1_open_0 : decode cX1_open 0 = .ok (.aload_n 0, 1) := by decide +kernel
theorem dX1_open_1 : decode cX1_open 1 = .ok (.invokevirtual 63, 3) := by decide +kernel
theorem dX1_open_4 : decode cX1_open 4 = .ok (.ifCond .ne 5, 3) := by decide +kernel
theorem dX1_open_7 : decode cX1_open 7 = .ok (.iconst 0, 1) := by decide +kernel
theorem dX1_open_8 : decode cX1_open 8 = .ok (.ireturn, 1) := by decide +kernel
theorem dX1_open_9 : decode cX1_open 9 = .ok (.aload_n 0, 1) := by decide +kernel
theorem dX1_open_10 : decode cX1_open 10 = .ok (.invokevirtual 67, 3) := by decide +kernel
theorem dX1_open_13 : decode cX1_open 13 = .ok (.istore_n 1, 1) := by decide +kernel
theorem dX1_open_14 : decode cX1_open 14 = .ok (.aload_n 0, 1) := by decide +kernel
theorem dX1_open_15 : decode cX1_open 15 = .ok (.getfield 9, 3) := by decide +kernel
theorem dX1_open_18 : decode cX1_open 18 = .ok (.iload_n 1, 1) := by decide +kernel
theorem dX1_open_19 : decode cX1_open 19 = .ok (.bipush 100, 2) := by decide +kernel
theorem dX1_open_21 : decode cX1_open 21 = .ok (.idiv, 1) := by decide +kernel
theorem dX1_open_22 : decode cX1_open 22 = .ok (.iload_n 1, 1) := by decide +kernel
theorem dX1_open_23 : decode cX1_open 23 = .ok (.bipush 10, 2) := by decide +kernel
theorem dX1_open_25 : decode cX1_open 25 = .ok (.idiv, 1) := by decide +kernel
theorem dX1_open_26 : decode cX1_open 26 = .ok (.bipush 10, 2) := by decide +kernel
theorem dX1_open_28 : decode cX1_open 28 = .ok (.irem, 1) := by decide +kernel
theorem dX1_open_29 : decode cX1_open 29 = .ok (.iload_n 1, 1) := by decide +kernel
theorem dX1_open_30 : decode cX1_open 30 = .ok (.bipush 10, 2) := by decide +kernel
theorem dX1_open_32 : decode cX1_open 32 = .ok (.irem, 1) := by decide +kernel
theorem dX1_open_33 : decode cX1_open 33 = .ok (.aload_n 0, 1) := by decide +kernel
theorem dX1_open_34 : decode cX1_open 34 = .ok (.invokevirtual 70, 3) := by decide +kernel
theorem dX1_open_37 : decode cX1_open 37 = .ok (.invokevirtual 73, 3) := by decide +kernel
theorem dX1_open_40 : decode cX1_open 40 = .ok (.aload_n 0, 1) := by decide +kernel
theorem dX1_open_41 : decode cX1_open 41 = .ok (.invokevirtual 77, 3) := by decide +kernel
theorem dX1_open_44 : decode cX1_open 44 = .ok (.iand, 1) := by decide +kernel
theorem dX1_open_45 : decode cX1_open 45 = .ok (.ireturn, 1) := by decide +kernel
theorem dX1_tidesFor_0 : decode cX1_tidesFor 0 = .ok (.aload_n 0, 1) := by decide +kernel
theorem dX1_tidesFor_1 : decode cX1_tidesFor 1 = .ok (.iconst 1, 1) := by decide +kernel
theorem dX1_tidesFor_2 : decode cX1_tidesFor 2 = .ok (.aload_n 0, 1) := by decide +kernel
theorem dX1_tidesFor_3 : decode cX1_tidesFor 3 = .ok (.getfield 15, 3) := by decide +kernel
theorem dX1_tidesFor_6 : decode cX1_tidesFor 6 = .ok (.bipush 7, 2) := by decide +kernel
theorem dX1_tidesFor_8 : decode cX1_tidesFor 8 = .ok (.iaload, 1) := by decide +kernel
theorem dX1_tidesFor_9 : decode cX1_tidesFor 9 = .ok (.isub, 1) := by decide +kernel
theorem dX1_tidesFor_10 : decode cX1_tidesFor 10 = .ok (.invokevirtual 38, 3) := by decide +kernel
theorem dX1_tidesFor_13 : decode cX1_tidesFor 13 = .ok (.iload_n 1, 1) := by decide +kernel
theorem dX1_tidesFor_14 : decode cX1_tidesFor 14 = .ok (.invokestatic 80, 3) := by decide +kernel
theorem dX1_tidesFor_17 : decode cX1_tidesFor 17 = .ok (.iconst 1, 1) := by decide +kernel
theorem dX1_tidesFor_18 : decode cX1_tidesFor 18 = .ok (.isub, 1) := by decide +kernel
theorem dX1_tidesFor_19 : decode cX1_tidesFor 19 = .ok (.iand, 1) := by decide +kernel
theorem dX1_tidesFor_20 : decode cX1_tidesFor 20 = .ok (.invokestatic 50, 3) := by decide +kernel
theorem dX1_tidesFor_23 : decode cX1_tidesFor 23 = .ok (.ireturn, 1) := by decide +kernel
theorem dX1_cast_0 : decode cX1_cast 0 = .ok (.aload_n 0, 1) := by decide +kernel
theorem dX1_cast_1 : decode cX1_cast 1 = .ok (.invokevirtual 83, 3) := by decide +kernel
theorem dX1_cast_4 : decode cX1_cast 4 = .ok (.aload_n 0, 1) := by decide +kernel
theorem dX1_cast_5 : decode cX1_cast 5 = .ok (.getfield 15, 3) := by decide +kernel
theorem dX1_cast_8 : decode cX1_cast 8 = .ok (.bipush 8, 2) := by decide +kernel
theorem dX1_cast_10 : decode cX1_cast 10 = .ok (.iload_n 1, 1) := by decide +kernel
theorem dX1_cast_11 : decode cX1_cast 11 = .ok (.iload_n 2, 1) := by decide +kernel
theorem dX1_cast_12 : decode cX1_cast 12 = .ok (.iload_n 3, 1) := by decide +kernel
theorem dX1_cast_13 : decode cX1_cast 13 = .ok (.invokestatic 86, 3) := by decide +kernel
theorem dX1_cast_16 : decode cX1_cast 16 = .ok (.iastore, 1) := by decide +kernel
theorem dX1_cast_17 : decode cX1_cast 17 = .ok (.iload_n 1, 1) := by decide +kernel
theorem dX1_cast_18 : decode cX1_cast 18 = .ok (.iload_n 2, 1) := by decide +kernel
theorem dX1_cast_19 : decode cX1_cast 19 = .ok (.iload_n 3, 1) := by decide +kernel
theorem dX1_cast_20 : decode cX1_cast 20 = .ok (.invokestatic 92, 3) := by decide +kernel
theorem dX1_cast_23 : decode cX1_cast 23 = .ok (.istore 4, 2) := by decide +kernel
theorem dX1_cast_25 : decode cX1_cast 25 = .ok (.iload 4, 2) := by decide +kernel
theorem dX1_cast_27 : decode cX1_cast 27 = .ok (.iconst 1, 1) := by decide +kernel
theorem dX1_cast_28 : decode cX1_cast 28 = .ok (.if_icmp .ne 22, 3) := by decide +kernel
theorem dX1_cast_31 : decode cX1_cast 31 = .ok (.aload_n 0, 1) := by decide +kernel
theorem dX1_cast_32 : decode cX1_cast 32 = .ok (.getfield 15, 3) := by decide +kernel
theorem dX1_cast_35 : decode cX1_cast 35 = .ok (.bipush 6, 2) := by decide +kernel
theorem dX1_cast_37 : decode cX1_cast 37 = .ok (.iconst 1, 1) := by decide +kernel
theorem dX1_cast_38 : decode cX1_cast 38 = .ok (.aload_n 0, 1) := by decide +kernel
theorem dX1_cast_39 : decode cX1_cast 39 = .ok (.getfield 15, 3) := by decide +kernel
theorem dX1_cast_42 : decode cX1_cast 42 = .ok (.bipush 6, 2) := by decide +kernel
theorem dX1_cast_44 : decode cX1_cast 44 = .ok (.iaload, 1) := by decide +kernel
theorem dX1_cast_45 : decode cX1_cast 45 = .ok (.isub, 1) := by decide +kernel
theorem dX1_cast_46 : decode cX1_cast 46 = .ok (.iastore, 1) := by decide +kernel
theorem dX1_cast_47 : decode cX1_cast 47 = .ok (.goto 24, 3) := by decide +kernel
theorem dX1_cast_50 : decode cX1_cast 50 = .ok (.iload 4, 2) := by decide +kernel
theorem dX1_cast_52 : decode cX1_cast 52 = .ok (.iconst 3, 1) := by decide +kernel
theorem dX1_cast_53 : decode cX1_cast 53 = .ok (.if_icmp .ne 18, 3) := by decide +kernel
theorem dX1_cast_56 : decode cX1_cast 56 = .ok (.aload_n 0, 1) := by decide +kernel
theorem dX1_cast_57 : decode cX1_cast 57 = .ok (.getfield 15, 3) := by decide +kernel
theorem dX1_cast_60 : decode cX1_cast 60 = .ok (.iconst 4, 1) := by decide +kernel
theorem dX1_cast_61 : decode cX1_cast 61 = .ok (.aload_n 0, 1) := by decide +kernel
theorem dX1_cast_62 : decode cX1_cast 62 = .ok (.getfield 15, 3) := by decide +kernel
theorem dX1_cast_65 : decode cX1_cast 65 = .ok (.bipush 7, 2) := by decide +kernel
theorem dX1_cast_67 : decode cX1_cast 67 = .ok (.iaload, 1) := by decide +kernel
theorem dX1_cast_68 : decode cX1_cast 68 = .ok (.iadd, 1) := by decide +kernel
theorem dX1_cast_69 : decode cX1_cast 69 = .ok (.iconst 1, 1) := by decide +kernel
theorem dX1_cast_70 : decode cX1_cast 70 = .ok (.iastore, 1) := by decide +kernel
theorem dX1_cast_71 : decode cX1_cast 71 = .ok (.return_, 1) := by decide +kernel
theorem dX1_take_0 : decode cX1_take 0 = .ok (.aload_n 0, 1) := by decide +kernel
theorem dX1_take_1 : decode cX1_take 1 = .ok (.invokevirtual 83, 3) := by decide +kernel
theorem dX1_take_4 : decode cX1_take 4 = .ok (.aload_n 0, 1) := by decide +kernel
theorem dX1_take_5 : decode cX1_take 5 = .ok (.iload_n 1, 1) := by decide +kernel
theorem dX1_take_6 : decode cX1_take 6 = .ok (.invokevirtual 95, 3) := by decide +kernel
theorem dX1_take_9 : decode cX1_take 9 = .ok (.istore_n 2, 1) := by decide +kernel
theorem dX1_take_10 : decode cX1_take 10 = .ok (.aload_n 0, 1) := by decide +kernel
theorem dX1_take_11 : decode cX1_take 11 = .ok (.getfield 15, 3) := by decide +kernel
theorem dX1_take_14 : decode cX1_take 14 = .ok (.iconst 0, 1) := by decide +kernel
theorem dX1_take_15 : decode cX1_take 15 = .ok (.aload_n 0, 1) := by decide +kernel
theorem dX1_take_16 : decode cX1_take 16 = .ok (.getfield 15, 3) := by decide +kernel
theorem dX1_take_19 : decode cX1_take 19 = .ok (.bipush 7, 2) := by decide +kernel
theorem dX1_take_21 : decode cX1_take 21 = .ok (.iaload, 1) := by decide +kernel
theorem dX1_take_22 : decode cX1_take 22 = .ok (.iadd, 1) := by decide +kernel
theorem dX1_take_23 : decode cX1_take 23 = .ok (.dup2, 1) := by decide +kernel
theorem dX1_take_24 : decode cX1_take 24 = .ok (.iaload, 1) := by decide +kernel
theorem dX1_take_25 : decode cX1_take 25 = .ok (.iload_n 1, 1) := by decide +kernel
theorem dX1_take_26 : decode cX1_take 26 = .ok (.invokestatic 80, 3) := by decide +kernel
theorem dX1_take_29 : decode cX1_take 29 = .ok (.ior, 1) := by decide +kernel
theorem dX1_take_30 : decode cX1_take 30 = .ok (.iastore, 1) := by decide +kernel
theorem dX1_take_31 : decode cX1_take 31 = .ok (.aload_n 0, 1) := by decide +kernel
theorem dX1_take_32 : decode cX1_take 32 = .ok (.iconst 1, 1) := by decide +kernel
theorem dX1_take_33 : decode cX1_take 33 = .ok (.aload_n 0, 1) := by decide +kernel
theorem dX1_take_34 : decode cX1_take 34 = .ok (.getfield 15, 3) := by decide +kernel
theorem dX1_take_37 : decode cX1_take 37 = .ok (.bipush 7, 2) := by decide +kernel
theorem dX1_take_39 : decode cX1_take 39 = .ok (.iaload, 1) := by decide +kernel
theorem dX1_take_40 : decode cX1_take 40 = .ok (.isub, 1) := by decide +kernel
theorem dX1_take_41 : decode cX1_take 41 = .ok (.iload_n 2, 1) := by decide +kernel
theorem dX1_take_42 : decode cX1_take 42 = .ok (.invokevirtual 98, 3) := by decide +kernel
theorem dX1_take_45 : decode cX1_take 45 = .ok (.aload_n 0, 1) := by decide +kernel
theorem dX1_take_46 : decode cX1_take 46 = .ok (.getfield 15, 3) := by decide +kernel
theorem dX1_take_49 : decode cX1_take 49 = .ok (.bipush 8, 2) := by decide +kernel
theorem dX1_take_51 : decode cX1_take 51 = .ok (.bipush (-9), 2) := by decide +kernel
theorem dX1_take_53 : decode cX1_take 53 = .ok (.iastore, 1) := by decide +kernel
theorem dX1_take_54 : decode cX1_take 54 = .ok (.aload_n 0, 1) := by decide +kernel
theorem dX1_take_55 : decode cX1_take 55 = .ok (.invokevirtual 102, 3) := by decide +kernel
theorem dX1_take_58 : decode cX1_take 58 = .ok (.iload_n 2, 1) := by decide +kernel
theorem dX1_take_59 : decode cX1_take 59 = .ok (.ireturn, 1) := by decide +kernel
theorem dX1_pass_0 : decode cX1_pass 0 = .ok (.aload_n 0, 1) := by decide +kernel
theorem dX1_pass_1 : decode cX1_pass 1 = .ok (.invokevirtual 83, 3) := by decide +kernel
theorem dX1_pass_4 : decode cX1_pass 4 = .ok (.aload_n 0, 1) := by decide +kernel
theorem dX1_pass_5 : decode cX1_pass 5 = .ok (.getfield 15, 3) := by decide +kernel
theorem dX1_pass_8 : decode cX1_pass 8 = .ok (.bipush 8, 2) := by decide +kernel
theorem dX1_pass_10 : decode cX1_pass 10 = .ok (.bipush (-9), 2) := by decide +kernel
theorem dX1_pass_12 : decode cX1_pass 12 = .ok (.iastore, 1) := by decide +kernel
theorem dX1_pass_13 : decode cX1_pass 13 = .ok (.aload_n 0, 1) := by decide +kernel
theorem dX1_pass_14 : decode cX1_pass 14 = .ok (.invokevirtual 102, 3) := by decide +kernel
theorem dX1_pass_17 : decode cX1_pass 17 = .ok (.return_, 1) := by decide +kernel
theorem dX1_leave_0 : decode cX1_leave 0 = .ok (.aload_n 0, 1) := by decide +kernel
theorem dX1_leave_1 : decode cX1_leave 1 = .ok (.invokevirtual 83, 3) := by decide +kernel
theorem dX1_leave_4 : decode cX1_leave 4 = .ok (.aload_n 0, 1) := by decide +kernel
theorem dX1_leave_5 : decode cX1_leave 5 = .ok (.iconst 1, 1) := by decide +kernel
theorem dX1_leave_6 : decode cX1_leave 6 = .ok (.aload_n 0, 1) := by decide +kernel
theorem dX1_leave_7 : decode cX1_leave 7 = .ok (.getfield 15, 3) := by decide +kernel
theorem dX1_leave_10 : decode cX1_leave 10 = .ok (.bipush 7, 2) := by decide +kernel
theorem dX1_leave_12 : decode cX1_leave 12 = .ok (.iaload, 1) := by decide +kernel
theorem dX1_leave_13 : decode cX1_leave 13 = .ok (.isub, 1) := by decide +kernel
theorem dX1_leave_14 : decode cX1_leave 14 = .ok (.iconst 1, 1) := by decide +kernel
theorem dX1_leave_15 : decode cX1_leave 15 = .ok (.invokevirtual 98, 3) := by decide +kernel
theorem dX1_leave_18 : decode cX1_leave 18 = .ok (.aload_n 0, 1) := by decide +kernel
theorem dX1_leave_19 : decode cX1_leave 19 = .ok (.invokevirtual 102, 3) := by decide +kernel
theorem dX1_leave_22 : decode cX1_leave 22 = .ok (.return_, 1) := by decide +kernel
theorem dX1_giveTides_0 : decode cX1_giveTides 0 = .ok (.aload_n 0, 1) := by decide +kernel
theorem dX1_giveTides_1 : decode cX1_giveTides 1 = .ok (.getfield 15, 3) := by decide +kernel
theorem dX1_giveTides_4 : decode cX1_giveTides 4 = .ok (.iconst 2, 1) := by decide +kernel
theorem dX1_giveTides_5 : decode cX1_giveTides 5 = .ok (.iload_n 1, 1) := by decide +kernel
theorem dX1_giveTides_6 : decode cX1_giveTides 6 = .ok (.iadd, 1) := by decide +kernel
theorem dX1_giveTides_7 : decode cX1_giveTides 7 = .ok (.aload_n 0, 1) := by decide +kernel
theorem dX1_giveTides_8 : decode cX1_giveTides 8 = .ok (.iload_n 1, 1) := by decide +kernel
theorem dX1_giveTides_9 : decode cX1_giveTides 9 = .ok (.invokevirtual 105, 3) := by decide +kernel
theorem dX1_giveTides_12 : decode cX1_giveTides 12 = .ok (.iload_n 2, 1) := by decide +kernel
theorem dX1_giveTides_13 : decode cX1_giveTides 13 = .ok (.iadd, 1) := by decide +kernel
theorem dX1_giveTides_14 : decode cX1_giveTides 14 = .ok (.sipush 999, 3) := by decide +kernel
theorem dX1_giveTides_17 : decode cX1_giveTides 17 = .ok (.invokestatic 108, 3) := by decide +kernel
theorem dX1_giveTides_20 : decode cX1_giveTides 20 = .ok (.iastore, 1) := by decide +kernel
theorem dX1_giveTides_21 : decode cX1_giveTides 21 = .ok (.return_, 1) := by decide +kernel
theorem dX1_endTurn_0 : decode cX1_endTurn 0 = .ok (.aload_n 0, 1) := by decide +kernel
theorem dX1_endTurn_1 : decode cX1_endTurn 1 = .ok (.invokevirtual 60, 3) := by decide +kernel
theorem dX1_endTurn_4 : decode cX1_endTurn 4 = .ok (.bipush (-9), 2) := by decide +kernel
theorem dX1_endTurn_6 : decode cX1_endTurn 6 = .ok (.if_icmp .eq 4, 3) := by decide +kernel
theorem dX1_endTurn_9 : decode cX1_endTurn 9 = .ok (.return_, 1) := by decide +kernel
theorem dX1_endTurn_10 : decode cX1_endTurn 10 = .ok (.iconst 1, 1) := by decide +kernel
theorem dX1_endTurn_11 : decode cX1_endTurn 11 = .ok (.aload_n 0, 1) := by decide +kernel
theorem dX1_endTurn_12 : decode cX1_endTurn 12 = .ok (.getfield 15, 3) := by decide +kernel
theorem dX1_endTurn_15 : decode cX1_endTurn 15 = .ok (.bipush 7, 2) := by decide +kernel
theorem dX1_endTurn_17 : decode cX1_endTurn 17 = .ok (.iaload, 1) := by decide +kernel
theorem dX1_endTurn_18 : decode cX1_endTurn 18 = .ok (.isub, 1) := by decide +kernel
theorem dX1_endTurn_19 : decode cX1_endTurn 19 = .ok (.istore_n 1, 1) := by decide +kernel
theorem dX1_endTurn_20 : decode cX1_endTurn 20 = .ok (.aload_n 0, 1) := by decide +kernel
theorem dX1_endTurn_21 : decode cX1_endTurn 21 = .ok (.iload_n 1, 1) := by decide +kernel
theorem dX1_endTurn_22 : decode cX1_endTurn 22 = .ok (.invokevirtual 114, 3) := by decide +kernel
theorem dX1_endTurn_25 : decode cX1_endTurn 25 = .ok (.ifCond .eq 22, 3) := by decide +kernel
theorem dX1_endTurn_28 : decode cX1_endTurn 28 = .ok (.aload_n 0, 1) := by decide +kernel
theorem dX1_endTurn_29 : decode cX1_endTurn 29 = .ok (.invokevirtual 63, 3) := by decide +kernel
theorem dX1_endTurn_32 : decode cX1_endTurn 32 = .ok (.ifCond .ne 15, 3) := by decide +kernel
theorem dX1_endTurn_35 : decode cX1_endTurn 35 = .ok (.aload_n 0, 1) := by decide +kernel
theorem dX1_endTurn_36 : decode cX1_endTurn 36 = .ok (.getfield 15, 3) := by decide +kernel
theorem dX1_endTurn_39 : decode cX1_endTurn 39 = .ok (.iconst 4, 1) := by decide +kernel
theorem dX1_endTurn_40 : decode cX1_endTurn 40 = .ok (.iload_n 1, 1) := by decide +kernel
theorem dX1_endTurn_41 : decode cX1_endTurn 41 = .ok (.iadd, 1) := by decide +kernel
theorem dX1_endTurn_42 : decode cX1_endTurn 42 = .ok (.iconst 0, 1) := by decide +kernel
theorem dX1_endTurn_43 : decode cX1_endTurn 43 = .ok (.iastore, 1) := by decide +kernel
theorem dX1_endTurn_44 : decode cX1_endTurn 44 = .ok (.goto 11, 3) := by decide +kernel
theorem dX1_endTurn_47 : decode cX1_endTurn 47 = .ok (.aload_n 0, 1) := by decide +kernel
theorem dX1_endTurn_48 : decode cX1_endTurn 48 = .ok (.getfield 15, 3) := by decide +kernel
theorem dX1_endTurn_51 : decode cX1_endTurn 51 = .ok (.bipush 7, 2) := by decide +kernel
theorem dX1_endTurn_53 : decode cX1_endTurn 53 = .ok (.iload_n 1, 1) := by decide +kernel
theorem dX1_endTurn_54 : decode cX1_endTurn 54 = .ok (.iastore, 1) := by decide +kernel
theorem dX1_endTurn_55 : decode cX1_endTurn 55 = .ok (.return_, 1) := by decide +kernel
theorem dX2_init_0 : decode cX2_init 0 = .ok (.aload_n 0, 1) := by decide +kernel
theorem dX2_init_1 : decode cX2_init 1 = .ok (.invokespecial 3, 3) := by decide +kernel
theorem dX2_init_4 : decode cX2_init 4 = .ok (.aload_n 0, 1) := by decide +kernel
theorem dX2_init_5 : decode cX2_init 5 = .ok (.new 9, 3) := by decide +kernel
theorem dX2_init_8 : decode cX2_init 8 = .ok (.dup, 1) := by decide +kernel
theorem dX2_init_9 : decode cX2_init 9 = .ok (.invokespecial 11, 3) := by decide +kernel
theorem dX2_init_12 : decode cX2_init 12 = .ok (.putfield 12, 3) := by decide +kernel
theorem dX2_init_15 : decode cX2_init 15 = .ok (.aload_n 0, 1) := by decide +kernel
theorem dX2_init_16 : decode cX2_init 16 = .ok (.iconst 0, 1) := by decide +kernel
theorem dX2_init_17 : decode cX2_init 17 = .ok (.newarray .char, 2) := by decide +kernel
theorem dX2_init_19 : decode cX2_init 19 = .ok (.putfield 18, 3) := by decide +kernel
theorem dX2_init_22 : decode cX2_init 22 = .ok (.return_, 1) := by decide +kernel
theorem dX2_readItems_0 : decode cX2_readItems 0 = .ok (.aload_n 0, 1) := by decide +kernel
theorem dX2_readItems_1 : decode cX2_readItems 1 = .ok (.aload_n 1, 1) := by decide +kernel
theorem dX2_readItems_2 : decode cX2_readItems 2 = .ok (.putfield 18, 3) := by decide +kernel
theorem dX2_readItems_5 : decode cX2_readItems 5 = .ok (.aload_n 0, 1) := by decide +kernel
theorem dX2_readItems_6 : decode cX2_readItems 6 = .ok (.iload_n 2, 1) := by decide +kernel
theorem dX2_readItems_7 : decode cX2_readItems 7 = .ok (.aload_n 1, 1) := by decide +kernel
theorem dX2_readItems_8 : decode cX2_readItems 8 = .ok (.arraylength, 1) := by decide +kernel
theorem dX2_readItems_9 : decode cX2_readItems 9 = .ok (.invokestatic 22, 3) := by decide +kernel
theorem dX2_readItems_12 : decode cX2_readItems 12 = .ok (.putfield 28, 3) := by decide +kernel
theorem dX2_readItems_15 : decode cX2_readItems 15 = .ok (.aload_n 0, 1) := by decide +kernel
theorem dX2_readItems_16 : decode cX2_readItems 16 = .ok (.getfield 12, 3) := by decide +kernel
theorem dX2_readItems_19 : decode cX2_readItems 19 = .ok (.invokevirtual 32, 3) := by decide +kernel
theorem dX2_readItems_22 : decode cX2_readItems 22 = .ok (.aload_n 0, 1) := by decide +kernel
theorem dX2_readItems_23 : decode cX2_readItems 23 = .ok (.bipush (-9), 2) := by decide +kernel
theorem dX2_readItems_25 : decode cX2_readItems 25 = .ok (.putfield 35, 3) := by decide +kernel
theorem dX2_readItems_28 : decode cX2_readItems 28 = .ok (.aload_n 0, 1) := by decide +kernel
theorem dX2_readItems_29 : decode cX2_readItems 29 = .ok (.iconst 0, 1) := by decide +kernel
theorem dX2_readItems_30 : decode cX2_readItems 30 = .ok (.putfield 38, 3) := by decide +kernel
theorem dX2_readItems_33 : decode cX2_readItems 33 = .ok (.aload_n 0, 1) := by decide +kernel
theorem dX2_readItems_34 : decode cX2_readItems 34 = .ok (.iconst 0, 1) := by decide +kernel
theorem dX2_readItems_35 : decode cX2_readItems 35 = .ok (.putfield 41, 3) := by decide +kernel
theorem dX2_readItems_38 : decode cX2_readItems 38 = .ok (.aload_n 0, 1) := by decide +kernel
theorem dX2_readItems_39 : decode cX2_readItems 39 = .ok (.iconst 0, 1) := by decide +kernel
theorem dX2_readItems_40 : decode cX2_readItems 40 = .ok (.putfield 44, 3) := by decide +kernel
theorem dX2_readItems_43 : decode cX2_readItems 43 = .ok (.aload_n 0, 1) := by decide +kernel
theorem dX2_readItems_44 : decode cX2_readItems 44 = .ok (.iconst 0, 1) := by decide +kernel
theorem dX2_readItems_45 : decode cX2_readItems 45 = .ok (.putfield 48, 3) := by decide +kernel
theorem dX2_readItems_48 : decode cX2_readItems 48 = .ok (.aload_n 0, 1) := by decide +kernel
theorem dX2_readItems_49 : decode cX2_readItems 49 = .ok (.invokevirtual 51, 3) := by decide +kernel
theorem dX2_readItems_52 : decode cX2_readItems 52 = .ok (.iconst 0, 1) := by decide +kernel
theorem dX2_readItems_53 : decode cX2_readItems 53 = .ok (.istore_n 3, 1) := by decide +kernel
theorem dX2_readItems_54 : decode cX2_readItems 54 = .ok (.iload_n 3, 1) := by decide +kernel
theorem dX2_readItems_55 : decode cX2_readItems 55 = .ok (.aload_n 0, 1) := by decide +kernel
theorem dX2_readItems_56 : decode cX2_readItems 56 = .ok (.getfield 28, 3) := by decide +kernel
theorem dX2_readItems_59 : decode cX2_readItems 59 = .ok (.if_icmp .ge 29, 3) := by decide +kernel
theorem dX2_readItems_62 : decode cX2_readItems 62 = .ok (.aload_n 0, 1) := by decide +kernel
theorem dX2_readItems_63 : decode cX2_readItems 63 = .ok (.getfield 54, 3) := by decide +kernel
theorem dX2_readItems_66 : decode cX2_readItems 66 = .ok (.ifCond .eq 22, 3) := by decide +kernel
theorem dX2_readItems_69 : decode cX2_readItems 69 = .ok (.aload_n 0, 1) := by decide +kernel
theorem dX2_readItems_70 : decode cX2_readItems 70 = .ok (.getfield 35, 3) := by decide +kernel
theorem dX2_readItems_73 : decode cX2_readItems 73 = .ok (.bipush (-9), 2) := by decide +kernel
theorem dX2_readItems_75 : decode cX2_readItems 75 = .ok (.if_icmp .ne 13, 3) := by decide +kernel
theorem dX2_readItems_78 : decode cX2_readItems 78 = .ok (.aload_n 0, 1) := by decide +kernel
theorem dX2_readItems_79 : decode cX2_readItems 79 = .ok (.invokevirtual 57, 3) := by decide +kernel
theorem dX2_readItems_82 : decode cX2_readItems 82 = .ok (.iinc 3 1, 3) := by decide +kernel
theorem dX2_readItems_85 : decode cX2_readItems 85 = .ok (.goto (-31), 3) := by decide +kernel
theorem dX2_readItems_88 : decode cX2_readItems 88 = .ok (.iload_n 3, 1) := by decide +kernel
theorem dX2_readItems_89 : decode cX2_readItems 89 = .ok (.ireturn, 1) := by decide +kernel
theorem dX2_readItem_0 : decode cX2_readItem 0 = .ok (.aload_n 0, 1) := by decide +kernel
theorem dX2_readItem_1 : decode cX2_readItem 1 = .ok (.getfield 54, 3) := by decide +kernel
theorem dX2_readItem_4 : decode cX2_readItem 4 = .ok (.iconst 1, 1) := by decide +kernel
theorem dX2_readItem_5 : decode cX2_readItem 5 = .ok (.if_icmp .ne 28, 3) := by decide +kernel
theorem dX2_readItem_8 : decode cX2_readItem 8 = .ok (.aload_n 0, 1) := by decide +kernel
theorem dX2_readItem_9 : decode cX2_readItem 9 = .ok (.getfield 38, 3) := by decide +kernel
theorem dX2_readItem_12 : decode cX2_readItem 12 = .ok (.aload_n 0, 1) := by decide +kernel
theorem dX2_readItem_13 : decode cX2_readItem 13 = .ok (.getfield 60, 3) := by decide +kernel
theorem dX2_readItem_16 : decode cX2_readItem 16 = .ok (.isub, 1) := by decide +kernel
theorem dX2_readItem_17 : decode cX2_readItem 17 = .ok (.iconst 1, 1) := by decide +kernel
theorem dX2_readItem_18 : decode cX2_readItem 18 = .ok (.if_icmp .ne 15, 3) := by decide +kernel
theorem dX2_readItem_21 : decode cX2_readItem 21 = .ok (.aload_n 0, 1) := by decide +kernel
theorem dX2_readItem_22 : decode cX2_readItem 22 = .ok (.getfield 18, 3) := by decide +kernel
theorem dX2_readItem_25 : decode cX2_readItem 25 = .ok (.aload_n 0, 1) := by decide +kernel
theorem dX2_readItem_26 : decode cX2_readItem 26 = .ok (.getfield 60, 3) := by decide +kernel
theorem dX2_readItem_29 : decode cX2_readItem 29 = .ok (.caload, 1) := by decide +kernel
theorem dX2_readItem_30 : decode cX2_readItem 30 = .ok (.goto 5, 3) := by decide +kernel
theorem dX2_readItem_33 : decode cX2_readItem 33 = .ok (.bipush 32, 2) := by decide +kernel
theorem dX2_readItem_35 : decode cX2_readItem 35 = .ok (.istore_n 1, 1) := by decide +kernel
theorem dX2_readItem_36 : decode cX2_readItem 36 = .ok (.iload_n 1, 1) := by decide +kernel
theorem dX2_readItem_37 : decode cX2_readItem 37 = .ok (.bipush 100, 2) := by decide +kernel
theorem dX2_readItem_39 : decode cX2_readItem 39 = .ok (.if_icmp .ne 18, 3) := by decide +kernel
theorem dX2_readItem_42 : decode cX2_readItem 42 = .ok (.aload_n 0, 1) := by decide +kernel
theorem dX2_readItem_43 : decode cX2_readItem 43 = .ok (.getfield 41, 3) := by decide +kernel
theorem dX2_readItem_46 : decode cX2_readItem 46 = .ok (.iconst 3, 1) := by decide +kernel
theorem dX2_readItem_47 : decode cX2_readItem 47 = .ok (.if_icmp .ge 10, 3) := by decide +kernel
theorem dX2_readItem_50 : decode cX2_readItem 50 = .ok (.aload_n 0, 1) := by decide +kernel
theorem dX2_readItem_51 : decode cX2_readItem 51 = .ok (.invokevirtual 63, 3) := by decide +kernel
theorem dX2_readItem_54 : decode cX2_readItem 54 = .ok (.goto 78, 3) := by decide +kernel
theorem dX2_readItem_57 : decode cX2_readItem 57 = .ok (.iload_n 1, 1) := by decide +kernel
theorem dX2_readItem_58 : decode cX2_readItem 58 = .ok (.bipush 98, 2) := by decide +kernel
theorem dX2_readItem_60 : decode cX2_readItem 60 = .ok (.if_icmp .ne 32, 3) := by decide +kernel
theorem dX2_readItem_63 : decode cX2_readItem 63 = .ok (.aload_n 0, 1) := by decide +kernel
theorem dX2_readItem_64 : decode cX2_readItem 64 = .ok (.getfield 44, 3) := by decide +kernel
theorem dX2_readItem_67 : decode cX2_readItem 67 = .ok (.ifCond .ne 25, 3) := by decide +kernel
theorem dX2_readItem_70 : decode cX2_readItem 70 = .ok (.aload_n 0, 1) := by decide +kernel
theorem dX2_readItem_71 : decode cX2_readItem 71 = .ok (.iconst 1, 1) := by decide +kernel
theorem dX2_readItem_72 : decode cX2_readItem 72 = .ok (.putfield 44, 3) := by decide +kernel
theorem dX2_readItem_75 : decode cX2_readItem 75 = .ok (.aload_n 0, 1) := by decide +kernel
theorem dX2_readItem_76 : decode cX2_readItem 76 = .ok (.getfield 12, 3) := by decide +kernel
theorem dX2_readItem_79 : decode cX2_readItem 79 = .ok (.aload_n 0, 1) := by decide +kernel
theorem dX2_readItem_80 : decode cX2_readItem 80 = .ok (.iconst 3, 1) := by decide +kernel
theorem dX2_readItem_81 : decode cX2_readItem 81 = .ok (.bipush 18, 2) := by decide +kernel
theorem dX2_readItem_83 : decode cX2_readItem 83 = .ok (.invokevirtual 66, 3) := by decide +kernel
theorem dX2_readItem_86 : decode cX2_readItem 86 = .ok (.putfield 69, 3) := by decide +kernel
theorem dX2_readItem_89 : decode cX2_readItem 89 = .ok (.goto 43, 3) := by decide +kernel
theorem dX2_readItem_92 : decode cX2_readItem 92 = .ok (.iload_n 1, 1) := by decide +kernel
theorem dX2_readItem_93 : decode cX2_readItem 93 = .ok (.bipush 103, 2) := by decide +kernel
theorem dX2_readItem_95 : decode cX2_readItem 95 = .ok (.if_icmp .ne 32, 3) := by decide +kernel
theorem dX2_readItem_98 : decode cX2_readItem 98 = .ok (.aload_n 0, 1) := by decide +kernel
theorem dX2_readItem_99 : decode cX2_readItem 99 = .ok (.getfield 48, 3) := by decide +kernel
theorem dX2_readItem_102 : decode cX2_readItem 102 = .ok (.ifCond .ne 25, 3) := by decide +kernel
theorem dX2_readItem_105 : decode cX2_readItem 105 = .ok (.aload_n 0, 1) := by decide +kernel
theorem dX2_readItem_106 : decode cX2_readItem 106 = .ok (.iconst 1, 1) := by decide +kernel
theorem dX2_readItem_107 : decode cX2_readItem 107 = .ok (.putfield 48, 3) := by decide +kernel
theorem dX2_readItem_110 : decode cX2_readItem 110 = .ok (.aload_n 0, 1) := by decide +kernel
theorem dX2_readItem_111 : decode cX2_readItem 111 = .ok (.getfield 12, 3) := by decide +kernel
theorem dX2_readItem_114 : decode cX2_readItem 114 = .ok (.aload_n 0, 1) := by decide +kernel
theorem dX2_readItem_115 : decode cX2_readItem 115 = .ok (.iconst 1, 1) := by decide +kernel
theorem dX2_readItem_116 : decode cX2_readItem 116 = .ok (.bipush 9, 2) := by decide +kernel
theorem dX2_readItem_118 : decode cX2_readItem 118 = .ok (.invokevirtual 66, 3) := by decide +kernel
theorem dX2_readItem_121 : decode cX2_readItem 121 = .ok (.putfield 72, 3) := by decide +kernel
theorem dX2_readItem_124 : decode cX2_readItem 124 = .ok (.goto 8, 3) := by decide +kernel
theorem dX2_readItem_127 : decode cX2_readItem 127 = .ok (.aload_n 0, 1) := by decide +kernel
theorem dX2_readItem_128 : decode cX2_readItem 128 = .ok (.invokevirtual 75, 3) := by decide +kernel
theorem dX2_readItem_131 : decode cX2_readItem 131 = .ok (.return_, 1) := by decide +kernel
theorem dX2_readItem_132 : decode cX2_readItem 132 = .ok (.aload_n 0, 1) := by decide +kernel
theorem dX2_readItem_133 : decode cX2_readItem 133 = .ok (.invokevirtual 78, 3) := by decide +kernel
theorem dX2_readItem_136 : decode cX2_readItem 136 = .ok (.return_, 1) := by decide +kernel
theorem dX2_readDie_0 : decode cX2_readDie 0 = .ok (.aload_n 0, 1) := by decide +kernel
theorem dX2_readDie_1 : decode cX2_readDie 1 = .ok (.invokevirtual 51, 3) := by decide +kernel
theorem dX2_readDie_4 : decode cX2_readDie 4 = .ok (.iconst 0, 1) := by decide +kernel
theorem dX2_readDie_5 : decode cX2_readDie 5 = .ok (.istore_n 1, 1) := by decide +kernel
theorem dX2_readDie_6 : decode cX2_readDie 6 = .ok (.iload_n 1, 1) := by decide +kernel
theorem dX2_readDie_7 : decode cX2_readDie 7 = .ok (.bipush 6, 2) := by decide +kernel
theorem dX2_readDie_9 : decode cX2_readDie 9 = .ok (.if_icmp .ge 44, 3) := by decide +kernel
theorem dX2_readDie_12 : decode cX2_readDie 12 = .ok (.aload_n 0, 1) := by decide +kernel
theorem dX2_readDie_13 : decode cX2_readDie 13 = .ok (.iconst 1, 1) := by decide +kernel
theorem dX2_readDie_14 : decode cX2_readDie 14 = .ok (.bipush 9, 2) := by decide +kernel
theorem dX2_readDie_16 : decode cX2_readDie 16 = .ok (.invokevirtual 81, 3) := by decide +kernel
theorem dX2_readDie_19 : decode cX2_readDie 19 = .ok (.ifCond .eq 34, 3) := by decide +kernel
theorem dX2_readDie_22 : decode cX2_readDie 22 = .ok (.aload_n 0, 1) := by decide +kernel
theorem dX2_readDie_23 : decode cX2_readDie 23 = .ok (.getfield 12, 3) := by decide +kernel
theorem dX2_readDie_26 : decode cX2_readDie 26 = .ok (.getfield 85, 3) := by decide +kernel
theorem dX2_readDie_29 : decode cX2_readDie 29 = .ok (.aload_n 0, 1) := by decide +kernel
theorem dX2_readDie_30 : decode cX2_readDie 30 = .ok (.getfield 41, 3) := by decide +kernel
theorem dX2_readDie_33 : decode cX2_readDie 33 = .ok (.bipush 6, 2) := by decide +kernel
theorem dX2_readDie_35 : decode cX2_readDie 35 = .ok (.imul, 1) := by decide +kernel
theorem dX2_readDie_36 : decode cX2_readDie 36 = .ok (.iload_n 1, 1) := by decide +kernel
theorem dX2_readDie_37 : decode cX2_readDie 37 = .ok (.iadd, 1) := by decide +kernel
theorem dX2_readDie_38 : decode cX2_readDie 38 = .ok (.aload_n 0, 1) := by decide +kernel
theorem dX2_readDie_39 : decode cX2_readDie 39 = .ok (.getfield 89, 3) := by decide +kernel
theorem dX2_readDie_42 : decode cX2_readDie 42 = .ok (.iastore, 1) := by decide +kernel
theorem dX2_readDie_43 : decode cX2_readDie 43 = .ok (.aload_n 0, 1) := by decide +kernel
theorem dX2_readDie_44 : decode cX2_readDie 44 = .ok (.invokevirtual 51, 3) := by decide +kernel
theorem dX2_readDie_47 : decode cX2_readDie 47 = .ok (.iinc 1 1, 3) := by decide +kernel
theorem dX2_readDie_50 : decode cX2_readDie 50 = .ok (.goto (-44), 3) := by decide +kernel
theorem dX2_readDie_53 : decode cX2_readDie 53 = .ok (.iload_n 1, 1) := by decide +kernel
theorem dX2_readDie_54 : decode cX2_readDie 54 = .ok (.ifCond .ne 7, 3) := by decide +kernel
theorem dX2_readDie_57 : decode cX2_readDie 57 = .ok (.aload_n 0, 1) := by decide +kernel
theorem dX2_readDie_58 : decode cX2_readDie 58 = .ok (.invokevirtual 75, 3) := by decide +kernel
theorem dX2_readDie_61 : decode cX2_readDie 61 = .ok (.aload_n 0, 1) := by decide +kernel
theorem dX2_readDie_62 : decode cX2_readDie 62 = .ok (.getfield 12, 3) := by decide +kernel
theorem dX2_readDie_65 : decode cX2_readDie 65 = .ok (.getfield 92, 3) := by decide +kernel
theorem dX2_readDie_68 : decode cX2_readDie 68 = .ok (.aload_n 0, 1) := by decide +kernel
theorem dX2_readDie_69 : decode cX2_readDie 69 = .ok (.getfield 41, 3) := by decide +kernel
theorem dX2_readDie_72 : decode cX2_readDie 72 = .ok (.iload_n 1, 1) := by decide +kernel
theorem dX2_readDie_73 : decode cX2_readDie 73 = .ok (.iastore, 1) := by decide +kernel
theorem dX2_readDie_74 : decode cX2_readDie 74 = .ok (.aload_n 0, 1) := by decide +kernel
theorem dX2_readDie_75 : decode cX2_readDie 75 = .ok (.dup, 1) := by decide +kernel
theorem dX2_readDie_76 : decode cX2_readDie 76 = .ok (.getfield 41, 3) := by decide +kernel
theorem dX2_readDie_79 : decode cX2_readDie 79 = .ok (.iconst 1, 1) := by decide +kernel
theorem dX2_readDie_80 : decode cX2_readDie 80 = .ok (.iadd, 1) := by decide +kernel
theorem dX2_readDie_81 : decode cX2_readDie 81 = .ok (.putfield 41, 3) := by decide +kernel
theorem dX2_readDie_84 : decode cX2_readDie 84 = .ok (.return_, 1) := by decide +kernel
theorem dX2_readNumber_0 : decode cX2_readNumber 0 = .ok (.aload_n 0, 1) := by decide +kernel
theorem dX2_readNumber_1 : decode cX2_readNumber 1 = .ok (.invokevirtual 51, 3) := by decide +kernel
theorem dX2_readNumber_4 : decode cX2_readNumber 4 = .ok (.aload_n 0, 1) := by decide +kernel
theorem dX2_readNumber_5 : decode cX2_readNumber 5 = .ok (.iload_n 1, 1) := by decide +kernel
theorem dX2_readNumber_6 : decode cX2_readNumber 6 = .ok (.iload_n 2, 1) := by decide +kernel
theorem dX2_readNumber_7 : decode cX2_readNumber 7 = .ok (.invokevirtual 81, 3) := by decide +kernel
theorem dX2_readNumber_10 : decode cX2_readNumber 10 = .ok (.ifCond .ne 9, 3) := by decide +kernel
theorem dX2_readNumber_13 : decode cX2_readNumber 13 = .ok (.aload_n 0, 1) := by decide +kernel
theorem dX2_readNumber_14 : decode cX2_readNumber 14 = .ok (.invokevirtual 75, 3) := by decide +kernel
theorem dX2_readNumber_17 : decode cX2_readNumber 17 = .ok (.iload_n 1, 1) := by decide +kernel
theorem dX2_readNumber_18 : decode cX2_readNumber 18 = .ok (.ireturn, 1) := by decide +kernel
theorem dX2_readNumber_19 : decode cX2_readNumber 19 = .ok (.aload_n 0, 1) := by decide +kernel
theorem dX2_readNumber_20 : decode cX2_readNumber 20 = .ok (.getfield 89, 3) := by decide +kernel
theorem dX2_readNumber_23 : decode cX2_readNumber 23 = .ok (.istore_n 3, 1) := by decide +kernel
theorem dX2_readNumber_24 : decode cX2_readNumber 24 = .ok (.aload_n 0, 1) := by decide +kernel
theorem dX2_readNumber_25 : decode cX2_readNumber 25 = .ok (.invokevirtual 51, 3) := by decide +kernel
theorem dX2_readNumber_28 : decode cX2_readNumber 28 = .ok (.iload_n 3, 1) := by decide +kernel
theorem dX2_readNumber_29 : decode cX2_readNumber 29 = .ok (.ireturn, 1) := by decide +kernel
theorem dX2_readStop_0 : decode cX2_readStop 0 = .ok (.aload_n 0, 1) := by decide +kernel
theorem dX2_readStop_1 : decode cX2_readStop 1 = .ok (.getfield 54, 3) := by decide +kernel
theorem dX2_readStop_4 : decode cX2_readStop 4 = .ok (.iconst 3, 1) := by decide +kernel
theorem dX2_readStop_5 : decode cX2_readStop 5 = .ok (.if_icmp .ne 10, 3) := by decide +kernel
theorem dX2_readStop_8 : decode cX2_readStop 8 = .ok (.aload_n 0, 1) := by decide +kernel
theorem dX2_readStop_9 : decode cX2_readStop 9 = .ok (.invokevirtual 51, 3) := by decide +kernel
theorem dX2_readStop_12 : decode cX2_readStop 12 = .ok (.goto 7, 3) := by decide +kernel
theorem dX2_readStop_15 : decode cX2_readStop 15 = .ok (.aload_n 0, 1) := by decide +kernel
theorem dX2_readStop_16 : decode cX2_readStop 16 = .ok (.invokevirtual 75, 3) := by decide +kernel
theorem dX2_readStop_19 : decode cX2_readStop 19 = .ok (.return_, 1) := by decide +kernel
theorem dX2_isNumber_0 : decode cX2_isNumber 0 = .ok (.aload_n 0, 1) := by decide +kernel
theorem dX2_isNumber_1 : decode cX2_isNumber 1 = .ok (.getfield 54, 3) := by decide +kernel
theorem dX2_isNumber_4 : decode cX2_isNumber 4 = .ok (.iconst 2, 1) := by decide +kernel
theorem dX2_isNumber_5 : decode cX2_isNumber 5 = .ok (.if_icmp .ne 23, 3) := by decide +kernel
theorem dX2_isNumber_8 : decode cX2_isNumber 8 = .ok (.aload_n 0, 1) := by decide +kernel
theorem dX2_isNumber_9 : decode cX2_isNumber 9 = .ok (.getfield 89, 3) := by decide +kernel
theorem dX2_isNumber_12 : decode cX2_isNumber 12 = .ok (.iload_n 1, 1) := by decide +kernel
theorem dX2_isNumber_13 : decode cX2_isNumber 13 = .ok (.if_icmp .lt 15, 3) := by decide +kernel
theorem dX2_isNumber_16 : decode cX2_isNumber 16 = .ok (.aload_n 0, 1) := by decide +kernel
theorem dX2_isNumber_17 : decode cX2_isNumber 17 = .ok (.getfield 89, 3) := by decide +kernel
theorem dX2_isNumber_20 : decode cX2_isNumber 20 = .ok (.iload_n 2, 1) := by decide +kernel
theorem dX2_isNumber_21 : decode cX2_isNumber 21 = .ok (.if_icmp .gt 7, 3) := by decide +kernel
theorem dX2_isNumber_24 : decode cX2_isNumber 24 = .ok (.iconst 1, 1) := by decide +kernel
theorem dX2_isNumber_25 : decode cX2_isNumber 25 = .ok (.goto 4, 3) := by decide +kernel
theorem dX2_isNumber_28 : decode cX2_isNumber 28 = .ok (.iconst 0, 1) := by decide +kernel
theorem dX2_isNumber_29 : decode cX2_isNumber 29 = .ok (.ireturn, 1) := by decide +kernel
theorem dX2_refuse_0 : decode cX2_refuse 0 = .ok (.aload_n 0, 1) := by decide +kernel
theorem dX2_refuse_1 : decode cX2_refuse 1 = .ok (.getfield 35, 3) := by decide +kernel
theorem dX2_refuse_4 : decode cX2_refuse 4 = .ok (.bipush (-9), 2) := by decide +kernel
theorem dX2_refuse_6 : decode cX2_refuse 6 = .ok (.if_icmp .ne 11, 3) := by decide +kernel
theorem dX2_refuse_9 : decode cX2_refuse 9 = .ok (.aload_n 0, 1) := by decide +kernel
theorem dX2_refuse_10 : decode cX2_refuse 10 = .ok (.aload_n 0, 1) := by decide +kernel
theorem dX2_refuse_11 : decode cX2_refuse 11 = .ok (.getfield 60, 3) := by decide +kernel
theorem dX2_refuse_14 : decode cX2_refuse 14 = .ok (.putfield 35, 3) := by decide +kernel
theorem dX2_refuse_17 : decode cX2_refuse 17 = .ok (.return_, 1) := by decide +kernel
theorem dX2_advance_0 : decode cX2_advance 0 = .ok (.aload_n 0, 1) := by decide +kernel
theorem dX2_advance_1 : decode cX2_advance 1 = .ok (.aload_n 0, 1) := by decide +kernel
theorem dX2_advance_2 : decode cX2_advance 2 = .ok (.getfield 38, 3) := by decide +kernel
theorem dX2_advance_5 : decode cX2_advance 5 = .ok (.putfield 60, 3) := by decide +kernel
theorem dX2_advance_8 : decode cX2_advance 8 = .ok (.aload_n 0, 1) := by decide +kernel
theorem dX2_advance_9 : decode cX2_advance 9 = .ok (.getfield 60, 3) := by decide +kernel
theorem dX2_advance_12 : decode cX2_advance 12 = .ok (.aload_n 0, 1) := by decide +kernel
theorem dX2_advance_13 : decode cX2_advance 13 = .ok (.getfield 28, 3) := by decide +kernel
theorem dX2_advance_16 : decode cX2_advance 16 = .ok (.if_icmp .ge 30, 3) := by decide +kernel
theorem dX2_advance_19 : decode cX2_advance 19 = .ok (.aload_n 0, 1) := by decide +kernel
theorem dX2_advance_20 : decode cX2_advance 20 = .ok (.getfield 18, 3) := by decide +kernel
theorem dX2_advance_23 : decode cX2_advance 23 = .ok (.aload_n 0, 1) := by decide +kernel
theorem dX2_advance_24 : decode cX2_advance 24 = .ok (.getfield 60, 3) := by decide +kernel
theorem dX2_advance_27 : decode cX2_advance 27 = .ok (.caload, 1) := by decide +kernel
theorem dX2_advance_28 : decode cX2_advance 28 = .ok (.bipush 32, 2) := by decide +kernel
theorem dX2_advance_30 : decode cX2_advance 30 = .ok (.if_icmp .ne 16, 3) := by decide +kernel
theorem dX2_advance_33 : decode cX2_advance 33 = .ok (.aload_n 0, 1) := by decide +kernel
theorem dX2_advance_34 : decode cX2_advance 34 = .ok (.dup, 1) := by decide +kernel
theorem dX2_advance_35 : decode cX2_advance 35 = .ok (.getfield 60, 3) := by decide +kernel
theorem dX2_advance_38 : decode cX2_advance 38 = .ok (.iconst 1, 1) := by decide +kernel
theorem dX2_advance_39 : decode cX2_advance 39 = .ok (.iadd, 1) := by decide +kernel
theorem dX2_advance_40 : decode cX2_advance 40 = .ok (.putfield 60, 3) := by decide +kernel
theorem dX2_advance_43 : decode cX2_advance 43 = .ok (.goto (-35), 3) := by decide +kernel
theorem dX2_advance_46 : decode cX2_advance 46 = .ok (.aload_n 0, 1) := by decide +kernel
theorem dX2_advance_47 : decode cX2_advance 47 = .ok (.getfield 60, 3) := by decide +kernel
theorem dX2_advance_50 : decode cX2_advance 50 = .ok (.aload_n 0, 1) := by decide +kernel
theorem dX2_advance_51 : decode cX2_advance 51 = .ok (.getfield 28, 3) := by decide +kernel
theorem dX2_advance_54 : decode cX2_advance 54 = .ok (.if_icmp .lt 19, 3) := by decide +kernel
theorem dX2_advance_57 : decode cX2_advance 57 = .ok (.aload_n 0, 1) := by decide +kernel
theorem dX2_advance_58 : decode cX2_advance 58 = .ok (.iconst 0, 1) := by decide +kernel
theorem dX2_advance_59 : decode cX2_advance 59 = .ok (.putfield 54, 3) := by decide +kernel
theorem dX2_advance_62 : decode cX2_advance 62 = .ok (.aload_n 0, 1) := by decide +kernel
theorem dX2_advance_63 : decode cX2_advance 63 = .ok (.aload_n 0, 1) := by decide +kernel
theorem dX2_advance_64 : decode cX2_advance 64 = .ok (.getfield 28, 3) := by decide +kernel
theorem dX2_advance_67 : decode cX2_advance 67 = .ok (.putfield 38, 3) := by decide +kernel
theorem dX2_advance_70 : decode cX2_advance 70 = .ok (.goto 77, 3) := by decide +kernel
theorem dX2_advance_73 : decode cX2_advance 73 = .ok (.aload_n 0, 1) := by decide +kernel
theorem dX2_advance_74 : decode cX2_advance 74 = .ok (.aload_n 0, 1) := by decide +kernel
theorem dX2_advance_75 : decode cX2_advance 75 = .ok (.getfield 60, 3) := by decide +kernel
theorem dX2_advance_78 : decode cX2_advance 78 = .ok (.invokevirtual 95, 3) := by decide +kernel
theorem dX2_advance_81 : decode cX2_advance 81 = .ok (.ifCond .eq 15, 3) := by decide +kernel
theorem dX2_advance_84 : decode cX2_advance 84 = .ok (.aload_n 0, 1) := by decide +kernel
theorem dX2_advance_85 : decode cX2_advance 85 = .ok (.iconst 1, 1) := by decide +kernel
theorem dX2_advance_86 : decode cX2_advance 86 = .ok (.putfield 54, 3) := by decide +kernel
theorem dX2_advance_89 : decode cX2_advance 89 = .ok (.aload_n 0, 1) := by decide +kernel
theorem dX2_advance_90 : decode cX2_advance 90 = .ok (.invokevirtual 99, 3) := by decide +kernel
theorem dX2_advance_93 : decode cX2_advance 93 = .ok (.goto 54, 3) := by decide +kernel
theorem dX2_advance_96 : decode cX2_advance 96 = .ok (.aload_n 0, 1) := by decide +kernel
theorem dX2_advance_97 : decode cX2_advance 97 = .ok (.aload_n 0, 1) := by decide +kernel
theorem dX2_advance_98 : decode cX2_advance 98 = .ok (.getfield 60, 3) := by decide +kernel
theorem dX2_advance_101 : decode cX2_advance 101 = .ok (.invokevirtual 102, 3) := by decide +kernel
theorem dX2_advance_104 : decode cX2_advance 104 = .ok (.ifCond .eq 10, 3) := by decide +kernel
theorem dX2_advance_107 : decode cX2_advance 107 = .ok (.aload_n 0, 1) := by decide +kernel
theorem dX2_advance_108 : decode cX2_advance 108 = .ok (.invokevirtual 105, 3) := by decide +kernel
theorem dX2_advance_111 : decode cX2_advance 111 = .ok (.goto 36, 3) := by decide +kernel
theorem dX2_advance_114 : decode cX2_advance 114 = .ok (.aload_n 0, 1) := by decide +kernel
theorem dX2_advance_115 : decode cX2_advance 115 = .ok (.aload_n 0, 1) := by decide +kernel
theorem dX2_advance_116 : decode cX2_advance 116 = .ok (.getfield 18, 3) := by decide +kernel
theorem dX2_advance_119 : decode cX2_advance 119 = .ok (.aload_n 0, 1) := by decide +kernel
theorem dX2_advance_120 : decode cX2_advance 120 = .ok (.getfield 60, 3) := by decide +kernel
theorem dX2_advance_123 : decode cX2_advance 123 = .ok (.caload, 1) := by decide +kernel
theorem dX2_advance_124 : decode cX2_advance 124 = .ok (.bipush 59, 2) := by decide +kernel
theorem dX2_advance_126 : decode cX2_advance 126 = .ok (.if_icmp .ne 7, 3) := by decide +kernel
theorem dX2_advance_129 : decode cX2_advance 129 = .ok (.iconst 3, 1) := by decide +kernel
theorem dX2_advance_130 : decode cX2_advance 130 = .ok (.goto 4, 3) := by decide +kernel
theorem dX2_advance_133 : decode cX2_advance 133 = .ok (.iconst 4, 1) := by decide +kernel
theorem dX2_advance_134 : decode cX2_advance 134 = .ok (.putfield 54, 3) := by decide +kernel
theorem dX2_advance_137 : decode cX2_advance 137 = .ok (.aload_n 0, 1) := by decide +kernel
theorem dX2_advance_138 : decode cX2_advance 138 = .ok (.aload_n 0, 1) := by decide +kernel
theorem dX2_advance_139 : decode cX2_advance 139 = .ok (.getfield 60, 3) := by decide +kernel
theorem dX2_advance_142 : decode cX2_advance 142 = .ok (.iconst 1, 1) := by decide +kernel
theorem dX2_advance_143 : decode cX2_advance 143 = .ok (.iadd, 1) := by decide +kernel
theorem dX2_advance_144 : decode cX2_advance 144 = .ok (.putfield 38, 3) := by decide +kernel
theorem dX2_advance_147 : decode cX2_advance 147 = .ok (.return_, 1) := by decide +kernel
theorem dX2_skipLetters_0 : decode cX2_skipLetters 0 = .ok (.aload_n 0, 1) := by decide +kernel
theorem dX2_skipLetters_1 : decode cX2_skipLetters 1 = .ok (.aload_n 0, 1) := by decide +kernel
theorem dX2_skipLetters_2 : decode cX2_skipLetters 2 = .ok (.getfield 60, 3) := by decide +kernel
theorem dX2_skipLetters_5 : decode cX2_skipLetters 5 = .ok (.putfield 38, 3) := by decide +kernel
theorem dX2_skipLetters_8 : decode cX2_skipLetters 8 = .ok (.aload_n 0, 1) := by decide +kernel
theorem dX2_skipLetters_9 : decode cX2_skipLetters 9 = .ok (.getfield 38, 3) := by decide +kernel
theorem dX2_skipLetters_12 : decode cX2_skipLetters 12 = .ok (.aload_n 0, 1) := by decide +kernel
theorem dX2_skipLetters_13 : decode cX2_skipLetters 13 = .ok (.getfield 28, 3) := by decide +kernel
theorem dX2_skipLetters_16 : decode cX2_skipLetters 16 = .ok (.if_icmp .ge 27, 3) := by decide +kernel
theorem dX2_skipLetters_19 : decode cX2_skipLetters 19 = .ok (.aload_n 0, 1) := by decide +kernel
theorem dX2_skipLetters_20 : decode cX2_skipLetters 20 = .ok (.aload_n 0, 1) := by decide +kernel
theorem dX2_skipLetters_21 : decode cX2_skipLetters 21 = .ok (.getfield 38, 3) := by decide +kernel
theorem dX2_skipLetters_24 : decode cX2_skipLetters 24 = .ok (.invokevirtual 95, 3) := by decide +kernel
theorem dX2_skipLetters_27 : decode cX2_skipLetters 27 = .ok (.ifCond .eq 16, 3) := by decide +kernel
theorem dX2_skipLetters_30 : decode cX2_skipLetters 30 = .ok (.aload_n 0, 1) := by decide +kernel
theorem dX2_skipLetters_31 : decode cX2_skipLetters 31 = .ok (.dup, 1) := by decide +kernel
theorem dX2_skipLetters_32 : decode cX2_skipLetters 32 = .ok (.getfield 38, 3) := by decide +kernel
theorem dX2_skipLetters_35 : decode cX2_skipLetters 35 = .ok (.iconst 1, 1) := by decide +kernel
theorem dX2_skipLetters_36 : decode cX2_skipLetters 36 = .ok (.iadd, 1) := by decide +kernel
theorem dX2_skipLetters_37 : decode cX2_skipLetters 37 = .ok (.putfield 38, 3) := by decide +kernel
theorem dX2_skipLetters_40 : decode cX2_skipLetters 40 = .ok (.goto (-32), 3) := by decide +kernel
theorem dX2_skipLetters_43 : decode cX2_skipLetters 43 = .ok (.return_, 1) := by decide +kernel
theorem dX2_scanNumber_0 : decode cX2_scanNumber 0 = .ok (.aload_n 0, 1) := by decide +kernel
theorem dX2_scanNumber_1 : decode cX2_scanNumber 1 = .ok (.iconst 0, 1) := by decide +kernel
theorem dX2_scanNumber_2 : decode cX2_scanNumber 2 = .ok (.putfield 89, 3) := by decide +kernel
theorem dX2_scanNumber_5 : decode cX2_scanNumber 5 = .ok (.aload_n 0, 1) := by decide +kernel
theorem dX2_scanNumber_6 : decode cX2_scanNumber 6 = .ok (.aload_n 0, 1) := by decide +kernel
theorem dX2_scanNumber_7 : decode cX2_scanNumber 7 = .ok (.getfield 60, 3) := by decide +kernel
theorem dX2_scanNumber_10 : decode cX2_scanNumber 10 = .ok (.putfield 38, 3) := by decide +kernel
theorem dX2_scanNumber_13 : decode cX2_scanNumber 13 = .ok (.aload_n 0, 1) := by decide +kernel
theorem dX2_scanNumber_14 : decode cX2_scanNumber 14 = .ok (.getfield 38, 3) := by decide +kernel
theorem dX2_scanNumber_17 : decode cX2_scanNumber 17 = .ok (.aload_n 0, 1) := by decide +kernel
theorem dX2_scanNumber_18 : decode cX2_scanNumber 18 = .ok (.getfield 28, 3) := by decide +kernel
theorem dX2_scanNumber_21 : decode cX2_scanNumber 21 = .ok (.if_icmp .ge 56, 3) := by decide +kernel
theorem dX2_scanNumber_24 : decode cX2_scanNumber 24 = .ok (.aload_n 0, 1) := by decide +kernel
theorem dX2_scanNumber_25 : decode cX2_scanNumber 25 = .ok (.aload_n 0, 1) := by decide +kernel
theorem dX2_scanNumber_26 : decode cX2_scanNumber 26 = .ok (.getfield 38, 3) := by decide +kernel
theorem dX2_scanNumber_29 : decode cX2_scanNumber 29 = .ok (.invokevirtual 102, 3) := by decide +kernel
theorem dX2_scanNumber_32 : decode cX2_scanNumber 32 = .ok (.ifCond .eq 45, 3) := by decide +kernel
theorem dX2_scanNumber_35 : decode cX2_scanNumber 35 = .ok (.aload_n 0, 1) := by decide +kernel
theorem dX2_scanNumber_36 : decode cX2_scanNumber 36 = .ok (.aload_n 0, 1) := by decide +kernel
theorem dX2_scanNumber_37 : decode cX2_scanNumber 37 = .ok (.getfield 89, 3) := by decide +kernel
theorem dX2_scanNumber_40 : decode cX2_scanNumber 40 = .ok (.bipush 10, 2) := by decide +kernel
theorem dX2_scanNumber_42 : decode cX2_scanNumber 42 = .ok (.imul, 1) := by decide +kernel
theorem dX2_scanNumber_43 : decode cX2_scanNumber 43 = .ok (.aload_n 0, 1) := by decide +kernel
theorem dX2_scanNumber_44 : decode cX2_scanNumber 44 = .ok (.getfield 18, 3) := by decide +kernel
theorem dX2_scanNumber_47 : decode cX2_scanNumber 47 = .ok (.aload_n 0, 1) := by decide +kernel
theorem dX2_scanNumber_48 : decode cX2_scanNumber 48 = .ok (.getfield 38, 3) := by decide +kernel
theorem dX2_scanNumber_51 : decode cX2_scanNumber 51 = .ok (.caload, 1) := by decide +kernel
theorem dX2_scanNumber_52 : decode cX2_scanNumber 52 = .ok (.iadd, 1) := by decide +kernel
theorem dX2_scanNumber_53 : decode cX2_scanNumber 53 = .ok (.bipush 48, 2) := by decide +kernel
theorem dX2_scanNumber_55 : decode cX2_scanNumber 55 = .ok (.isub, 1) := by decide +kernel
theorem dX2_scanNumber_56 : decode cX2_scanNumber 56 = .ok (.bipush 100, 2) := by decide +kernel
theorem dX2_scanNumber_58 : decode cX2_scanNumber 58 = .ok (.invokestatic 22, 3) := by decide +kernel
theorem dX2_scanNumber_61 : decode cX2_scanNumber 61 = .ok (.putfield 89, 3) := by decide +kernel
theorem dX2_scanNumber_64 : decode cX2_scanNumber 64 = .ok (.aload_n 0, 1) := by decide +kernel
theorem dX2_scanNumber_65 : decode cX2_scanNumber 65 = .ok (.dup, 1) := by decide +kernel
theorem dX2_scanNumber_66 : decode cX2_scanNumber 66 = .ok (.getfield 38, 3) := by decide +kernel
theorem dX2_scanNumber_69 : decode cX2_scanNumber 69 = .ok (.iconst 1, 1) := by decide +kernel
theorem dX2_scanNumber_70 : decode cX2_scanNumber 70 = .ok (.iadd, 1) := by decide +kernel
theorem dX2_scanNumber_71 : decode cX2_scanNumber 71 = .ok (.putfield 38, 3) := by decide +kernel
theorem dX2_scanNumber_74 : decode cX2_scanNumber 74 = .ok (.goto (-61), 3) := by decide +kernel
theorem dX2_scanNumber_77 : decode cX2_scanNumber 77 = .ok (.aload_n 0, 1) := by decide +kernel
theorem dX2_scanNumber_78 : decode cX2_scanNumber 78 = .ok (.getfield 18, 3) := by decide +kernel
theorem dX2_scanNumber_81 : decode cX2_scanNumber 81 = .ok (.aload_n 0, 1) := by decide +kernel
theorem dX2_scanNumber_82 : decode cX2_scanNumber 82 = .ok (.getfield 60, 3) := by decide +kernel
theorem dX2_scanNumber_85 : decode cX2_scanNumber 85 = .ok (.caload, 1) := by decide +kernel
theorem dX2_scanNumber_86 : decode cX2_scanNumber 86 = .ok (.bipush 48, 2) := by decide +kernel
theorem dX2_scanNumber_88 : decode cX2_scanNumber 88 = .ok (.if_icmp .ne 20, 3) := by decide +kernel
theorem dX2_scanNumber_91 : decode cX2_scanNumber 91 = .ok (.aload_n 0, 1) := by decide +kernel
theorem dX2_scanNumber_92 : decode cX2_scanNumber 92 = .ok (.getfield 38, 3) := by decide +kernel
theorem dX2_scanNumber_95 : decode cX2_scanNumber 95 = .ok (.aload_n 0, 1) := by decide +kernel
theorem dX2_scanNumber_96 : decode cX2_scanNumber 96 = .ok (.getfield 60, 3) := by decide +kernel
theorem dX2_scanNumber_99 : decode cX2_scanNumber 99 = .ok (.isub, 1) := by decide +kernel
theorem dX2_scanNumber_100 : decode cX2_scanNumber 100 = .ok (.iconst 1, 1) := by decide +kernel
theorem dX2_scanNumber_101 : decode cX2_scanNumber 101 = .ok (.if_icmp .le 7, 3) := by decide +kernel
theorem dX2_scanNumber_104 : decode cX2_scanNumber 104 = .ok (.iconst 1, 1) := by decide +kernel
theorem dX2_scanNumber_105 : decode cX2_scanNumber 105 = .ok (.goto 4, 3) := by decide +kernel
theorem dX2_scanNumber_108 : decode cX2_scanNumber 108 = .ok (.iconst 0, 1) := by decide +kernel
theorem dX2_scanNumber_109 : decode cX2_scanNumber 109 = .ok (.istore_n 1, 1) := by decide +kernel
theorem dX2_scanNumber_110 : decode cX2_scanNumber 110 = .ok (.aload_n 0, 1) := by decide +kernel
theorem dX2_scanNumber_111 : decode cX2_scanNumber 111 = .ok (.iload_n 1, 1) := by decide +kernel
theorem dX2_scanNumber_112 : decode cX2_scanNumber 112 = .ok (.ifCond .ne 12, 3) := by decide +kernel
theorem dX2_scanNumber_115 : decode cX2_scanNumber 115 = .ok (.aload_n 0, 1) := by decide +kernel
theorem dX2_scanNumber_116 : decode cX2_scanNumber 116 = .ok (.getfield 89, 3) := by decide +kernel
theorem dX2_scanNumber_119 : decode cX2_scanNumber 119 = .ok (.bipush 99, 2) := by decide +kernel
theorem dX2_scanNumber_121 : decode cX2_scanNumber 121 = .ok (.if_icmp .le 7, 3) := by decide +kernel
theorem dX2_scanNumber_124 : decode cX2_scanNumber 124 = .ok (.iconst 4, 1) := by decide +kernel
theorem dX2_scanNumber_125 : decode cX2_scanNumber 125 = .ok (.goto 4, 3) := by decide +kernel
theorem dX2_scanNumber_128 : decode cX2_scanNumber 128 = .ok (.iconst 2, 1) := by decide +kernel
theorem dX2_scanNumber_129 : decode cX2_scanNumber 129 = .ok (.putfield 54, 3) := by decide +kernel
theorem dX2_scanNumber_132 : decode cX2_scanNumber 132 = .ok (.return_, 1) := by decide +kernel
theorem dX2_isLetter_0 : decode cX2_isLetter 0 = .ok (.aload_n 0, 1) := by decide +kernel
theorem dX2_isLetter_1 : decode cX2_isLetter 1 = .ok (.getfield 18, 3) := by decide +kernel
theorem dX2_isLetter_4 : decode cX2_isLetter 4 = .ok (.iload_n 1, 1) := by decide +kernel
theorem dX2_isLetter_5 : decode cX2_isLetter 5 = .ok (.caload, 1) := by decide +kernel
theorem dX2_isLetter_6 : decode cX2_isLetter 6 = .ok (.bipush 97, 2) := by decide +kernel
theorem dX2_isLetter_8 : decode cX2_isLetter 8 = .ok (.if_icmp .lt 18, 3) := by decide +kernel
theorem dX2_isLetter_11 : decode cX2_isLetter 11 = .ok (.aload_n 0, 1) := by decide +kernel
theorem dX2_isLetter_12 : decode cX2_isLetter 12 = .ok (.getfield 18, 3) := by decide +kernel
theorem dX2_isLetter_15 : decode cX2_isLetter 15 = .ok (.iload_n 1, 1) := by decide +kernel
theorem dX2_isLetter_16 : decode cX2_isLetter 16 = .ok (.caload, 1) := by decide +kernel
theorem dX2_isLetter_17 : decode cX2_isLetter 17 = .ok (.bipush 122, 2) := by decide +kernel
theorem dX2_isLetter_19 : decode cX2_isLetter 19 = .ok (.if_icmp .gt 7, 3) := by decide +kernel
theorem dX2_isLetter_22 : decode cX2_isLetter 22 = .ok (.iconst 1, 1) := by decide +kernel
theorem dX2_isLetter_23 : decode cX2_isLetter 23 = .ok (.goto 4, 3) := by decide +kernel
theorem dX2_isLetter_26 : decode cX2_isLetter 26 = .ok (.iconst 0, 1) := by decide +kernel
theorem dX2_isLetter_27 : decode cX2_isLetter 27 = .ok (.ireturn, 1) := by decide +kernel
theorem dX2_isDigit_0 : decode cX2_isDigit 0 = .ok (.aload_n 0, 1) := by decide +kernel
theorem dX2_isDigit_1 : decode cX2_isDigit 1 = .ok (.getfield 18, 3) := by decide +kernel
theorem dX2_isDigit_4 : decode cX2_isDigit 4 = .ok (.iload_n 1, 1) := by decide +kernel
theorem dX2_isDigit_5 : decode cX2_isDigit 5 = .ok (.caload, 1) := by decide +kernel
theorem dX2_isDigit_6 : decode cX2_isDigit 6 = .ok (.bipush 48, 2) := by decide +kernel
theorem dX2_isDigit_8 : decode cX2_isDigit 8 = .ok (.if_icmp .lt 18, 3) := by decide +kernel
theorem dX2_isDigit_11 : decode cX2_isDigit 11 = .ok (.aload_n 0, 1) := by decide +kernel
theorem dX2_isDigit_12 : decode cX2_isDigit 12 = .ok (.getfield 18, 3) := by decide +kernel
theorem dX2_isDigit_15 : decode cX2_isDigit 15 = .ok (.iload_n 1, 1) := by decide +kernel
theorem dX2_isDigit_16 : decode cX2_isDigit 16 = .ok (.caload, 1) := by decide +kernel
theorem dX2_isDigit_17 : decode cX2_isDigit 17 = .ok (.bipush 57, 2) := by decide +kernel
theorem dX2_isDigit_19 : decode cX2_isDigit 19 = .ok (.if_icmp .gt 7, 3) := by decide +kernel
theorem dX2_isDigit_22 : decode cX2_isDigit 22 = .ok (.iconst 1, 1) := by decide +kernel
theorem dX2_isDigit_23 : decode cX2_isDigit 23 = .ok (.goto 4, 3) := by decide +kernel
theorem dX2_isDigit_26 : decode cX2_isDigit 26 = .ok (.iconst 0, 1) := by decide +kernel
theorem dX2_isDigit_27 : decode cX2_isDigit 27 = .ok (.ireturn, 1) := by decide +kernel
theorem dX3_init_0 : decode cX3_init 0 = .ok (.aload_n 0, 1) := by decide +kernel
theorem dX3_init_1 : decode cX3_init 1 = .ok (.invokespecial 3, 3) := by decide +kernel
theorem dX3_init_4 : decode cX3_init 4 = .ok (.aload_n 0, 1) := by decide +kernel
theorem dX3_init_5 : decode cX3_init 5 = .ok (.bipush 18, 2) := by decide +kernel
theorem dX3_init_7 : decode cX3_init 7 = .ok (.newarray .int, 2) := by decide +kernel
theorem dX3_init_9 : decode cX3_init 9 = .ok (.putfield 9, 3) := by decide +kernel
theorem dX3_init_12 : decode cX3_init 12 = .ok (.aload_n 0, 1) := by decide +kernel
theorem dX3_init_13 : decode cX3_init 13 = .ok (.iconst 3, 1) := by decide +kernel
theorem dX3_init_14 : decode cX3_init 14 = .ok (.newarray .int, 2) := by decide +kernel
theorem dX3_init_16 : decode cX3_init 16 = .ok (.putfield 15, 3) := by decide +kernel
theorem dX3_init_19 : decode cX3_init 19 = .ok (.aload_n 0, 1) := by decide +kernel
theorem dX3_init_20 : decode cX3_init 20 = .ok (.invokevirtual 18, 3) := by decide +kernel
theorem dX3_init_23 : decode cX3_init 23 = .ok (.return_, 1) := by decide +kernel
theorem dX3_setFirst_0 : decode cX3_setFirst 0 = .ok (.iconst 0, 1) := by decide +kernel
theorem dX3_setFirst_1 : decode cX3_setFirst 1 = .ok (.istore_n 1, 1) := by decide +kernel
theorem dX3_setFirst_2 : decode cX3_setFirst 2 = .ok (.iload_n 1, 1) := by decide +kernel
theorem dX3_setFirst_3 : decode cX3_setFirst 3 = .ok (.iconst 3, 1) := by decide +kernel
theorem dX3_setFirst_4 : decode cX3_setFirst 4 = .ok (.if_icmp .ge 45, 3) := by decide +kernel
theorem dX3_setFirst_7 : decode cX3_setFirst 7 = .ok (.iconst 0, 1) := by decide +kernel
theorem dX3_setFirst_8 : decode cX3_setFirst 8 = .ok (.istore_n 2, 1) := by decide +kernel
theorem dX3_setFirst_9 : decode cX3_setFirst 9 = .ok (.iload_n 2, 1) := by decide +kernel
theorem dX3_setFirst_10 : decode cX3_setFirst 10 = .ok (.bipush 6, 2) := by decide +kernel
theorem dX3_setFirst_12 : decode cX3_setFirst 12 = .ok (.if_icmp .ge 23, 3) := by decide +kernel
theorem dX3_setFirst_15 : decode cX3_setFirst 15 = .ok (.aload_n 0, 1) := by decide +kernel
theorem dX3_setFirst_16 : decode cX3_setFirst 16 = .ok (.getfield 9, 3) := by decide +kernel
theorem dX3_setFirst_19 : decode cX3_setFirst 19 = .ok (.iload_n 1, 1) := by decide +kernel
theorem dX3_setFirst_20 : decode cX3_setFirst 20 = .ok (.bipush 6, 2) := by decide +kernel
theorem dX3_setFirst_22 : decode cX3_setFirst 22 = .ok (.imul, 1) := by decide +kernel
theorem dX3_setFirst_23 : decode cX3_setFirst 23 = .ok (.iload_n 2, 1) := by decide +kernel
theorem dX3_setFirst_24 : decode cX3_setFirst 24 = .ok (.iadd, 1) := by decide +kernel
theorem dX3_setFirst_25 : decode cX3_setFirst 25 = .ok (.iload_n 2, 1) := by decide +kernel
theorem dX3_setFirst_26 : decode cX3_setFirst 26 = .ok (.iconst 1, 1) := by decide +kernel
theorem dX3_setFirst_27 : decode cX3_setFirst 27 = .ok (.iadd, 1) := by decide +kernel
theorem dX3_setFirst_28 : decode cX3_setFirst 28 = .ok (.iastore, 1) := by decide +kernel
theorem dX3_setFirst_29 : decode cX3_setFirst 29 = .ok (.iinc 2 1, 3) := by decide +kernel
theorem dX3_setFirst_32 : decode cX3_setFirst 32 = .ok (.goto (-23), 3) := by decide +kernel
theorem dX3_setFirst_35 : decode cX3_setFirst 35 = .ok (.aload_n 0, 1) := by decide +kernel
theorem dX3_setFirst_36 : decode cX3_setFirst 36 = .ok (.getfield 15, 3) := by decide +kernel
theorem dX3_setFirst_39 : decode cX3_setFirst 39 = .ok (.iload_n 1, 1) := by decide +kernel
theorem dX3_setFirst_40 : decode cX3_setFirst 40 = .ok (.bipush 6, 2) := by decide +kernel
theorem dX3_setFirst_42 : decode cX3_setFirst 42 = .ok (.iastore, 1) := by decide +kernel
theorem dX3_setFirst_43 : decode cX3_setFirst 43 = .ok (.iinc 1 1, 3) := by decide +kernel
theorem dX3_setFirst_46 : decode cX3_setFirst 46 = .ok (.goto (-44), 3) := by decide +kernel
theorem dX3_setFirst_49 : decode cX3_setFirst 49 = .ok (.aload_n 0, 1) := by decide +kernel
theorem dX3_setFirst_50 : decode cX3_setFirst 50 = .ok (.bipush 12, 2) := by decide +kernel
theorem dX3_setFirst_52 : decode cX3_setFirst 52 = .ok (.putfield 21, 3) := by decide +kernel
theorem dX3_setFirst_55 : decode cX3_setFirst 55 = .ok (.aload_n 0, 1) := by decide +kernel
theorem dX3_setFirst_56 : decode cX3_setFirst 56 = .ok (.iconst 4, 1) := by decide +kernel
theorem dX3_setFirst_57 : decode cX3_setFirst 57 = .ok (.putfield 25, 3) := by decide +kernel
theorem dX3_setFirst_60 : decode cX3_setFirst 60 = .ok (.return_, 1) := by decide +kernel
theorem dX3_becomes_0 : decode cX3_becomes 0 = .ok (.aload_n 1, 1) := by decide +kernel
theorem dX3_becomes_1 : decode cX3_becomes 1 = .ok (.getfield 9, 3) := by decide +kernel
theorem dX3_becomes_4 : decode cX3_becomes 4 = .ok (.iconst 0, 1) := by decide +kernel
theorem dX3_becomes_5 : decode cX3_becomes 5 = .ok (.aload_n 0, 1) := by decide +kernel
theorem dX3_becomes_6 : decode cX3_becomes 6 = .ok (.getfield 9, 3) := by decide +kernel
theorem dX3_becomes_9 : decode cX3_becomes 9 = .ok (.iconst 0, 1) := by decide +kernel
theorem dX3_becomes_10 : decode cX3_becomes 10 = .ok (.aload_n 0, 1) := by decide +kernel
theorem dX3_becomes_11 : decode cX3_becomes 11 = .ok (.getfield 9, 3) := by decide +kernel
theorem dX3_becomes_14 : decode cX3_becomes 14 = .ok (.arraylength, 1) := by decide +kernel
theorem dX3_becomes_15 : decode cX3_becomes 15 = .ok (.invokestatic 28, 3) := by decide +kernel
theorem dX3_becomes_18 : decode cX3_becomes 18 = .ok (.aload_n 1, 1) := by decide +kernel
theorem dX3_becomes_19 : decode cX3_becomes 19 = .ok (.getfield 15, 3) := by decide +kernel
theorem dX3_becomes_22 : decode cX3_becomes 22 = .ok (.iconst 0, 1) := by decide +kernel
theorem dX3_becomes_23 : decode cX3_becomes 23 = .ok (.aload_n 0, 1) := by decide +kernel
theorem dX3_becomes_24 : decode cX3_becomes 24 = .ok (.getfield 15, 3) := by decide +kernel
theorem dX3_becomes_27 : decode cX3_becomes 27 = .ok (.iconst 0, 1) := by decide +kernel
theorem dX3_becomes_28 : decode cX3_becomes 28 = .ok (.aload_n 0, 1) := by decide +kernel
theorem dX3_becomes_29 : decode cX3_becomes 29 = .ok (.getfield 15, 3) := by decide +kernel
theorem dX3_becomes_32 : decode cX3_becomes 32 = .ok (.arraylength, 1) := by decide +kernel
theorem dX3_becomes_33 : decode cX3_becomes 33 = .ok (.invokestatic 28, 3) := by decide +kernel
theorem dX3_becomes_36 : decode cX3_becomes 36 = .ok (.aload_n 0, 1) := by decide +kernel
theorem dX3_becomes_37 : decode cX3_becomes 37 = .ok (.aload_n 1, 1) := by decide +kernel
theorem dX3_becomes_38 : decode cX3_becomes 38 = .ok (.getfield 21, 3) := by decide +kernel
theorem dX3_becomes_41 : decode cX3_becomes 41 = .ok (.putfield 21, 3) := by decide +kernel
theorem dX3_becomes_44 : decode cX3_becomes 44 = .ok (.aload_n 0, 1) := by decide +kernel
theorem dX3_becomes_45 : decode cX3_becomes 45 = .ok (.aload_n 1, 1) := by decide +kernel
theorem dX3_becomes_46 : decode cX3_becomes 46 = .ok (.getfield 25, 3) := by decide +kernel
theorem dX3_becomes_49 : decode cX3_becomes 49 = .ok (.putfield 25, 3) := by decide +kernel
theorem dX3_becomes_52 : decode cX3_becomes 52 = .ok (.return_, 1) := by decide +kernel
theorem dX3_pip_0 : decode cX3_pip 0 = .ok (.aload_n 0, 1) := by decide +kernel
theorem dX3_pip_1 : decode cX3_pip 1 = .ok (.getfield 9, 3) := by decide +kernel
theorem dX3_pip_4 : decode cX3_pip 4 = .ok (.iload_n 1, 1) := by decide +kernel
theorem dX3_pip_5 : decode cX3_pip 5 = .ok (.bipush 6, 2) := by decide +kernel
theorem dX3_pip_7 : decode cX3_pip 7 = .ok (.imul, 1) := by decide +kernel
theorem dX3_pip_8 : decode cX3_pip 8 = .ok (.iload_n 2, 1) := by decide +kernel
theorem dX3_pip_9 : decode cX3_pip 9 = .ok (.iadd, 1) := by decide +kernel
theorem dX3_pip_10 : decode cX3_pip 10 = .ok (.iaload, 1) := by decide +kernel
theorem dX3_pip_11 : decode cX3_pip 11 = .ok (.ireturn, 1) := by decide +kernel
theorem dX3_hasPip_0 : decode cX3_hasPip 0 = .ok (.iconst 0, 1) := by decide +kernel
theorem dX3_hasPip_1 : decode cX3_hasPip 1 = .ok (.istore_n 3, 1) := by decide +kernel
theorem dX3_hasPip_2 : decode cX3_hasPip 2 = .ok (.iload_n 3, 1) := by decide +kernel
theorem dX3_hasPip_3 : decode cX3_hasPip 3 = .ok (.aload_n 0, 1) := by decide +kernel
theorem dX3_hasPip_4 : decode cX3_hasPip 4 = .ok (.getfield 15, 3) := by decide +kernel
theorem dX3_hasPip_7 : decode cX3_hasPip 7 = .ok (.iload_n 1, 1) := by decide +kernel
theorem dX3_hasPip_8 : decode cX3_hasPip 8 = .ok (.iaload, 1) := by decide +kernel
theorem dX3_hasPip_9 : decode cX3_hasPip 9 = .ok (.if_icmp .ge 21, 3) := by decide +kernel
theorem dX3_hasPip_12 : decode cX3_hasPip 12 = .ok (.aload_n 0, 1) := by decide +kernel
theorem dX3_hasPip_13 : decode cX3_hasPip 13 = .ok (.iload_n 1, 1) := by decide +kernel
theorem dX3_hasPip_14 : decode cX3_hasPip 14 = .ok (.iload_n 3, 1) := by decide +kernel
theorem dX3_hasPip_15 : decode cX3_hasPip 15 = .ok (.invokevirtual 34, 3) := by decide +kernel
theorem dX3_hasPip_18 : decode cX3_hasPip 18 = .ok (.iload_n 2, 1) := by decide +kernel
theorem dX3_hasPip_19 : decode cX3_hasPip 19 = .ok (.if_icmp .ne 5, 3) := by decide +kernel
theorem dX3_hasPip_22 : decode cX3_hasPip 22 = .ok (.iconst 1, 1) := by decide +kernel
theorem dX3_hasPip_23 : decode cX3_hasPip 23 = .ok (.ireturn, 1) := by decide +kernel
theorem dX3_hasPip_24 : decode cX3_hasPip 24 = .ok (.iinc 3 1, 3) := by decide +kernel
theorem dX3_hasPip_27 : decode cX3_hasPip 27 = .ok (.goto (-25), 3) := by decide +kernel
theorem dX3_hasPip_30 : decode cX3_hasPip 30 = .ok (.iconst 0, 1) := by decide +kernel
theorem dX3_hasPip_31 : decode cX3_hasPip 31 = .ok (.ireturn, 1) := by decide +kernel
theorem dX3_opens_0 : decode cX3_opens 0 = .ok (.aload_n 0, 1) := by decide +kernel
theorem dX3_opens_1 : decode cX3_opens 1 = .ok (.iload_n 1, 1) := by decide +kernel
theorem dX3_opens_2 : decode cX3_opens 2 = .ok (.iload 4, 2) := by decide +kernel
theorem dX3_opens_4 : decode cX3_opens 4 = .ok (.invokevirtual 38, 3) := by decide +kernel
theorem dX3_opens_7 : decode cX3_opens 7 = .ok (.aload_n 0, 1) := by decide +kernel
theorem dX3_opens_8 : decode cX3_opens 8 = .ok (.iload_n 2, 1) := by decide +kernel
theorem dX3_opens_9 : decode cX3_opens 9 = .ok (.iload 4, 2) := by decide +kernel
theorem dX3_opens_11 : decode cX3_opens 11 = .ok (.invokevirtual 38, 3) := by decide +kernel
theorem dX3_opens_14 : decode cX3_opens 14 = .ok (.ior, 1) := by decide +kernel
theorem dX3_opens_15 : decode cX3_opens 15 = .ok (.aload_n 0, 1) := by decide +kernel
theorem dX3_opens_16 : decode cX3_opens 16 = .ok (.iload_n 3, 1) := by decide +kernel
theorem dX3_opens_17 : decode cX3_opens 17 = .ok (.iload 4, 2) := by decide +kernel
theorem dX3_opens_19 : decode cX3_opens 19 = .ok (.invokevirtual 38, 3) := by decide +kernel
theorem dX3_opens_22 : decode cX3_opens 22 = .ok (.ior, 1) := by decide +kernel
theorem dX3_opens_23 : decode cX3_opens 23 = .ok (.aload_n 0, 1) := by decide +kernel
theorem dX3_opens_24 : decode cX3_opens 24 = .ok (.iload_n 1, 1) := by decide +kernel
theorem dX3_opens_25 : decode cX3_opens 25 = .ok (.iload_n 2, 1) := by decide +kernel
theorem dX3_opens_26 : decode cX3_opens 26 = .ok (.iadd, 1) := by decide +kernel
theorem dX3_opens_27 : decode cX3_opens 27 = .ok (.iload 4, 2) := by decide +kernel
theorem dX3_opens_29 : decode cX3_opens 29 = .ok (.invokevirtual 38, 3) := by decide +kernel
theorem dX3_opens_32 : decode cX3_opens 32 = .ok (.ior, 1) := by decide +kernel
theorem dX3_opens_33 : decode cX3_opens 33 = .ok (.aload_n 0, 1) := by decide +kernel
theorem dX3_opens_34 : decode cX3_opens 34 = .ok (.iload_n 1, 1) := by decide +kernel
theorem dX3_opens_35 : decode cX3_opens 35 = .ok (.iload_n 3, 1) := by decide +kernel
theorem dX3_opens_36 : decode cX3_opens 36 = .ok (.iadd, 1) := by decide +kernel
theorem dX3_opens_37 : decode cX3_opens 37 = .ok (.iload 4, 2) := by decide +kernel
theorem dX3_opens_39 : decode cX3_opens 39 = .ok (.invokevirtual 38, 3) := by decide +kernel
theorem dX3_opens_42 : decode cX3_opens 42 = .ok (.ior, 1) := by decide +kernel
theorem dX3_opens_43 : decode cX3_opens 43 = .ok (.aload_n 0, 1) := by decide +kernel
theorem dX3_opens_44 : decode cX3_opens 44 = .ok (.iload_n 2, 1) := by decide +kernel
theorem dX3_opens_45 : decode cX3_opens 45 = .ok (.iload_n 3, 1) := by decide +kernel
theorem dX3_opens_46 : decode cX3_opens 46 = .ok (.iadd, 1) := by decide +kernel
theorem dX3_opens_47 : decode cX3_opens 47 = .ok (.iload 4, 2) := by decide +kernel
theorem dX3_opens_49 : decode cX3_opens 49 = .ok (.invokevirtual 38, 3) := by decide +kernel
theorem dX3_opens_52 : decode cX3_opens 52 = .ok (.ior, 1) := by decide +kernel
theorem dX3_opens_53 : decode cX3_opens 53 = .ok (.aload_n 0, 1) := by decide +kernel
theorem dX3_opens_54 : decode cX3_opens 54 = .ok (.iload_n 1, 1) := by decide +kernel
theorem dX3_opens_55 : decode cX3_opens 55 = .ok (.iload_n 2, 1) := by decide +kernel
theorem dX3_opens_56 : decode cX3_opens 56 = .ok (.iadd, 1) := by decide +kernel
theorem dX3_opens_57 : decode cX3_opens 57 = .ok (.iload_n 3, 1) := by decide +kernel
theorem dX3_opens_58 : decode cX3_opens 58 = .ok (.iadd, 1) := by decide +kernel
theorem dX3_opens_59 : decode cX3_opens 59 = .ok (.iload 4, 2) := by decide +kernel
theorem dX3_opens_61 : decode cX3_opens 61 = .ok (.invokevirtual 38, 3) := by decide +kernel
theorem dX3_opens_64 : decode cX3_opens 64 = .ok (.ior, 1) := by decide +kernel
theorem dX3_opens_65 : decode cX3_opens 65 = .ok (.ireturn, 1) := by decide +kernel
theorem dX3_berthBit_0 : decode cX3_berthBit 0 = .ok (.iload_n 1, 1) := by decide +kernel
theorem dX3_berthBit_1 : decode cX3_berthBit 1 = .ok (.iconst 1, 1) := by decide +kernel
theorem dX3_berthBit_2 : decode cX3_berthBit 2 = .ok (.if_icmp .lt 11, 3) := by decide +kernel
theorem dX3_berthBit_5 : decode cX3_berthBit 5 = .ok (.iload_n 1, 1) := by decide +kernel
theorem dX3_berthBit_6 : decode cX3_berthBit 6 = .ok (.aload_n 0, 1) := by decide +kernel
theorem dX3_berthBit_7 : decode cX3_berthBit 7 = .ok (.getfield 21, 3) := by decide +kernel
theorem dX3_berthBit_10 : decode cX3_berthBit 10 = .ok (.if_icmp .le 5, 3) := by decide +kernel
theorem dX3_berthBit_13 : decode cX3_berthBit 13 = .ok (.iconst 0, 1) := by decide +kernel
theorem dX3_berthBit_14 : decode cX3_berthBit 14 = .ok (.ireturn, 1) := by decide +kernel
theorem dX3_berthBit_15 : decode cX3_berthBit 15 = .ok (.iload_n 2, 1) := by decide +kernel
theorem dX3_berthBit_16 : decode cX3_berthBit 16 = .ok (.ifCond .ne 7, 3) := by decide +kernel
theorem dX3_berthBit_19 : decode cX3_berthBit 19 = .ok (.iload_n 1, 1) := by decide +kernel
theorem dX3_berthBit_20 : decode cX3_berthBit 20 = .ok (.goto 11, 3) := by decide +kernel
theorem dX3_berthBit_23 : decode cX3_berthBit 23 = .ok (.aload_n 0, 1) := by decide +kernel
theorem dX3_berthBit_24 : decode cX3_berthBit 24 = .ok (.getfield 21, 3) := by decide +kernel
theorem dX3_berthBit_27 : decode cX3_berthBit 27 = .ok (.iconst 1, 1) := by decide +kernel
theorem dX3_berthBit_28 : decode cX3_berthBit 28 = .ok (.iadd, 1) := by decide +kernel
theorem dX3_berthBit_29 : decode cX3_berthBit 29 = .ok (.iload_n 1, 1) := by decide +kernel
theorem dX3_berthBit_30 : decode cX3_berthBit 30 = .ok (.isub, 1) := by decide +kernel
theorem dX3_berthBit_31 : decode cX3_berthBit 31 = .ok (.invokestatic 41, 3) := by decide +kernel
theorem dX3_berthBit_34 : decode cX3_berthBit 34 = .ok (.ireturn, 1) := by decide +kernel
theorem dX3_pairsOf_0 : decode cX3_pairsOf 0 = .ok (.aload_n 0, 1) := by decide +kernel
theorem dX3_pairsOf_1 : decode cX3_pairsOf 1 = .ok (.getfield 15, 3) := by decide +kernel
theorem dX3_pairsOf_4 : decode cX3_pairsOf 4 = .ok (.iload_n 1, 1) := by decide +kernel
theorem dX3_pairsOf_5 : decode cX3_pairsOf 5 = .ok (.iaload, 1) := by decide +kernel
theorem dX3_pairsOf_6 : decode cX3_pairsOf 6 = .ok (.aload_n 0, 1) := by decide +kernel
theorem dX3_pairsOf_7 : decode cX3_pairsOf 7 = .ok (.getfield 15, 3) := by decide +kernel
theorem dX3_pairsOf_10 : decode cX3_pairsOf 10 = .ok (.iload_n 2, 1) := by decide +kernel
theorem dX3_pairsOf_11 : decode cX3_pairsOf 11 = .ok (.iaload, 1) := by decide +kernel
theorem dX3_pairsOf_12 : decode cX3_pairsOf 12 = .ok (.imul, 1) := by decide +kernel
theorem dX3_pairsOf_13 : decode cX3_pairsOf 13 = .ok (.ireturn, 1) := by decide +kernel
theorem dX3_winsOf_0 : decode cX3_winsOf 0 = .ok (.iconst 0, 1) := by decide +kernel
theorem dX3_winsOf_1 : decode cX3_winsOf 1 = .ok (.istore_n 3, 1) := by decide +kernel
theorem dX3_winsOf_2 : decode cX3_winsOf 2 = .ok (.iconst 0, 1) := by decide +kernel
theorem dX3_winsOf_3 : decode cX3_winsOf 3 = .ok (.istore 4, 2) := by decide +kernel
theorem dX3_winsOf_5 : decode cX3_winsOf 5 = .ok (.iload 4, 2) := by decide +kernel
theorem dX3_winsOf_7 : decode cX3_winsOf 7 = .ok (.aload_n 0, 1) := by decide +kernel
theorem dX3_winsOf_8 : decode cX3_winsOf 8 = .ok (.getfield 15, 3) := by decide +kernel
theorem dX3_winsOf_11 : decode cX3_winsOf 11 = .ok (.iload_n 1, 1) := by decide +kernel
theorem dX3_winsOf_12 : decode cX3_winsOf 12 = .ok (.iaload, 1) := by decide +kernel
theorem dX3_winsOf_13 : decode cX3_winsOf 13 = .ok (.if_icmp .ge 49, 3) := by decide +kernel
theorem dX3_winsOf_16 : decode cX3_winsOf 16 = .ok (.iconst 0, 1) := by decide +kernel
theorem dX3_winsOf_17 : decode cX3_winsOf 17 = .ok (.istore 5, 2) := by decide +kernel
theorem dX3_winsOf_19 : decode cX3_winsOf 19 = .ok (.iload 5, 2) := by decide +kernel
theorem dX3_winsOf_21 : decode cX3_winsOf 21 = .ok (.aload_n 0, 1) := by decide +kernel
theorem dX3_winsOf_22 : decode cX3_winsOf 22 = .ok (.getfield 15, 3) := by decide +kernel
theorem dX3_winsOf_25 : decode cX3_winsOf 25 = .ok (.iload_n 2, 1) := by decide +kernel
theorem dX3_winsOf_26 : decode cX3_winsOf 26 = .ok (.iaload, 1) := by decide +kernel
theorem dX3_winsOf_27 : decode cX3_winsOf 27 = .ok (.if_icmp .ge 29, 3) := by decide +kernel
theorem dX3_winsOf_30 : decode cX3_winsOf 30 = .ok (.aload_n 0, 1) := by decide +kernel
theorem dX3_winsOf_31 : decode cX3_winsOf 31 = .ok (.iload_n 1, 1) := by decide +kernel
theorem dX3_winsOf_32 : decode cX3_winsOf 32 = .ok (.iload 4, 2) := by decide +kernel
theorem dX3_winsOf_34 : decode cX3_winsOf 34 = .ok (.invokevirtual 34, 3) := by decide +kernel
theorem dX3_winsOf_37 : decode cX3_winsOf 37 = .ok (.aload_n 0, 1) := by decide +kernel
theorem dX3_winsOf_38 : decode cX3_winsOf 38 = .ok (.iload_n 2, 1) := by decide +kernel
theorem dX3_winsOf_39 : decode cX3_winsOf 39 = .ok (.iload 5, 2) := by decide +kernel
theorem dX3_winsOf_41 : decode cX3_winsOf 41 = .ok (.invokevirtual 34, 3) := by decide +kernel
theorem dX3_winsOf_44 : decode cX3_winsOf 44 = .ok (.if_icmp .le 6, 3) := by decide +kernel
theorem dX3_winsOf_47 : decode cX3_winsOf 47 = .ok (.iinc 3 1, 3) := by decide +kernel
theorem dX3_winsOf_50 : decode cX3_winsOf 50 = .ok (.iinc 5 1, 3) := by decide +kernel
theorem dX3_winsOf_53 : decode cX3_winsOf 53 = .ok (.goto (-34), 3) := by decide +kernel
theorem dX3_winsOf_56 : decode cX3_winsOf 56 = .ok (.iinc 4 1, 3) := by decide +kernel
theorem dX3_winsOf_59 : decode cX3_winsOf 59 = .ok (.goto (-54), 3) := by decide +kernel
theorem dX3_winsOf_62 : decode cX3_winsOf 62 = .ok (.iload_n 3, 1) := by decide +kernel
theorem dX3_winsOf_63 : decode cX3_winsOf 63 = .ok (.ireturn, 1) := by decide +kernel
theorem dX3_mostlyWins_0 : decode cX3_mostlyWins 0 = .ok (.iconst 2, 1) := by decide +kernel
theorem dX3_mostlyWins_1 : decode cX3_mostlyWins 1 = .ok (.aload_n 0, 1) := by decide +kernel
theorem dX3_mostlyWins_2 : decode cX3_mostlyWins 2 = .ok (.iload_n 1, 1) := by decide +kernel
theorem dX3_mostlyWins_3 : decode cX3_mostlyWins 3 = .ok (.iload_n 2, 1) := by decide +kernel
theorem dX3_mostlyWins_4 : decode cX3_mostlyWins 4 = .ok (.invokevirtual 45, 3) := by decide +kernel
theorem dX3_mostlyWins_7 : decode cX3_mostlyWins 7 = .ok (.imul, 1) := by decide +kernel
theorem dX3_mostlyWins_8 : decode cX3_mostlyWins 8 = .ok (.aload_n 0, 1) := by decide +kernel
theorem dX3_mostlyWins_9 : decode cX3_mostlyWins 9 = .ok (.iload_n 1, 1) := by decide +kernel
theorem dX3_mostlyWins_10 : decode cX3_mostlyWins 10 = .ok (.iload_n 2, 1) := by decide +kernel
theorem dX3_mostlyWins_11 : decode cX3_mostlyWins 11 = .ok (.invokevirtual 48, 3) := by decide +kernel
theorem dX3_mostlyWins_14 : decode cX3_mostlyWins 14 = .ok (.if_icmp .le 7, 3) := by decide +kernel
theorem dX3_mostlyWins_17 : decode cX3_mostlyWins 17 = .ok (.iconst 1, 1) := by decide +kernel
theorem dX3_mostlyWins_18 : decode cX3_mostlyWins 18 = .ok (.goto 4, 3) := by decide +kernel
theorem dX3_mostlyWins_21 : decode cX3_mostlyWins 21 = .ok (.iconst 0, 1) := by decide +kernel
theorem dX3_mostlyWins_22 : decode cX3_mostlyWins 22 = .ok (.ireturn, 1) := by decide +kernel
theorem dJ6_bitCount_0f7a4_0 : decode cJ6_bitCount_0f7a4 0 = .ok (.iload_n 0, 1) := by decide +kernel
theorem dJ6_bitCount_0f7a4_1 : decode cJ6_bitCount_0f7a4 1 = .ok (.iload_n 0, 1) := by decide +kernel
theorem dJ6_bitCount_0f7a4_2 : decode cJ6_bitCount_0f7a4 2 = .ok (.iconst 1, 1) := by decide +kernel
theorem dJ6_bitCount_0f7a4_3 : decode cJ6_bitCount_0f7a4 3 = .ok (.iushr, 1) := by decide +kernel
theorem dJ6_bitCount_0f7a4_4 : decode cJ6_bitCount_0f7a4 4 = .ok (.ldc_w 265, 3) := by decide +kernel
theorem dJ6_bitCount_0f7a4_7 : decode cJ6_bitCount_0f7a4 7 = .ok (.iand, 1) := by decide +kernel
theorem dJ6_bitCount_0f7a4_8 : decode cJ6_bitCount_0f7a4 8 = .ok (.isub, 1) := by decide +kernel
theorem dJ6_bitCount_0f7a4_9 : decode cJ6_bitCount_0f7a4 9 = .ok (.istore_n 0, 1) := by decide +kernel
theorem dJ6_bitCount_0f7a4_10 : decode cJ6_bitCount_0f7a4 10 = .ok (.iload_n 0, 1) := by decide +kernel
theorem dJ6_bitCount_0f7a4_11 : decode cJ6_bitCount_0f7a4 11 = .ok (.ldc_w 266, 3) := by decide +kernel
theorem dJ6_bitCount_0f7a4_14 : decode cJ6_bitCount_0f7a4 14 = .ok (.iand, 1) := by decide +kernel
theorem dJ6_bitCount_0f7a4_15 : decode cJ6_bitCount_0f7a4 15 = .ok (.iload_n 0, 1) := by decide +kernel
theorem dJ6_bitCount_0f7a4_16 : decode cJ6_bitCount_0f7a4 16 = .ok (.iconst 2, 1) := by decide +kernel
theorem dJ6_bitCount_0f7a4_17 : decode cJ6_bitCount_0f7a4 17 = .ok (.iushr, 1) := by decide +kernel
theorem dJ6_bitCount_0f7a4_18 : decode cJ6_bitCount_0f7a4 18 = .ok (.ldc_w 266, 3) := by decide +kernel
theorem dJ6_bitCount_0f7a4_21 : decode cJ6_bitCount_0f7a4 21 = .ok (.iand, 1) := by decide +kernel
theorem dJ6_bitCount_0f7a4_22 : decode cJ6_bitCount_0f7a4 22 = .ok (.iadd, 1) := by decide +kernel
theorem dJ6_bitCount_0f7a4_23 : decode cJ6_bitCount_0f7a4 23 = .ok (.istore_n 0, 1) := by decide +kernel
theorem dJ6_bitCount_0f7a4_24 : decode cJ6_bitCount_0f7a4 24 = .ok (.iload_n 0, 1) := by decide +kernel
theorem dJ6_bitCount_0f7a4_25 : decode cJ6_bitCount_0f7a4 25 = .ok (.iload_n 0, 1) := by decide +kernel
theorem dJ6_bitCount_0f7a4_26 : decode cJ6_bitCount_0f7a4 26 = .ok (.iconst 4, 1) := by decide +kernel
theorem dJ6_bitCount_0f7a4_27 : decode cJ6_bitCount_0f7a4 27 = .ok (.iushr, 1) := by decide +kernel
theorem dJ6_bitCount_0f7a4_28 : decode cJ6_bitCount_0f7a4 28 = .ok (.iadd, 1) := by decide +kernel
theorem dJ6_bitCount_0f7a4_29 : decode cJ6_bitCount_0f7a4 29 = .ok (.ldc_w 267, 3) := by decide +kernel
theorem dJ6_bitCount_0f7a4_32 : decode cJ6_bitCount_0f7a4 32 = .ok (.iand, 1) := by decide +kernel
theorem dJ6_bitCount_0f7a4_33 : decode cJ6_bitCount_0f7a4 33 = .ok (.istore_n 0, 1) := by decide +kernel
theorem dJ6_bitCount_0f7a4_34 : decode cJ6_bitCount_0f7a4 34 = .ok (.iload_n 0, 1) := by decide +kernel
theorem dJ6_bitCount_0f7a4_35 : decode cJ6_bitCount_0f7a4 35 = .ok (.iload_n 0, 1) := by decide +kernel
theorem dJ6_bitCount_0f7a4_36 : decode cJ6_bitCount_0f7a4 36 = .ok (.bipush 8, 2) := by decide +kernel
theorem dJ6_bitCount_0f7a4_38 : decode cJ6_bitCount_0f7a4 38 = .ok (.iushr, 1) := by decide +kernel
theorem dJ6_bitCount_0f7a4_39 : decode cJ6_bitCount_0f7a4 39 = .ok (.iadd, 1) := by decide +kernel
theorem dJ6_bitCount_0f7a4_40 : decode cJ6_bitCount_0f7a4 40 = .ok (.istore_n 0, 1) := by decide +kernel
theorem dJ6_bitCount_0f7a4_41 : decode cJ6_bitCount_0f7a4 41 = .ok (.iload_n 0, 1) := by decide +kernel
theorem dJ6_bitCount_0f7a4_42 : decode cJ6_bitCount_0f7a4 42 = .ok (.iload_n 0, 1) := by decide +kernel
theorem dJ6_bitCount_0f7a4_43 : decode cJ6_bitCount_0f7a4 43 = .ok (.bipush 16, 2) := by decide +kernel
theorem dJ6_bitCount_0f7a4_45 : decode cJ6_bitCount_0f7a4 45 = .ok (.iushr, 1) := by decide +kernel
theorem dJ6_bitCount_0f7a4_46 : decode cJ6_bitCount_0f7a4 46 = .ok (.iadd, 1) := by decide +kernel
theorem dJ6_bitCount_0f7a4_47 : decode cJ6_bitCount_0f7a4 47 = .ok (.istore_n 0, 1) := by decide +kernel
theorem dJ6_bitCount_0f7a4_48 : decode cJ6_bitCount_0f7a4 48 = .ok (.iload_n 0, 1) := by decide +kernel
theorem dJ6_bitCount_0f7a4_49 : decode cJ6_bitCount_0f7a4 49 = .ok (.bipush 63, 2) := by decide +kernel
theorem dJ6_bitCount_0f7a4_51 : decode cJ6_bitCount_0f7a4 51 = .ok (.iand, 1) := by decide +kernel
theorem dJ6_bitCount_0f7a4_52 : decode cJ6_bitCount_0f7a4 52 = .ok (.ireturn, 1) := by decide +kernel
