theorem dX5_in_0 : decode cX5_in 0 = .ok (.lload_n 0, 1) := by decide +kernel
theorem dX5_in_1 : decode cX5_in 1 = .ok (.lload_n 2, 1) := by decide +kernel
theorem dX5_in_2 : decode cX5_in 2 = .ok (.lcmp, 1) := by decide +kernel
theorem dX5_in_3 : decode cX5_in 3 = .ok (.ifCond .lt 14, 3) := by decide +kernel
theorem dX5_in_6 : decode cX5_in 6 = .ok (.lload_n 0, 1) := by decide +kernel
theorem dX5_in_7 : decode cX5_in 7 = .ok (.lload 4, 2) := by decide +kernel
theorem dX5_in_9 : decode cX5_in 9 = .ok (.lcmp, 1) := by decide +kernel
theorem dX5_in_10 : decode cX5_in 10 = .ok (.ifCond .gt 7, 3) := by decide +kernel
theorem dX5_in_13 : decode cX5_in 13 = .ok (.iconst 1, 1) := by decide +kernel
theorem dX5_in_14 : decode cX5_in 14 = .ok (.goto 4, 3) := by decide +kernel
theorem dX5_in_17 : decode cX5_in 17 = .ok (.iconst 0, 1) := by decide +kernel
theorem dX5_in_18 : decode cX5_in 18 = .ok (.ireturn, 1) := by decide +kernel
theorem dX5_init_0 : decode cX5_init 0 = .ok (.aload_n 0, 1) := by decide +kernel
theorem dX5_init_1 : decode cX5_init 1 = .ok (.invokespecial 1, 3) := by decide +kernel
theorem dX5_init_4 : decode cX5_init 4 = .ok (.aload_n 0, 1) := by decide +kernel
theorem dX5_init_5 : decode cX5_init 5 = .ok (.bipush 120, 2) := by decide +kernel
theorem dX5_init_7 : decode cX5_init 7 = .ok (.newarray .int, 2) := by decide +kernel
theorem dX5_init_9 : decode cX5_init 9 = .ok (.putfield 7, 3) := by decide +kernel
theorem dX5_init_12 : decode cX5_init 12 = .ok (.aload_n 0, 1) := by decide +kernel
theorem dX5_init_13 : decode cX5_init 13 = .ok (.bipush 25, 2) := by decide +kernel
theorem dX5_init_15 : decode cX5_init 15 = .ok (.newarray .int, 2) := by decide +kernel
theorem dX5_init_17 : decode cX5_init 17 = .ok (.putfield 13, 3) := by decide +kernel
theorem dX5_init_20 : decode cX5_init 20 = .ok (.aload_n 0, 1) := by decide +kernel
theorem dX5_init_21 : decode cX5_init 21 = .ok (.bipush 25, 2) := by decide +kernel
theorem dX5_init_23 : decode cX5_init 23 = .ok (.newarray .int, 2) := by decide +kernel
theorem dX5_init_25 : decode cX5_init 25 = .ok (.putfield 16, 3) := by decide +kernel
theorem dX5_init_28 : decode cX5_init 28 = .ok (.aload_n 0, 1) := by decide +kernel
theorem dX5_init_29 : decode cX5_init 29 = .ok (.bipush 27, 2) := by decide +kernel
theorem dX5_init_31 : decode cX5_init 31 = .ok (.newarray .int, 2) := by decide +kernel
theorem dX5_init_33 : decode cX5_init 33 = .ok (.putfield 19, 3) := by decide +kernel
theorem dX5_init_36 : decode cX5_init 36 = .ok (.aload_n 0, 1) := by decide +kernel
theorem dX5_init_37 : decode cX5_init 37 = .ok (.sipush 324, 3) := by decide +kernel
theorem dX5_init_40 : decode cX5_init 40 = .ok (.newarray .int, 2) := by decide +kernel
theorem dX5_init_42 : decode cX5_init 42 = .ok (.putfield 22, 3) := by decide +kernel
theorem dX5_init_45 : decode cX5_init 45 = .ok (.aload_n 0, 1) := by decide +kernel
theorem dX5_init_46 : decode cX5_init 46 = .ok (.bipush 6, 2) := by decide +kernel
theorem dX5_init_48 : decode cX5_init 48 = .ok (.newarray .int, 2) := by decide +kernel
theorem dX5_init_50 : decode cX5_init 50 = .ok (.putfield 25, 3) := by decide +kernel
theorem dX5_init_53 : decode cX5_init 53 = .ok (.aload_n 0, 1) := by decide +kernel
theorem dX5_init_54 : decode cX5_init 54 = .ok (.bipush 6, 2) := by decide +kernel
theorem dX5_init_56 : decode cX5_init 56 = .ok (.newarray .int, 2) := by decide +kernel
theorem dX5_init_58 : decode cX5_init 58 = .ok (.putfield 28, 3) := by decide +kernel
theorem dX5_init_61 : decode cX5_init 61 = .ok (.aload_n 0, 1) := by decide +kernel
theorem dX5_init_62 : decode cX5_init 62 = .ok (.sipush 706, 3) := by decide +kernel
theorem dX5_init_65 : decode cX5_init 65 = .ok (.newarray .int, 2) := by decide +kernel
theorem dX5_init_67 : decode cX5_init 67 = .ok (.putfield 31, 3) := by decide +kernel
theorem dX5_init_70 : decode cX5_init 70 = .ok (.aload_n 0, 1) := by decide +kernel
theorem dX5_init_71 : decode cX5_init 71 = .ok (.invokevirtual 34, 3) := by decide +kernel
theorem dX5_init_74 : decode cX5_init 74 = .ok (.aload_n 0, 1) := by decide +kernel
theorem dX5_init_75 : decode cX5_init 75 = .ok (.invokevirtual 37, 3) := by decide +kernel
theorem dX5_init_78 : decode cX5_init 78 = .ok (.return_, 1) := by decide +kernel
theorem dX5_type_0 : decode cX5_type 0 = .ok (.iload_n 1, 1) := by decide +kernel
theorem dX5_type_1 : decode cX5_type 1 = .ok (.i2l, 1) := by decide +kernel
theorem dX5_type_2 : decode cX5_type 2 = .ok (.lconst 0, 1) := by decide +kernel
theorem dX5_type_3 : decode cX5_type 3 = .ok (.ldc2_w 40, 3) := by decide +kernel
theorem dX5_type_6 : decode cX5_type 6 = .ok (.invokestatic 42, 3) := by decide +kernel
theorem dX5_type_9 : decode cX5_type 9 = .ok (.ifCond .ne 5, 3) := by decide +kernel
theorem dX5_type_12 : decode cX5_type 12 = .ok (.iconst (-1), 1) := by decide +kernel
theorem dX5_type_13 : decode cX5_type 13 = .ok (.ireturn, 1) := by decide +kernel
theorem dX5_type_14 : decode cX5_type 14 = .ok (.aload_n 0, 1) := by decide +kernel
theorem dX5_type_15 : decode cX5_type 15 = .ok (.getfield 46, 3) := by decide +kernel
theorem dX5_type_18 : decode cX5_type 18 = .ok (.bipush 120, 2) := by decide +kernel
theorem dX5_type_20 : decode cX5_type 20 = .ok (.if_icmp .ne 6, 3) := by decide +kernel
theorem dX5_type_23 : decode cX5_type 23 = .ok (.bipush (-3), 2) := by decide +kernel
theorem dX5_type_25 : decode cX5_type 25 = .ok (.ireturn, 1) := by decide +kernel
theorem dX5_type_26 : decode cX5_type 26 = .ok (.aload_n 0, 1) := by decide +kernel
theorem dX5_type_27 : decode cX5_type 27 = .ok (.getfield 7, 3) := by decide +kernel
theorem dX5_type_30 : decode cX5_type 30 = .ok (.aload_n 0, 1) := by decide +kernel
theorem dX5_type_31 : decode cX5_type 31 = .ok (.getfield 46, 3) := by decide +kernel
theorem dX5_type_34 : decode cX5_type 34 = .ok (.iload_n 1, 1) := by decide +kernel
theorem dX5_type_35 : decode cX5_type 35 = .ok (.iastore, 1) := by decide +kernel
theorem dX5_type_36 : decode cX5_type 36 = .ok (.aload_n 0, 1) := by decide +kernel
theorem dX5_type_37 : decode cX5_type 37 = .ok (.dup, 1) := by decide +kernel
theorem dX5_type_38 : decode cX5_type 38 = .ok (.getfield 46, 3) := by decide +kernel
theorem dX5_type_41 : decode cX5_type 41 = .ok (.iconst 1, 1) := by decide +kernel
theorem dX5_type_42 : decode cX5_type 42 = .ok (.iadd, 1) := by decide +kernel
theorem dX5_type_43 : decode cX5_type 43 = .ok (.putfield 46, 3) := by decide +kernel
theorem dX5_type_46 : decode cX5_type 46 = .ok (.aload_n 0, 1) := by decide +kernel
theorem dX5_type_47 : decode cX5_type 47 = .ok (.getfield 46, 3) := by decide +kernel
theorem dX5_type_50 : decode cX5_type 50 = .ok (.ireturn, 1) := by decide +kernel
theorem dX5_clear_0 : decode cX5_clear 0 = .ok (.aload_n 0, 1) := by decide +kernel
theorem dX5_clear_1 : decode cX5_clear 1 = .ok (.getfield 46, 3) := by decide +kernel
theorem dX5_clear_4 : decode cX5_clear 4 = .ok (.istore_n 1, 1) := by decide +kernel
theorem dX5_clear_5 : decode cX5_clear 5 = .ok (.aload_n 0, 1) := by decide +kernel
theorem dX5_clear_6 : decode cX5_clear 6 = .ok (.iconst 0, 1) := by decide +kernel
theorem dX5_clear_7 : decode cX5_clear 7 = .ok (.putfield 46, 3) := by decide +kernel
theorem dX5_clear_10 : decode cX5_clear 10 = .ok (.iload_n 1, 1) := by decide +kernel
theorem dX5_clear_11 : decode cX5_clear 11 = .ok (.ireturn, 1) := by decide +kernel
theorem dX5_isLetter_0 : decode cX5_isLetter 0 = .ok (.iload_n 0, 1) := by decide +kernel
theorem dX5_isLetter_1 : decode cX5_isLetter 1 = .ok (.i2l, 1) := by decide +kernel
theorem dX5_isLetter_2 : decode cX5_isLetter 2 = .ok (.ldc2_w 50, 3) := by decide +kernel
theorem dX5_isLetter_5 : decode cX5_isLetter 5 = .ok (.ldc2_w 52, 3) := by decide +kernel
theorem dX5_isLetter_8 : decode cX5_isLetter 8 = .ok (.invokestatic 42, 3) := by decide +kernel
theorem dX5_isLetter_11 : decode cX5_isLetter 11 = .ok (.ireturn, 1) := by decide +kernel
theorem dX5_isFigure_0 : decode cX5_isFigure 0 = .ok (.iload_n 0, 1) := by decide +kernel
theorem dX5_isFigure_1 : decode cX5_isFigure 1 = .ok (.i2l, 1) := by decide +kernel
theorem dX5_isFigure_2 : decode cX5_isFigure 2 = .ok (.ldc2_w 54, 3) := by decide +kernel
theorem dX5_isFigure_5 : decode cX5_isFigure 5 = .ok (.ldc2_w 56, 3) := by decide +kernel
theorem dX5_isFigure_8 : decode cX5_isFigure 8 = .ok (.invokestatic 42, 3) := by decide +kernel
theorem dX5_isFigure_11 : decode cX5_isFigure 11 = .ok (.ireturn, 1) := by decide +kernel
theorem dX5_readLetters_0 : decode cX5_readLetters 0 = .ok (.aload_n 0, 1) := by decide +kernel
theorem dX5_readLetters_1 : decode cX5_readLetters 1 = .ok (.aload_n 0, 1) := by decide +kernel
theorem dX5_readLetters_2 : decode cX5_readLetters 2 = .ok (.getfield 7, 3) := by decide +kernel
theorem dX5_readLetters_5 : decode cX5_readLetters 5 = .ok (.aload_n 0, 1) := by decide +kernel
theorem dX5_readLetters_6 : decode cX5_readLetters 6 = .ok (.getfield 58, 3) := by decide +kernel
theorem dX5_readLetters_9 : decode cX5_readLetters 9 = .ok (.iaload, 1) := by decide +kernel
theorem dX5_readLetters_10 : decode cX5_readLetters 10 = .ok (.putfield 61, 3) := by decide +kernel
theorem dX5_readLetters_13 : decode cX5_readLetters 13 = .ok (.aload_n 0, 1) := by decide +kernel
theorem dX5_readLetters_14 : decode cX5_readLetters 14 = .ok (.getfield 58, 3) := by decide +kernel
theorem dX5_readLetters_17 : decode cX5_readLetters 17 = .ok (.aload_n 0, 1) := by decide +kernel
theorem dX5_readLetters_18 : decode cX5_readLetters 18 = .ok (.getfield 46, 3) := by decide +kernel
theorem dX5_readLetters_21 : decode cX5_readLetters 21 = .ok (.if_icmp .ge 31, 3) := by decide +kernel
theorem dX5_readLetters_24 : decode cX5_readLetters 24 = .ok (.aload_n 0, 1) := by decide +kernel
theorem dX5_readLetters_25 : decode cX5_readLetters 25 = .ok (.getfield 7, 3) := by decide +kernel
theorem dX5_readLetters_28 : decode cX5_readLetters 28 = .ok (.aload_n 0, 1) := by decide +kernel
theorem dX5_readLetters_29 : decode cX5_readLetters 29 = .ok (.getfield 58, 3) := by decide +kernel
theorem dX5_readLetters_32 : decode cX5_readLetters 32 = .ok (.iaload, 1) := by decide +kernel
theorem dX5_readLetters_33 : decode cX5_readLetters 33 = .ok (.invokestatic 64, 3) := by decide +kernel
theorem dX5_readLetters_36 : decode cX5_readLetters 36 = .ok (.ifCond .eq 16, 3) := by decide +kernel
theorem dX5_readLetters_39 : decode cX5_readLetters 39 = .ok (.aload_n 0, 1) := by decide +kernel
theorem dX5_readLetters_40 : decode cX5_readLetters 40 = .ok (.dup, 1) := by decide +kernel
theorem dX5_readLetters_41 : decode cX5_readLetters 41 = .ok (.getfield 58, 3) := by decide +kernel
theorem dX5_readLetters_44 : decode cX5_readLetters 44 = .ok (.iconst 1, 1) := by decide +kernel
theorem dX5_readLetters_45 : decode cX5_readLetters 45 = .ok (.iadd, 1) := by decide +kernel
theorem dX5_readLetters_46 : decode cX5_readLetters 46 = .ok (.putfield 58, 3) := by decide +kernel
theorem dX5_readLetters_49 : decode cX5_readLetters 49 = .ok (.goto (-36), 3) := by decide +kernel
theorem dX5_readLetters_52 : decode cX5_readLetters 52 = .ok (.aload_n 0, 1) := by decide +kernel
theorem dX5_readLetters_53 : decode cX5_readLetters 53 = .ok (.aload_n 0, 1) := by decide +kernel
theorem dX5_readLetters_54 : decode cX5_readLetters 54 = .ok (.getfield 58, 3) := by decide +kernel
theorem dX5_readLetters_57 : decode cX5_readLetters 57 = .ok (.aload_n 0, 1) := by decide +kernel
theorem dX5_readLetters_58 : decode cX5_readLetters 58 = .ok (.getfield 68, 3) := by decide +kernel
theorem dX5_readLetters_61 : decode cX5_readLetters 61 = .ok (.isub, 1) := by decide +kernel
theorem dX5_readLetters_62 : decode cX5_readLetters 62 = .ok (.iconst 1, 1) := by decide +kernel
theorem dX5_readLetters_63 : decode cX5_readLetters 63 = .ok (.if_icmp .ne 34, 3) := by decide +kernel
theorem dX5_readLetters_66 : decode cX5_readLetters 66 = .ok (.aload_n 0, 1) := by decide +kernel
theorem dX5_readLetters_67 : decode cX5_readLetters 67 = .ok (.getfield 61, 3) := by decide +kernel
theorem dX5_readLetters_70 : decode cX5_readLetters 70 = .ok (.bipush 100, 2) := by decide +kernel
theorem dX5_readLetters_72 : decode cX5_readLetters 72 = .ok (.if_icmp .eq 21, 3) := by decide +kernel
theorem dX5_readLetters_75 : decode cX5_readLetters 75 = .ok (.aload_n 0, 1) := by decide +kernel
theorem dX5_readLetters_76 : decode cX5_readLetters 76 = .ok (.getfield 61, 3) := by decide +kernel
theorem dX5_readLetters_79 : decode cX5_readLetters 79 = .ok (.bipush 98, 2) := by decide +kernel
theorem dX5_readLetters_81 : decode cX5_readLetters 81 = .ok (.if_icmp .eq 12, 3) := by decide +kernel
theorem dX5_readLetters_84 : decode cX5_readLetters 84 = .ok (.aload_n 0, 1) := by decide +kernel
theorem dX5_readLetters_85 : decode cX5_readLetters 85 = .ok (.getfield 61, 3) := by decide +kernel
theorem dX5_readLetters_88 : decode cX5_readLetters 88 = .ok (.bipush 103, 2) := by decide +kernel
theorem dX5_readLetters_90 : decode cX5_readLetters 90 = .ok (.if_icmp .ne 7, 3) := by decide +kernel
theorem dX5_readLetters_93 : decode cX5_readLetters 93 = .ok (.iconst 1, 1) := by decide +kernel
theorem dX5_readLetters_94 : decode cX5_readLetters 94 = .ok (.goto 4, 3) := by decide +kernel
theorem dX5_readLetters_97 : decode cX5_readLetters 97 = .ok (.iconst 4, 1) := by decide +kernel
theorem dX5_readLetters_98 : decode cX5_readLetters 98 = .ok (.putfield 71, 3) := by decide +kernel
theorem dX5_readLetters_101 : decode cX5_readLetters 101 = .ok (.return_, 1) := by decide +kernel
theorem dX5_readNumber_0 : decode cX5_readNumber 0 = .ok (.iconst 0, 1) := by decide +kernel
theorem dX5_readNumber_1 : decode cX5_readNumber 1 = .ok (.istore_n 1, 1) := by decide +kernel
theorem dX5_readNumber_2 : decode cX5_readNumber 2 = .ok (.aload_n 0, 1) := by decide +kernel
theorem dX5_readNumber_3 : decode cX5_readNumber 3 = .ok (.getfield 58, 3) := by decide +kernel
theorem dX5_readNumber_6 : decode cX5_readNumber 6 = .ok (.aload_n 0, 1) := by decide +kernel
theorem dX5_readNumber_7 : decode cX5_readNumber 7 = .ok (.getfield 46, 3) := by decide +kernel
theorem dX5_readNumber_10 : decode cX5_readNumber 10 = .ok (.if_icmp .ge 59, 3) := by decide +kernel
theorem dX5_readNumber_13 : decode cX5_readNumber 13 = .ok (.aload_n 0, 1) := by decide +kernel
theorem dX5_readNumber_14 : decode cX5_readNumber 14 = .ok (.getfield 7, 3) := by decide +kernel
theorem dX5_readNumber_17 : decode cX5_readNumber 17 = .ok (.aload_n 0, 1) := by decide +kernel
theorem dX5_readNumber_18 : decode cX5_readNumber 18 = .ok (.getfield 58, 3) := by decide +kernel
theorem dX5_readNumber_21 : decode cX5_readNumber 21 = .ok (.iaload, 1) := by decide +kernel
theorem dX5_readNumber_22 : decode cX5_readNumber 22 = .ok (.invokestatic 74, 3) := by decide +kernel
theorem dX5_readNumber_25 : decode cX5_readNumber 25 = .ok (.ifCond .eq 44, 3) := by decide +kernel
theorem dX5_readNumber_28 : decode cX5_readNumber 28 = .ok (.iload_n 1, 1) := by decide +kernel
theorem dX5_readNumber_29 : decode cX5_readNumber 29 = .ok (.bipush 99, 2) := by decide +kernel
theorem dX5_readNumber_31 : decode cX5_readNumber 31 = .ok (.if_icmp .le 7, 3) := by decide +kernel
theorem dX5_readNumber_34 : decode cX5_readNumber 34 = .ok (.iload_n 1, 1) := by decide +kernel
theorem dX5_readNumber_35 : decode cX5_readNumber 35 = .ok (.goto 20, 3) := by decide +kernel
theorem dX5_readNumber_38 : decode cX5_readNumber 38 = .ok (.bipush 10, 2) := by decide +kernel
theorem dX5_readNumber_40 : decode cX5_readNumber 40 = .ok (.iload_n 1, 1) := by decide +kernel
theorem dX5_readNumber_41 : decode cX5_readNumber 41 = .ok (.imul, 1) := by decide +kernel
theorem dX5_readNumber_42 : decode cX5_readNumber 42 = .ok (.aload_n 0, 1) := by decide +kernel
theorem dX5_readNumber_43 : decode cX5_readNumber 43 = .ok (.getfield 7, 3) := by decide +kernel
theorem dX5_readNumber_46 : decode cX5_readNumber 46 = .ok (.aload_n 0, 1) := by decide +kernel
theorem dX5_readNumber_47 : decode cX5_readNumber 47 = .ok (.getfield 58, 3) := by decide +kernel
theorem dX5_readNumber_50 : decode cX5_readNumber 50 = .ok (.iaload, 1) := by decide +kernel
theorem dX5_readNumber_51 : decode cX5_readNumber 51 = .ok (.iadd, 1) := by decide +kernel
theorem dX5_readNumber_52 : decode cX5_readNumber 52 = .ok (.bipush 48, 2) := by decide +kernel
theorem dX5_readNumber_54 : decode cX5_readNumber 54 = .ok (.isub, 1) := by decide +kernel
theorem dX5_readNumber_55 : decode cX5_readNumber 55 = .ok (.istore_n 1, 1) := by decide +kernel
theorem dX5_readNumber_56 : decode cX5_readNumber 56 = .ok (.aload_n 0, 1) := by decide +kernel
theorem dX5_readNumber_57 : decode cX5_readNumber 57 = .ok (.dup, 1) := by decide +kernel
theorem dX5_readNumber_58 : decode cX5_readNumber 58 = .ok (.getfield 58, 3) := by decide +kernel
theorem dX5_readNumber_61 : decode cX5_readNumber 61 = .ok (.iconst 1, 1) := by decide +kernel
theorem dX5_readNumber_62 : decode cX5_readNumber 62 = .ok (.iadd, 1) := by decide +kernel
theorem dX5_readNumber_63 : decode cX5_readNumber 63 = .ok (.putfield 58, 3) := by decide +kernel
theorem dX5_readNumber_66 : decode cX5_readNumber 66 = .ok (.goto (-64), 3) := by decide +kernel
theorem dX5_readNumber_69 : decode cX5_readNumber 69 = .ok (.aload_n 0, 1) := by decide +kernel
theorem dX5_readNumber_70 : decode cX5_readNumber 70 = .ok (.iload_n 1, 1) := by decide +kernel
theorem dX5_readNumber_71 : decode cX5_readNumber 71 = .ok (.bipush 99, 2) := by decide +kernel
theorem dX5_readNumber_73 : decode cX5_readNumber 73 = .ok (.if_icmp .gt 30, 3) := by decide +kernel
theorem dX5_readNumber_76 : decode cX5_readNumber 76 = .ok (.aload_n 0, 1) := by decide +kernel
theorem dX5_readNumber_77 : decode cX5_readNumber 77 = .ok (.getfield 58, 3) := by decide +kernel
theorem dX5_readNumber_80 : decode cX5_readNumber 80 = .ok (.aload_n 0, 1) := by decide +kernel
theorem dX5_readNumber_81 : decode cX5_readNumber 81 = .ok (.getfield 68, 3) := by decide +kernel
theorem dX5_readNumber_84 : decode cX5_readNumber 84 = .ok (.isub, 1) := by decide +kernel
theorem dX5_readNumber_85 : decode cX5_readNumber 85 = .ok (.iconst 1, 1) := by decide +kernel
theorem dX5_readNumber_86 : decode cX5_readNumber 86 = .ok (.if_icmp .le 21, 3) := by decide +kernel
theorem dX5_readNumber_89 : decode cX5_readNumber 89 = .ok (.aload_n 0, 1) := by decide +kernel
theorem dX5_readNumber_90 : decode cX5_readNumber 90 = .ok (.getfield 7, 3) := by decide +kernel
theorem dX5_readNumber_93 : decode cX5_readNumber 93 = .ok (.aload_n 0, 1) := by decide +kernel
theorem dX5_readNumber_94 : decode cX5_readNumber 94 = .ok (.getfield 68, 3) := by decide +kernel
theorem dX5_readNumber_97 : decode cX5_readNumber 97 = .ok (.iaload, 1) := by decide +kernel
theorem dX5_readNumber_98 : decode cX5_readNumber 98 = .ok (.bipush 48, 2) := by decide +kernel
theorem dX5_readNumber_100 : decode cX5_readNumber 100 = .ok (.if_icmp .ne 7, 3) := by decide +kernel
theorem dX5_readNumber_103 : decode cX5_readNumber 103 = .ok (.iconst 4, 1) := by decide +kernel
theorem dX5_readNumber_104 : decode cX5_readNumber 104 = .ok (.goto 4, 3) := by decide +kernel
theorem dX5_readNumber_107 : decode cX5_readNumber 107 = .ok (.iconst 2, 1) := by decide +kernel
theorem dX5_readNumber_108 : decode cX5_readNumber 108 = .ok (.putfield 71, 3) := by decide +kernel
theorem dX5_readNumber_111 : decode cX5_readNumber 111 = .ok (.aload_n 0, 1) := by decide +kernel
theorem dX5_readNumber_112 : decode cX5_readNumber 112 = .ok (.iload_n 1, 1) := by decide +kernel
theorem dX5_readNumber_113 : decode cX5_readNumber 113 = .ok (.putfield 61, 3) := by decide +kernel
theorem dX5_readNumber_116 : decode cX5_readNumber 116 = .ok (.return_, 1) := by decide +kernel
theorem dX5_reads_0 : decode cX5_reads 0 = .ok (.aload_n 0, 1) := by decide +kernel
theorem dX5_reads_1 : decode cX5_reads 1 = .ok (.getfield 58, 3) := by decide +kernel
theorem dX5_reads_4 : decode cX5_reads 4 = .ok (.aload_n 0, 1) := by decide +kernel
theorem dX5_reads_5 : decode cX5_reads 5 = .ok (.getfield 46, 3) := by decide +kernel
theorem dX5_reads_8 : decode cX5_reads 8 = .ok (.if_icmp .ge 30, 3) := by decide +kernel
theorem dX5_reads_11 : decode cX5_reads 11 = .ok (.aload_n 0, 1) := by decide +kernel
theorem dX5_reads_12 : decode cX5_reads 12 = .ok (.getfield 7, 3) := by decide +kernel
theorem dX5_reads_15 : decode cX5_reads 15 = .ok (.aload_n 0, 1) := by decide +kernel
theorem dX5_reads_16 : decode cX5_reads 16 = .ok (.getfield 58, 3) := by decide +kernel
theorem dX5_reads_19 : decode cX5_reads 19 = .ok (.iaload, 1) := by decide +kernel
theorem dX5_reads_20 : decode cX5_reads 20 = .ok (.bipush 32, 2) := by decide +kernel
theorem dX5_reads_22 : decode cX5_reads 22 = .ok (.if_icmp .ne 16, 3) := by decide +kernel
theorem dX5_reads_25 : decode cX5_reads 25 = .ok (.aload_n 0, 1) := by decide +kernel
theorem dX5_reads_26 : decode cX5_reads 26 = .ok (.dup, 1) := by decide +kernel
theorem dX5_reads_27 : decode cX5_reads 27 = .ok (.getfield 58, 3) := by decide +kernel
theorem dX5_reads_30 : decode cX5_reads 30 = .ok (.iconst 1, 1) := by decide +kernel
theorem dX5_reads_31 : decode cX5_reads 31 = .ok (.iadd, 1) := by decide +kernel
theorem dX5_reads_32 : decode cX5_reads 32 = .ok (.putfield 58, 3) := by decide +kernel
theorem dX5_reads_35 : decode cX5_reads 35 = .ok (.goto (-35), 3) := by decide +kernel
theorem dX5_reads_38 : decode cX5_reads 38 = .ok (.aload_n 0, 1) := by decide +kernel
theorem dX5_reads_39 : decode cX5_reads 39 = .ok (.aload_n 0, 1) := by decide +kernel
theorem dX5_reads_40 : decode cX5_reads 40 = .ok (.getfield 58, 3) := by decide +kernel
theorem dX5_reads_43 : decode cX5_reads 43 = .ok (.putfield 68, 3) := by decide +kernel
theorem dX5_reads_46 : decode cX5_reads 46 = .ok (.aload_n 0, 1) := by decide +kernel
theorem dX5_reads_47 : decode cX5_reads 47 = .ok (.getfield 58, 3) := by decide +kernel
theorem dX5_reads_50 : decode cX5_reads 50 = .ok (.aload_n 0, 1) := by decide +kernel
theorem dX5_reads_51 : decode cX5_reads 51 = .ok (.getfield 46, 3) := by decide +kernel
theorem dX5_reads_54 : decode cX5_reads 54 = .ok (.if_icmp .ne 11, 3) := by decide +kernel
theorem dX5_reads_57 : decode cX5_reads 57 = .ok (.aload_n 0, 1) := by decide +kernel
theorem dX5_reads_58 : decode cX5_reads 58 = .ok (.iconst 0, 1) := by decide +kernel
theorem dX5_reads_59 : decode cX5_reads 59 = .ok (.putfield 71, 3) := by decide +kernel
theorem dX5_reads_62 : decode cX5_reads 62 = .ok (.goto 92, 3) := by decide +kernel
theorem dX5_reads_65 : decode cX5_reads 65 = .ok (.aload_n 0, 1) := by decide +kernel
theorem dX5_reads_66 : decode cX5_reads 66 = .ok (.getfield 7, 3) := by decide +kernel
theorem dX5_reads_69 : decode cX5_reads 69 = .ok (.aload_n 0, 1) := by decide +kernel
theorem dX5_reads_70 : decode cX5_reads 70 = .ok (.getfield 58, 3) := by decide +kernel
theorem dX5_reads_73 : decode cX5_reads 73 = .ok (.iaload, 1) := by decide +kernel
theorem dX5_reads_74 : decode cX5_reads 74 = .ok (.invokestatic 64, 3) := by decide +kernel
theorem dX5_reads_77 : decode cX5_reads 77 = .ok (.ifCond .eq 10, 3) := by decide +kernel
theorem dX5_reads_80 : decode cX5_reads 80 = .ok (.aload_n 0, 1) := by decide +kernel
theorem dX5_reads_81 : decode cX5_reads 81 = .ok (.invokevirtual 77, 3) := by decide +kernel
theorem dX5_reads_84 : decode cX5_reads 84 = .ok (.goto 70, 3) := by decide +kernel
theorem dX5_reads_87 : decode cX5_reads 87 = .ok (.aload_n 0, 1) := by decide +kernel
theorem dX5_reads_88 : decode cX5_reads 88 = .ok (.getfield 7, 3) := by decide +kernel
theorem dX5_reads_91 : decode cX5_reads 91 = .ok (.aload_n 0, 1) := by decide +kernel
theorem dX5_reads_92 : decode cX5_reads 92 = .ok (.getfield 58, 3) := by decide +kernel
theorem dX5_reads_95 : decode cX5_reads 95 = .ok (.iaload, 1) := by decide +kernel
theorem dX5_reads_96 : decode cX5_reads 96 = .ok (.invokestatic 74, 3) := by decide +kernel
theorem dX5_reads_99 : decode cX5_reads 99 = .ok (.ifCond .eq 10, 3) := by decide +kernel
theorem dX5_reads_102 : decode cX5_reads 102 = .ok (.aload_n 0, 1) := by decide +kernel
theorem dX5_reads_103 : decode cX5_reads 103 = .ok (.invokevirtual 80, 3) := by decide +kernel
theorem dX5_reads_106 : decode cX5_reads 106 = .ok (.goto 48, 3) := by decide +kernel
theorem dX5_reads_109 : decode cX5_reads 109 = .ok (.aload_n 0, 1) := by decide +kernel
theorem dX5_reads_110 : decode cX5_reads 110 = .ok (.aload_n 0, 1) := by decide +kernel
theorem dX5_reads_111 : decode cX5_reads 111 = .ok (.getfield 7, 3) := by decide +kernel
theorem dX5_reads_114 : decode cX5_reads 114 = .ok (.aload_n 0, 1) := by decide +kernel
theorem dX5_reads_115 : decode cX5_reads 115 = .ok (.getfield 58, 3) := by decide +kernel
theorem dX5_reads_118 : decode cX5_reads 118 = .ok (.iaload, 1) := by decide +kernel
theorem dX5_reads_119 : decode cX5_reads 119 = .ok (.bipush 59, 2) := by decide +kernel
theorem dX5_reads_121 : decode cX5_reads 121 = .ok (.if_icmp .ne 7, 3) := by decide +kernel
theorem dX5_reads_124 : decode cX5_reads 124 = .ok (.iconst 3, 1) := by decide +kernel
theorem dX5_reads_125 : decode cX5_reads 125 = .ok (.goto 4, 3) := by decide +kernel
theorem dX5_reads_128 : decode cX5_reads 128 = .ok (.iconst 4, 1) := by decide +kernel
theorem dX5_reads_129 : decode cX5_reads 129 = .ok (.putfield 71, 3) := by decide +kernel
theorem dX5_reads_132 : decode cX5_reads 132 = .ok (.aload_n 0, 1) := by decide +kernel
theorem dX5_reads_133 : decode cX5_reads 133 = .ok (.dup, 1) := by decide +kernel
theorem dX5_reads_134 : decode cX5_reads 134 = .ok (.getfield 58, 3) := by decide +kernel
theorem dX5_reads_137 : decode cX5_reads 137 = .ok (.aload_n 0, 1) := by decide +kernel
theorem dX5_reads_138 : decode cX5_reads 138 = .ok (.getfield 71, 3) := by decide +kernel
theorem dX5_reads_141 : decode cX5_reads 141 = .ok (.iconst 3, 1) := by decide +kernel
theorem dX5_reads_142 : decode cX5_reads 142 = .ok (.if_icmp .ne 7, 3) := by decide +kernel
theorem dX5_reads_145 : decode cX5_reads 145 = .ok (.iconst 1, 1) := by decide +kernel
theorem dX5_reads_146 : decode cX5_reads 146 = .ok (.goto 4, 3) := by decide +kernel
theorem dX5_reads_149 : decode cX5_reads 149 = .ok (.iconst 0, 1) := by decide +kernel
theorem dX5_reads_150 : decode cX5_reads 150 = .ok (.iadd, 1) := by decide +kernel
theorem dX5_reads_151 : decode cX5_reads 151 = .ok (.putfield 58, 3) := by decide +kernel
theorem dX5_reads_154 : decode cX5_reads 154 = .ok (.return_, 1) := by decide +kernel
theorem dX5_number_0 : decode cX5_number 0 = .ok (.aload_n 0, 1) := by decide +kernel
theorem dX5_number_1 : decode cX5_number 1 = .ok (.invokevirtual 83, 3) := by decide +kernel
theorem dX5_number_4 : decode cX5_number 4 = .ok (.aload_n 0, 1) := by decide +kernel
theorem dX5_number_5 : decode cX5_number 5 = .ok (.getfield 71, 3) := by decide +kernel
theorem dX5_number_8 : decode cX5_number 8 = .ok (.iconst 2, 1) := by decide +kernel
theorem dX5_number_9 : decode cX5_number 9 = .ok (.if_icmp .ne 22, 3) := by decide +kernel
theorem dX5_number_12 : decode cX5_number 12 = .ok (.aload_n 0, 1) := by decide +kernel
theorem dX5_number_13 : decode cX5_number 13 = .ok (.getfield 61, 3) := by decide +kernel
theorem dX5_number_16 : decode cX5_number 16 = .ok (.i2l, 1) := by decide +kernel
theorem dX5_number_17 : decode cX5_number 17 = .ok (.iload_n 1, 1) := by decide +kernel
theorem dX5_number_18 : decode cX5_number 18 = .ok (.i2l, 1) := by decide +kernel
theorem dX5_number_19 : decode cX5_number 19 = .ok (.iload_n 2, 1) := by decide +kernel
theorem dX5_number_20 : decode cX5_number 20 = .ok (.i2l, 1) := by decide +kernel
theorem dX5_number_21 : decode cX5_number 21 = .ok (.invokestatic 42, 3) := by decide +kernel
theorem dX5_number_24 : decode cX5_number 24 = .ok (.ifCond .eq 7, 3) := by decide +kernel
theorem dX5_number_27 : decode cX5_number 27 = .ok (.iconst 1, 1) := by decide +kernel
theorem dX5_number_28 : decode cX5_number 28 = .ok (.goto 4, 3) := by decide +kernel
theorem dX5_number_31 : decode cX5_number 31 = .ok (.iconst 0, 1) := by decide +kernel
theorem dX5_number_32 : decode cX5_number 32 = .ok (.ireturn, 1) := by decide +kernel
theorem dX5_plain_0 : decode cX5_plain 0 = .ok (.aload_n 0, 1) := by decide +kernel
theorem dX5_plain_1 : decode cX5_plain 1 = .ok (.getfield 13, 3) := by decide +kernel
theorem dX5_plain_4 : decode cX5_plain 4 = .ok (.iconst 0, 1) := by decide +kernel
theorem dX5_plain_5 : decode cX5_plain 5 = .ok (.bipush 12, 2) := by decide +kernel
theorem dX5_plain_7 : decode cX5_plain 7 = .ok (.iastore, 1) := by decide +kernel
theorem dX5_plain_8 : decode cX5_plain 8 = .ok (.aload_n 0, 1) := by decide +kernel
theorem dX5_plain_9 : decode cX5_plain 9 = .ok (.getfield 13, 3) := by decide +kernel
theorem dX5_plain_12 : decode cX5_plain 12 = .ok (.iconst 1, 1) := by decide +kernel
theorem dX5_plain_13 : decode cX5_plain 13 = .ok (.iconst 4, 1) := by decide +kernel
theorem dX5_plain_14 : decode cX5_plain 14 = .ok (.iastore, 1) := by decide +kernel
theorem dX5_plain_15 : decode cX5_plain 15 = .ok (.aload_n 0, 1) := by decide +kernel
theorem dX5_plain_16 : decode cX5_plain 16 = .ok (.getfield 13, 3) := by decide +kernel
theorem dX5_plain_19 : decode cX5_plain 19 = .ok (.iconst 2, 1) := by decide +kernel
theorem dX5_plain_20 : decode cX5_plain 20 = .ok (.iconst 0, 1) := by decide +kernel
theorem dX5_plain_21 : decode cX5_plain 21 = .ok (.iastore, 1) := by decide +kernel
theorem dX5_plain_22 : decode cX5_plain 22 = .ok (.aload_n 0, 1) := by decide +kernel
theorem dX5_plain_23 : decode cX5_plain 23 = .ok (.getfield 13, 3) := by decide +kernel
theorem dX5_plain_26 : decode cX5_plain 26 = .ok (.iconst 3, 1) := by decide +kernel
theorem dX5_plain_27 : decode cX5_plain 27 = .ok (.iconst 0, 1) := by decide +kernel
theorem dX5_plain_28 : decode cX5_plain 28 = .ok (.iastore, 1) := by decide +kernel
theorem dX5_plain_29 : decode cX5_plain 29 = .ok (.iconst 0, 1) := by decide +kernel
theorem dX5_plain_30 : decode cX5_plain 30 = .ok (.istore_n 1, 1) := by decide +kernel
theorem dX5_plain_31 : decode cX5_plain 31 = .ok (.iload_n 1, 1) := by decide +kernel
theorem dX5_plain_32 : decode cX5_plain 32 = .ok (.iconst 3, 1) := by decide +kernel
theorem dX5_plain_33 : decode cX5_plain 33 = .ok (.if_icmp .ge 50, 3) := by decide +kernel
theorem dX5_plain_36 : decode cX5_plain 36 = .ok (.aload_n 0, 1) := by decide +kernel
theorem dX5_plain_37 : decode cX5_plain 37 = .ok (.getfield 13, 3) := by decide +kernel
theorem dX5_plain_40 : decode cX5_plain 40 = .ok (.iconst 4, 1) := by decide +kernel
theorem dX5_plain_41 : decode cX5_plain 41 = .ok (.bipush 7, 2) := by decide +kernel
theorem dX5_plain_43 : decode cX5_plain 43 = .ok (.iload_n 1, 1) := by decide +kernel
theorem dX5_plain_44 : decode cX5_plain 44 = .ok (.imul, 1) := by decide +kernel
theorem dX5_plain_45 : decode cX5_plain 45 = .ok (.iadd, 1) := by decide +kernel
theorem dX5_plain_46 : decode cX5_plain 46 = .ok (.bipush 6, 2) := by decide +kernel
theorem dX5_plain_48 : decode cX5_plain 48 = .ok (.iastore, 1) := by decide +kernel
theorem dX5_plain_49 : decode cX5_plain 49 = .ok (.iconst 1, 1) := by decide +kernel
theorem dX5_plain_50 : decode cX5_plain 50 = .ok (.istore_n 2, 1) := by decide +kernel
theorem dX5_plain_51 : decode cX5_plain 51 = .ok (.iload_n 2, 1) := by decide +kernel
theorem dX5_plain_52 : decode cX5_plain 52 = .ok (.bipush 7, 2) := by decide +kernel
theorem dX5_plain_54 : decode cX5_plain 54 = .ok (.if_icmp .ge 23, 3) := by decide +kernel
theorem dX5_plain_57 : decode cX5_plain 57 = .ok (.aload_n 0, 1) := by decide +kernel
theorem dX5_plain_58 : decode cX5_plain 58 = .ok (.getfield 13, 3) := by decide +kernel
theorem dX5_plain_61 : decode cX5_plain 61 = .ok (.iconst 4, 1) := by decide +kernel
theorem dX5_plain_62 : decode cX5_plain 62 = .ok (.bipush 7, 2) := by decide +kernel
theorem dX5_plain_64 : decode cX5_plain 64 = .ok (.iload_n 1, 1) := by decide +kernel
theorem dX5_plain_65 : decode cX5_plain 65 = .ok (.imul, 1) := by decide +kernel
theorem dX5_plain_66 : decode cX5_plain 66 = .ok (.iadd, 1) := by decide +kernel
theorem dX5_plain_67 : decode cX5_plain 67 = .ok (.iload_n 2, 1) := by decide +kernel
theorem dX5_plain_68 : decode cX5_plain 68 = .ok (.iadd, 1) := by decide +kernel
theorem dX5_plain_69 : decode cX5_plain 69 = .ok (.iload_n 2, 1) := by decide +kernel
theorem dX5_plain_70 : decode cX5_plain 70 = .ok (.iastore, 1) := by decide +kernel
theorem dX5_plain_71 : decode cX5_plain 71 = .ok (.iinc 2 1, 3) := by decide +kernel
theorem dX5_plain_74 : decode cX5_plain 74 = .ok (.goto (-23), 3) := by decide +kernel
theorem dX5_plain_77 : decode cX5_plain 77 = .ok (.iinc 1 1, 3) := by decide +kernel
theorem dX5_plain_80 : decode cX5_plain 80 = .ok (.goto (-49), 3) := by decide +kernel
theorem dX5_plain_83 : decode cX5_plain 83 = .ok (.return_, 1) := by decide +kernel
theorem dX5_readDie_0 : decode cX5_readDie 0 = .ok (.iconst 4, 1) := by decide +kernel
theorem dX5_readDie_1 : decode cX5_readDie 1 = .ok (.bipush 7, 2) := by decide +kernel
theorem dX5_readDie_3 : decode cX5_readDie 3 = .ok (.aload_n 0, 1) := by decide +kernel
theorem dX5_readDie_4 : decode cX5_readDie 4 = .ok (.getfield 13, 3) := by decide +kernel
theorem dX5_readDie_7 : decode cX5_readDie 7 = .ok (.iconst 2, 1) := by decide +kernel
theorem dX5_readDie_8 : decode cX5_readDie 8 = .ok (.iaload, 1) := by decide +kernel
theorem dX5_readDie_9 : decode cX5_readDie 9 = .ok (.imul, 1) := by decide +kernel
theorem dX5_readDie_10 : decode cX5_readDie 10 = .ok (.iadd, 1) := by decide +kernel
theorem dX5_readDie_11 : decode cX5_readDie 11 = .ok (.istore_n 1, 1) := by decide +kernel
theorem dX5_readDie_12 : decode cX5_readDie 12 = .ok (.aload_n 0, 1) := by decide +kernel
theorem dX5_readDie_13 : decode cX5_readDie 13 = .ok (.getfield 13, 3) := by decide +kernel
theorem dX5_readDie_16 : decode cX5_readDie 16 = .ok (.iconst 2, 1) := by decide +kernel
theorem dX5_readDie_17 : decode cX5_readDie 17 = .ok (.iaload, 1) := by decide +kernel
theorem dX5_readDie_18 : decode cX5_readDie 18 = .ok (.iconst 3, 1) := by decide +kernel
theorem dX5_readDie_19 : decode cX5_readDie 19 = .ok (.if_icmp .eq 13, 3) := by decide +kernel
theorem dX5_readDie_22 : decode cX5_readDie 22 = .ok (.aload_n 0, 1) := by decide +kernel
theorem dX5_readDie_23 : decode cX5_readDie 23 = .ok (.iconst 1, 1) := by decide +kernel
theorem dX5_readDie_24 : decode cX5_readDie 24 = .ok (.bipush 9, 2) := by decide +kernel
theorem dX5_readDie_26 : decode cX5_readDie 26 = .ok (.invokevirtual 86, 3) := by decide +kernel
theorem dX5_readDie_29 : decode cX5_readDie 29 = .ok (.ifCond .ne 5, 3) := by decide +kernel
theorem dX5_readDie_32 : decode cX5_readDie 32 = .ok (.iconst 0, 1) := by decide +kernel
theorem dX5_readDie_33 : decode cX5_readDie 33 = .ok (.ireturn, 1) := by decide +kernel
theorem dX5_readDie_34 : decode cX5_readDie 34 = .ok (.iconst 0, 1) := by decide +kernel
theorem dX5_readDie_35 : decode cX5_readDie 35 = .ok (.istore_n 2, 1) := by decide +kernel
theorem dX5_readDie_36 : decode cX5_readDie 36 = .ok (.aload_n 0, 1) := by decide +kernel
theorem dX5_readDie_37 : decode cX5_readDie 37 = .ok (.getfield 71, 3) := by decide +kernel
theorem dX5_readDie_40 : decode cX5_readDie 40 = .ok (.iconst 2, 1) := by decide +kernel
theorem dX5_readDie_41 : decode cX5_readDie 41 = .ok (.if_icmp .ne 48, 3) := by decide +kernel
theorem dX5_readDie_44 : decode cX5_readDie 44 = .ok (.iload_n 2, 1) := by decide +kernel
theorem dX5_readDie_45 : decode cX5_readDie 45 = .ok (.bipush 6, 2) := by decide +kernel
theorem dX5_readDie_47 : decode cX5_readDie 47 = .ok (.if_icmp .eq 18, 3) := by decide +kernel
theorem dX5_readDie_50 : decode cX5_readDie 50 = .ok (.aload_n 0, 1) := by decide +kernel
theorem dX5_readDie_51 : decode cX5_readDie 51 = .ok (.getfield 61, 3) := by decide +kernel
theorem dX5_readDie_54 : decode cX5_readDie 54 = .ok (.i2l, 1) := by decide +kernel
theorem dX5_readDie_55 : decode cX5_readDie 55 = .ok (.lconst 1, 1) := by decide +kernel
theorem dX5_readDie_56 : decode cX5_readDie 56 = .ok (.ldc2_w 90, 3) := by decide +kernel
theorem dX5_readDie_59 : decode cX5_readDie 59 = .ok (.invokestatic 42, 3) := by decide +kernel
theorem dX5_readDie_62 : decode cX5_readDie 62 = .ok (.ifCond .ne 5, 3) := by decide +kernel
theorem dX5_readDie_65 : decode cX5_readDie 65 = .ok (.iconst 0, 1) := by decide +kernel
theorem dX5_readDie_66 : decode cX5_readDie 66 = .ok (.ireturn, 1) := by decide +kernel
theorem dX5_readDie_67 : decode cX5_readDie 67 = .ok (.iinc 2 1, 3) := by decide +kernel
theorem dX5_readDie_70 : decode cX5_readDie 70 = .ok (.aload_n 0, 1) := by decide +kernel
theorem dX5_readDie_71 : decode cX5_readDie 71 = .ok (.getfield 13, 3) := by decide +kernel
theorem dX5_readDie_74 : decode cX5_readDie 74 = .ok (.iload_n 1, 1) := by decide +kernel
theorem dX5_readDie_75 : decode cX5_readDie 75 = .ok (.iload_n 2, 1) := by decide +kernel
theorem dX5_readDie_76 : decode cX5_readDie 76 = .ok (.iadd, 1) := by decide +kernel
theorem dX5_readDie_77 : decode cX5_readDie 77 = .ok (.aload_n 0, 1) := by decide +kernel
theorem dX5_readDie_78 : decode cX5_readDie 78 = .ok (.getfield 61, 3) := by decide +kernel
theorem dX5_readDie_81 : decode cX5_readDie 81 = .ok (.iastore, 1) := by decide +kernel
theorem dX5_readDie_82 : decode cX5_readDie 82 = .ok (.aload_n 0, 1) := by decide +kernel
theorem dX5_readDie_83 : decode cX5_readDie 83 = .ok (.invokevirtual 83, 3) := by decide +kernel
theorem dX5_readDie_86 : decode cX5_readDie 86 = .ok (.goto (-50), 3) := by decide +kernel
theorem dX5_readDie_89 : decode cX5_readDie 89 = .ok (.aload_n 0, 1) := by decide +kernel
theorem dX5_readDie_90 : decode cX5_readDie 90 = .ok (.getfield 13, 3) := by decide +kernel
theorem dX5_readDie_93 : decode cX5_readDie 93 = .ok (.iload_n 1, 1) := by decide +kernel
theorem dX5_readDie_94 : decode cX5_readDie 94 = .ok (.iload_n 2, 1) := by decide +kernel
theorem dX5_readDie_95 : decode cX5_readDie 95 = .ok (.iastore, 1) := by decide +kernel
theorem dX5_readDie_96 : decode cX5_readDie 96 = .ok (.aload_n 0, 1) := by decide +kernel
theorem dX5_readDie_97 : decode cX5_readDie 97 = .ok (.getfield 13, 3) := by decide +kernel
theorem dX5_readDie_100 : decode cX5_readDie 100 = .ok (.iconst 2, 1) := by decide +kernel
theorem dX5_readDie_101 : decode cX5_readDie 101 = .ok (.dup2, 1) := by decide +kernel
theorem dX5_readDie_102 : decode cX5_readDie 102 = .ok (.iaload, 1) := by decide +kernel
theorem dX5_readDie_103 : decode cX5_readDie 103 = .ok (.iconst 1, 1) := by decide +kernel
theorem dX5_readDie_104 : decode cX5_readDie 104 = .ok (.iadd, 1) := by decide +kernel
theorem dX5_readDie_105 : decode cX5_readDie 105 = .ok (.iastore, 1) := by decide +kernel
theorem dX5_readDie_106 : decode cX5_readDie 106 = .ok (.aload_n 0, 1) := by decide +kernel
theorem dX5_readDie_107 : decode cX5_readDie 107 = .ok (.getfield 71, 3) := by decide +kernel
theorem dX5_readDie_110 : decode cX5_readDie 110 = .ok (.iconst 3, 1) := by decide +kernel
theorem dX5_readDie_111 : decode cX5_readDie 111 = .ok (.if_icmp .ne 7, 3) := by decide +kernel
theorem dX5_readDie_114 : decode cX5_readDie 114 = .ok (.iconst 1, 1) := by decide +kernel
theorem dX5_readDie_115 : decode cX5_readDie 115 = .ok (.goto 4, 3) := by decide +kernel
theorem dX5_readDie_118 : decode cX5_readDie 118 = .ok (.iconst 0, 1) := by decide +kernel
theorem dX5_readDie_119 : decode cX5_readDie 119 = .ok (.ireturn, 1) := by decide +kernel
theorem dX5_once_0 : decode cX5_once 0 = .ok (.aload_n 0, 1) := by decide +kernel
theorem dX5_once_1 : decode cX5_once 1 = .ok (.getfield 13, 3) := by decide +kernel
theorem dX5_once_4 : decode cX5_once 4 = .ok (.iconst 3, 1) := by decide +kernel
theorem dX5_once_5 : decode cX5_once 5 = .ok (.iaload, 1) := by decide +kernel
theorem dX5_once_6 : decode cX5_once 6 = .ok (.iload_n 1, 1) := by decide +kernel
theorem dX5_once_7 : decode cX5_once 7 = .ok (.iand, 1) := by decide +kernel
theorem dX5_once_8 : decode cX5_once 8 = .ok (.ifCond .ne 13, 3) := by decide +kernel
theorem dX5_once_11 : decode cX5_once 11 = .ok (.aload_n 0, 1) := by decide +kernel
theorem dX5_once_12 : decode cX5_once 12 = .ok (.iload_n 3, 1) := by decide +kernel
theorem dX5_once_13 : decode cX5_once 13 = .ok (.iload 4, 2) := by decide +kernel
theorem dX5_once_15 : decode cX5_once 15 = .ok (.invokevirtual 86, 3) := by decide +kernel
theorem dX5_once_18 : decode cX5_once 18 = .ok (.ifCond .ne 5, 3) := by decide +kernel
theorem dX5_once_21 : decode cX5_once 21 = .ok (.iconst 0, 1) := by decide +kernel
theorem dX5_once_22 : decode cX5_once 22 = .ok (.ireturn, 1) := by decide +kernel
theorem dX5_once_23 : decode cX5_once 23 = .ok (.aload_n 0, 1) := by decide +kernel
theorem dX5_once_24 : decode cX5_once 24 = .ok (.getfield 13, 3) := by decide +kernel
theorem dX5_once_27 : decode cX5_once 27 = .ok (.iconst 3, 1) := by decide +kernel
theorem dX5_once_28 : decode cX5_once 28 = .ok (.dup2, 1) := by decide +kernel
theorem dX5_once_29 : decode cX5_once 29 = .ok (.iaload, 1) := by decide +kernel
theorem dX5_once_30 : decode cX5_once 30 = .ok (.iload_n 1, 1) := by decide +kernel
theorem dX5_once_31 : decode cX5_once 31 = .ok (.ior, 1) := by decide +kernel
theorem dX5_once_32 : decode cX5_once 32 = .ok (.iastore, 1) := by decide +kernel
theorem dX5_once_33 : decode cX5_once 33 = .ok (.aload_n 0, 1) := by decide +kernel
theorem dX5_once_34 : decode cX5_once 34 = .ok (.getfield 13, 3) := by decide +kernel
theorem dX5_once_37 : decode cX5_once 37 = .ok (.iload_n 2, 1) := by decide +kernel
theorem dX5_once_38 : decode cX5_once 38 = .ok (.aload_n 0, 1) := by decide +kernel
theorem dX5_once_39 : decode cX5_once 39 = .ok (.getfield 61, 3) := by decide +kernel
theorem dX5_once_42 : decode cX5_once 42 = .ok (.iastore, 1) := by decide +kernel
theorem dX5_once_43 : decode cX5_once 43 = .ok (.aload_n 0, 1) := by decide +kernel
theorem dX5_once_44 : decode cX5_once 44 = .ok (.invokevirtual 83, 3) := by decide +kernel
theorem dX5_once_47 : decode cX5_once 47 = .ok (.aload_n 0, 1) := by decide +kernel
theorem dX5_once_48 : decode cX5_once 48 = .ok (.getfield 71, 3) := by decide +kernel
theorem dX5_once_51 : decode cX5_once 51 = .ok (.iconst 3, 1) := by decide +kernel
theorem dX5_once_52 : decode cX5_once 52 = .ok (.if_icmp .ne 7, 3) := by decide +kernel
theorem dX5_once_55 : decode cX5_once 55 = .ok (.iconst 1, 1) := by decide +kernel
theorem dX5_once_56 : decode cX5_once 56 = .ok (.goto 4, 3) := by decide +kernel
theorem dX5_once_59 : decode cX5_once 59 = .ok (.iconst 0, 1) := by decide +kernel
theorem dX5_once_60 : decode cX5_once 60 = .ok (.ireturn, 1) := by decide +kernel
theorem dX5_readItem_0 : decode cX5_readItem 0 = .ok (.aload_n 0, 1) := by decide +kernel
theorem dX5_readItem_1 : decode cX5_readItem 1 = .ok (.getfield 71, 3) := by decide +kernel
theorem dX5_readItem_4 : decode cX5_readItem 4 = .ok (.iconst 1, 1) := by decide +kernel
theorem dX5_readItem_5 : decode cX5_readItem 5 = .ok (.if_icmp .eq 5, 3) := by decide +kernel
theorem dX5_readItem_8 : decode cX5_readItem 8 = .ok (.iconst 0, 1) := by decide +kernel
theorem dX5_readItem_9 : decode cX5_readItem 9 = .ok (.ireturn, 1) := by decide +kernel
theorem dX5_readItem_10 : decode cX5_readItem 10 = .ok (.aload_n 0, 1) := by decide +kernel
theorem dX5_readItem_11 : decode cX5_readItem 11 = .ok (.getfield 61, 3) := by decide +kernel
theorem dX5_readItem_14 : decode cX5_readItem 14 = .ok (.bipush 100, 2) := by decide +kernel
theorem dX5_readItem_16 : decode cX5_readItem 16 = .ok (.if_icmp .ne 10, 3) := by decide +kernel
theorem dX5_readItem_19 : decode cX5_readItem 19 = .ok (.aload_n 0, 1) := by decide +kernel
theorem dX5_readItem_20 : decode cX5_readItem 20 = .ok (.invokevirtual 92, 3) := by decide +kernel
theorem dX5_readItem_23 : decode cX5_readItem 23 = .ok (.goto 33, 3) := by decide +kernel
theorem dX5_readItem_26 : decode cX5_readItem 26 = .ok (.aload_n 0, 1) := by decide +kernel
theorem dX5_readItem_27 : decode cX5_readItem 27 = .ok (.getfield 61, 3) := by decide +kernel
theorem dX5_readItem_30 : decode cX5_readItem 30 = .ok (.bipush 98, 2) := by decide +kernel
theorem dX5_readItem_32 : decode cX5_readItem 32 = .ok (.if_icmp .ne 15, 3) := by decide +kernel
theorem dX5_readItem_35 : decode cX5_readItem 35 = .ok (.aload_n 0, 1) := by decide +kernel
theorem dX5_readItem_36 : decode cX5_readItem 36 = .ok (.iconst 1, 1) := by decide +kernel
theorem dX5_readItem_37 : decode cX5_readItem 37 = .ok (.iconst 0, 1) := by decide +kernel
theorem dX5_readItem_38 : decode cX5_readItem 38 = .ok (.iconst 3, 1) := by decide +kernel
theorem dX5_readItem_39 : decode cX5_readItem 39 = .ok (.bipush 18, 2) := by decide +kernel
theorem dX5_readItem_41 : decode cX5_readItem 41 = .ok (.invokevirtual 96, 3) := by decide +kernel
theorem dX5_readItem_44 : decode cX5_readItem 44 = .ok (.goto 12, 3) := by decide +kernel
theorem dX5_readItem_47 : decode cX5_readItem 47 = .ok (.aload_n 0, 1) := by decide +kernel
theorem dX5_readItem_48 : decode cX5_readItem 48 = .ok (.iconst 2, 1) := by decide +kernel
theorem dX5_readItem_49 : decode cX5_readItem 49 = .ok (.iconst 1, 1) := by decide +kernel
theorem dX5_readItem_50 : decode cX5_readItem 50 = .ok (.iconst 1, 1) := by decide +kernel
theorem dX5_readItem_51 : decode cX5_readItem 51 = .ok (.bipush 9, 2) := by decide +kernel
theorem dX5_readItem_53 : decode cX5_readItem 53 = .ok (.invokevirtual 96, 3) := by decide +kernel
theorem dX5_readItem_56 : decode cX5_readItem 56 = .ok (.ireturn, 1) := by decide +kernel
theorem dX5_harbour_0 : decode cX5_harbour 0 = .ok (.aload_n 0, 1) := by decide +kernel
theorem dX5_harbour_1 : decode cX5_harbour 1 = .ok (.invokevirtual 34, 3) := by decide +kernel
theorem dX5_harbour_4 : decode cX5_harbour 4 = .ok (.aload_n 0, 1) := by decide +kernel
theorem dX5_harbour_5 : decode cX5_harbour 5 = .ok (.iconst 0, 1) := by decide +kernel
theorem dX5_harbour_6 : decode cX5_harbour 6 = .ok (.putfield 58, 3) := by decide +kernel
theorem dX5_harbour_9 : decode cX5_harbour 9 = .ok (.iconst 0, 1) := by decide +kernel
theorem dX5_harbour_10 : decode cX5_harbour 10 = .ok (.istore_n 1, 1) := by decide +kernel
theorem dX5_harbour_11 : decode cX5_harbour 11 = .ok (.aload_n 0, 1) := by decide +kernel
theorem dX5_harbour_12 : decode cX5_harbour 12 = .ok (.invokevirtual 83, 3) := by decide +kernel
theorem dX5_harbour_15 : decode cX5_harbour 15 = .ok (.aload_n 0, 1) := by decide +kernel
theorem dX5_harbour_16 : decode cX5_harbour 16 = .ok (.getfield 71, 3) := by decide +kernel
theorem dX5_harbour_19 : decode cX5_harbour 19 = .ok (.ifCond .eq 28, 3) := by decide +kernel
theorem dX5_harbour_22 : decode cX5_harbour 22 = .ok (.aload_n 0, 1) := by decide +kernel
theorem dX5_harbour_23 : decode cX5_harbour 23 = .ok (.invokevirtual 100, 3) := by decide +kernel
theorem dX5_harbour_26 : decode cX5_harbour 26 = .ok (.ifCond .ne 11, 3) := by decide +kernel
theorem dX5_harbour_29 : decode cX5_harbour 29 = .ok (.bipush (-10), 2) := by decide +kernel
theorem dX5_harbour_31 : decode cX5_harbour 31 = .ok (.aload_n 0, 1) := by decide +kernel
theorem dX5_harbour_32 : decode cX5_harbour 32 = .ok (.getfield 68, 3) := by decide +kernel
theorem dX5_harbour_35 : decode cX5_harbour 35 = .ok (.isub, 1) := by decide +kernel
theorem dX5_harbour_36 : decode cX5_harbour 36 = .ok (.ireturn, 1) := by decide +kernel
theorem dX5_harbour_37 : decode cX5_harbour 37 = .ok (.iinc 1 1, 3) := by decide +kernel
theorem dX5_harbour_40 : decode cX5_harbour 40 = .ok (.aload_n 0, 1) := by decide +kernel
theorem dX5_harbour_41 : decode cX5_harbour 41 = .ok (.invokevirtual 83, 3) := by decide +kernel
theorem dX5_harbour_44 : decode cX5_harbour 44 = .ok (.goto (-29), 3) := by decide +kernel
theorem dX5_harbour_47 : decode cX5_harbour 47 = .ok (.aload_n 0, 1) := by decide +kernel
theorem dX5_harbour_48 : decode cX5_harbour 48 = .ok (.iconst 0, 1) := by decide +kernel
theorem dX5_harbour_49 : decode cX5_harbour 49 = .ok (.putfield 46, 3) := by decide +kernel
theorem dX5_harbour_52 : decode cX5_harbour 52 = .ok (.aload_n 0, 1) := by decide +kernel
theorem dX5_harbour_53 : decode cX5_harbour 53 = .ok (.invokevirtual 37, 3) := by decide +kernel
theorem dX5_harbour_56 : decode cX5_harbour 56 = .ok (.iload_n 1, 1) := by decide +kernel
theorem dX5_harbour_57 : decode cX5_harbour 57 = .ok (.ireturn, 1) := by decide +kernel
theorem dX5_takesAll_0 : decode cX5_takesAll 0 = .ok (.iconst 0, 1) := by decide +kernel
theorem dX5_takesAll_1 : decode cX5_takesAll 1 = .ok (.istore_n 1, 1) := by decide +kernel
theorem dX5_takesAll_2 : decode cX5_takesAll 2 = .ok (.iload_n 1, 1) := by decide +kernel
theorem dX5_takesAll_3 : decode cX5_takesAll 3 = .ok (.bipush 25, 2) := by decide +kernel
theorem dX5_takesAll_5 : decode cX5_takesAll 5 = .ok (.if_icmp .ge 21, 3) := by decide +kernel
theorem dX5_takesAll_8 : decode cX5_takesAll 8 = .ok (.aload_n 0, 1) := by decide +kernel
theorem dX5_takesAll_9 : decode cX5_takesAll 9 = .ok (.getfield 16, 3) := by decide +kernel
theorem dX5_takesAll_12 : decode cX5_takesAll 12 = .ok (.iload_n 1, 1) := by decide +kernel
theorem dX5_takesAll_13 : decode cX5_takesAll 13 = .ok (.aload_n 0, 1) := by decide +kernel
theorem dX5_takesAll_14 : decode cX5_takesAll 14 = .ok (.getfield 13, 3) := by decide +kernel
theorem dX5_takesAll_17 : decode cX5_takesAll 17 = .ok (.iload_n 1, 1) := by decide +kernel
theorem dX5_takesAll_18 : decode cX5_takesAll 18 = .ok (.iaload, 1) := by decide +kernel
theorem dX5_takesAll_19 : decode cX5_takesAll 19 = .ok (.iastore, 1) := by decide +kernel
theorem dX5_takesAll_20 : decode cX5_takesAll 20 = .ok (.iinc 1 1, 3) := by decide +kernel
theorem dX5_takesAll_23 : decode cX5_takesAll 23 = .ok (.goto (-21), 3) := by decide +kernel
theorem dX5_takesAll_26 : decode cX5_takesAll 26 = .ok (.iconst 0, 1) := by decide +kernel
theorem dX5_takesAll_27 : decode cX5_takesAll 27 = .ok (.istore_n 1, 1) := by decide +kernel
theorem dX5_takesAll_28 : decode cX5_takesAll 28 = .ok (.iload_n 1, 1) := by decide +kernel
theorem dX5_takesAll_29 : decode cX5_takesAll 29 = .ok (.bipush 27, 2) := by decide +kernel
theorem dX5_takesAll_31 : decode cX5_takesAll 31 = .ok (.if_icmp .ge 27, 3) := by decide +kernel
theorem dX5_takesAll_34 : decode cX5_takesAll 34 = .ok (.aload_n 0, 1) := by decide +kernel
theorem dX5_takesAll_35 : decode cX5_takesAll 35 = .ok (.getfield 19, 3) := by decide +kernel
theorem dX5_takesAll_38 : decode cX5_takesAll 38 = .ok (.iload_n 1, 1) := by decide +kernel
theorem dX5_takesAll_39 : decode cX5_takesAll 39 = .ok (.iload_n 1, 1) := by decide +kernel
theorem dX5_takesAll_40 : decode cX5_takesAll 40 = .ok (.bipush 8, 2) := by decide +kernel
theorem dX5_takesAll_42 : decode cX5_takesAll 42 = .ok (.if_icmp .lt 8, 3) := by decide +kernel
theorem dX5_takesAll_45 : decode cX5_takesAll 45 = .ok (.bipush (-9), 2) := by decide +kernel
theorem dX5_takesAll_47 : decode cX5_takesAll 47 = .ok (.goto 4, 3) := by decide +kernel
theorem dX5_takesAll_50 : decode cX5_takesAll 50 = .ok (.iconst 0, 1) := by decide +kernel
theorem dX5_takesAll_51 : decode cX5_takesAll 51 = .ok (.iastore, 1) := by decide +kernel
theorem dX5_takesAll_52 : decode cX5_takesAll 52 = .ok (.iinc 1 1, 3) := by decide +kernel
theorem dX5_takesAll_55 : decode cX5_takesAll 55 = .ok (.goto (-27), 3) := by decide +kernel
theorem dX5_takesAll_58 : decode cX5_takesAll 58 = .ok (.aload_n 0, 1) := by decide +kernel
theorem dX5_takesAll_59 : decode cX5_takesAll 59 = .ok (.getfield 19, 3) := by decide +kernel
theorem dX5_takesAll_62 : decode cX5_takesAll 62 = .ok (.iconst 2, 1) := by decide +kernel
theorem dX5_takesAll_63 : decode cX5_takesAll 63 = .ok (.bipush (-9), 2) := by decide +kernel
theorem dX5_takesAll_65 : decode cX5_takesAll 65 = .ok (.iastore, 1) := by decide +kernel
theorem dX5_takesAll_66 : decode cX5_takesAll 66 = .ok (.aload_n 0, 1) := by decide +kernel
theorem dX5_takesAll_67 : decode cX5_takesAll 67 = .ok (.getfield 19, 3) := by decide +kernel
theorem dX5_takesAll_70 : decode cX5_takesAll 70 = .ok (.bipush 7, 2) := by decide +kernel
theorem dX5_takesAll_72 : decode cX5_takesAll 72 = .ok (.bipush (-9), 2) := by decide +kernel
theorem dX5_takesAll_74 : decode cX5_takesAll 74 = .ok (.iastore, 1) := by decide +kernel
theorem dX5_takesAll_75 : decode cX5_takesAll 75 = .ok (.aload_n 0, 1) := by decide +kernel
theorem dX5_takesAll_76 : decode cX5_takesAll 76 = .ok (.iconst 0, 1) := by decide +kernel
theorem dX5_takesAll_77 : decode cX5_takesAll 77 = .ok (.putfield 103, 3) := by decide +kernel
theorem dX5_takesAll_80 : decode cX5_takesAll 80 = .ok (.aload_n 0, 1) := by decide +kernel
theorem dX5_takesAll_81 : decode cX5_takesAll 81 = .ok (.iconst 0, 1) := by decide +kernel
theorem dX5_takesAll_82 : decode cX5_takesAll 82 = .ok (.putfield 106, 3) := by decide +kernel
theorem dX5_takesAll_85 : decode cX5_takesAll 85 = .ok (.aload_n 0, 1) := by decide +kernel
theorem dX5_takesAll_86 : decode cX5_takesAll 86 = .ok (.getfield 31, 3) := by decide +kernel
theorem dX5_takesAll_89 : decode cX5_takesAll 89 = .ok (.iconst 0, 1) := by decide +kernel
theorem dX5_takesAll_90 : decode cX5_takesAll 90 = .ok (.iconst 0, 1) := by decide +kernel
theorem dX5_takesAll_91 : decode cX5_takesAll 91 = .ok (.iastore, 1) := by decide +kernel
theorem dX5_takesAll_92 : decode cX5_takesAll 92 = .ok (.aload_n 0, 1) := by decide +kernel
theorem dX5_takesAll_93 : decode cX5_takesAll 93 = .ok (.getfield 31, 3) := by decide +kernel
theorem dX5_takesAll_96 : decode cX5_takesAll 96 = .ok (.sipush 353, 3) := by decide +kernel
theorem dX5_takesAll_99 : decode cX5_takesAll 99 = .ok (.iconst 0, 1) := by decide +kernel
theorem dX5_takesAll_100 : decode cX5_takesAll 100 = .ok (.iastore, 1) := by decide +kernel
theorem dX5_takesAll_101 : decode cX5_takesAll 101 = .ok (.return_, 1) := by decide +kernel
theorem dX5_isBerth_0 : decode cX5_isBerth 0 = .ok (.iload_n 1, 1) := by decide +kernel
theorem dX5_isBerth_1 : decode cX5_isBerth 1 = .ok (.i2l, 1) := by decide +kernel
theorem dX5_isBerth_2 : decode cX5_isBerth 2 = .ok (.lconst 1, 1) := by decide +kernel
theorem dX5_isBerth_3 : decode cX5_isBerth 3 = .ok (.aload_n 0, 1) := by decide +kernel
theorem dX5_isBerth_4 : decode cX5_isBerth 4 = .ok (.getfield 16, 3) := by decide +kernel
theorem dX5_isBerth_7 : decode cX5_isBerth 7 = .ok (.iconst 0, 1) := by decide +kernel
theorem dX5_isBerth_8 : decode cX5_isBerth 8 = .ok (.iaload, 1) := by decide +kernel
theorem dX5_isBerth_9 : decode cX5_isBerth 9 = .ok (.i2l, 1) := by decide +kernel
theorem dX5_isBerth_10 : decode cX5_isBerth 10 = .ok (.invokestatic 42, 3) := by decide +kernel
theorem dX5_isBerth_13 : decode cX5_isBerth 13 = .ok (.ireturn, 1) := by decide +kernel
theorem dX5_isDie_0 : decode cX5_isDie 0 = .ok (.iload_n 0, 1) := by decide +kernel
theorem dX5_isDie_1 : decode cX5_isDie 1 = .ok (.i2l, 1) := by decide +kernel
theorem dX5_isDie_2 : decode cX5_isDie 2 = .ok (.lconst 0, 1) := by decide +kernel
theorem dX5_isDie_3 : decode cX5_isDie 3 = .ok (.ldc2_w 109, 3) := by decide +kernel
theorem dX5_isDie_6 : decode cX5_isDie 6 = .ok (.invokestatic 42, 3) := by decide +kernel
theorem dX5_isDie_9 : decode cX5_isDie 9 = .ok (.ireturn, 1) := by decide +kernel
theorem dX5_faces_0 : decode cX5_faces 0 = .ok (.aload_n 0, 1) := by decide +kernel
theorem dX5_faces_1 : decode cX5_faces 1 = .ok (.getfield 16, 3) := by decide +kernel
theorem dX5_faces_4 : decode cX5_faces 4 = .ok (.iconst 4, 1) := by decide +kernel
theorem dX5_faces_5 : decode cX5_faces 5 = .ok (.bipush 7, 2) := by decide +kernel
theorem dX5_faces_7 : decode cX5_faces 7 = .ok (.iload_n 1, 1) := by decide +kernel
theorem dX5_faces_8 : decode cX5_faces 8 = .ok (.imul, 1) := by decide +kernel
theorem dX5_faces_9 : decode cX5_faces 9 = .ok (.iadd, 1) := by decide +kernel
theorem dX5_faces_10 : decode cX5_faces 10 = .ok (.iaload, 1) := by decide +kernel
theorem dX5_faces_11 : decode cX5_faces 11 = .ok (.ireturn, 1) := by decide +kernel
theorem dX5_face_0 : decode cX5_face 0 = .ok (.aload_n 0, 1) := by decide +kernel
theorem dX5_face_1 : decode cX5_face 1 = .ok (.getfield 16, 3) := by decide +kernel
theorem dX5_face_4 : decode cX5_face 4 = .ok (.iconst 4, 1) := by decide +kernel
theorem dX5_face_5 : decode cX5_face 5 = .ok (.bipush 7, 2) := by decide +kernel
theorem dX5_face_7 : decode cX5_face 7 = .ok (.iload_n 1, 1) := by decide +kernel
theorem dX5_face_8 : decode cX5_face 8 = .ok (.imul, 1) := by decide +kernel
theorem dX5_face_9 : decode cX5_face 9 = .ok (.iadd, 1) := by decide +kernel
theorem dX5_face_10 : decode cX5_face 10 = .ok (.iconst 1, 1) := by decide +kernel
theorem dX5_face_11 : decode cX5_face 11 = .ok (.iadd, 1) := by decide +kernel
theorem dX5_face_12 : decode cX5_face 12 = .ok (.iload_n 2, 1) := by decide +kernel
theorem dX5_face_13 : decode cX5_face 13 = .ok (.iadd, 1) := by decide +kernel
theorem dX5_face_14 : decode cX5_face 14 = .ok (.iaload, 1) := by decide +kernel
theorem dX5_face_15 : decode cX5_face 15 = .ok (.ireturn, 1) := by decide +kernel
theorem dX5_isFace_0 : decode cX5_isFace 0 = .ok (.iconst 0, 1) := by decide +kernel
theorem dX5_isFace_1 : decode cX5_isFace 1 = .ok (.istore_n 3, 1) := by decide +kernel
theorem dX5_isFace_2 : decode cX5_isFace 2 = .ok (.iconst 0, 1) := by decide +kernel
theorem dX5_isFace_3 : decode cX5_isFace 3 = .ok (.istore 4, 2) := by decide +kernel
theorem dX5_isFace_5 : decode cX5_isFace 5 = .ok (.iload 4, 2) := by decide +kernel
theorem dX5_isFace_7 : decode cX5_isFace 7 = .ok (.aload_n 0, 1) := by decide +kernel
theorem dX5_isFace_8 : decode cX5_isFace 8 = .ok (.iload_n 1, 1) := by decide +kernel
theorem dX5_isFace_9 : decode cX5_isFace 9 = .ok (.invokevirtual 111, 3) := by decide +kernel
theorem dX5_isFace_12 : decode cX5_isFace 12 = .ok (.if_icmp .ge 30, 3) := by decide +kernel
theorem dX5_isFace_15 : decode cX5_isFace 15 = .ok (.iload_n 3, 1) := by decide +kernel
theorem dX5_isFace_16 : decode cX5_isFace 16 = .ok (.ifCond .ne 14, 3) := by decide +kernel
theorem dX5_isFace_19 : decode cX5_isFace 19 = .ok (.aload_n 0, 1) := by decide +kernel
theorem dX5_isFace_20 : decode cX5_isFace 20 = .ok (.iload_n 1, 1) := by decide +kernel
theorem dX5_isFace_21 : decode cX5_isFace 21 = .ok (.iload 4, 2) := by decide +kernel
theorem dX5_isFace_23 : decode cX5_isFace 23 = .ok (.invokevirtual 115, 3) := by decide +kernel
theorem dX5_isFace_26 : decode cX5_isFace 26 = .ok (.iload_n 2, 1) := by decide +kernel
theorem dX5_isFace_27 : decode cX5_isFace 27 = .ok (.if_icmp .ne 7, 3) := by decide +kernel
theorem dX5_isFace_30 : decode cX5_isFace 30 = .ok (.iconst 1, 1) := by decide +kernel
theorem dX5_isFace_31 : decode cX5_isFace 31 = .ok (.goto 4, 3) := by decide +kernel
theorem dX5_isFace_34 : decode cX5_isFace 34 = .ok (.iconst 0, 1) := by decide +kernel
theorem dX5_isFace_35 : decode cX5_isFace 35 = .ok (.istore_n 3, 1) := by decide +kernel
theorem dX5_isFace_36 : decode cX5_isFace 36 = .ok (.iinc 4 1, 3) := by decide +kernel
theorem dX5_isFace_39 : decode cX5_isFace 39 = .ok (.goto (-34), 3) := by decide +kernel
theorem dX5_isFace_42 : decode cX5_isFace 42 = .ok (.iload_n 3, 1) := by decide +kernel
theorem dX5_isFace_43 : decode cX5_isFace 43 = .ok (.ireturn, 1) := by decide +kernel
theorem dX5_throwsOf_0 : decode cX5_throwsOf 0 = .ok (.aload_n 0, 1) := by decide +kernel
theorem dX5_throwsOf_1 : decode cX5_throwsOf 1 = .ok (.iconst 0, 1) := by decide +kernel
theorem dX5_throwsOf_2 : decode cX5_throwsOf 2 = .ok (.invokevirtual 111, 3) := by decide +kernel
theorem dX5_throwsOf_5 : decode cX5_throwsOf 5 = .ok (.aload_n 0, 1) := by decide +kernel
theorem dX5_throwsOf_6 : decode cX5_throwsOf 6 = .ok (.iconst 1, 1) := by decide +kernel
theorem dX5_throwsOf_7 : decode cX5_throwsOf 7 = .ok (.invokevirtual 111, 3) := by decide +kernel
theorem dX5_throwsOf_10 : decode cX5_throwsOf 10 = .ok (.imul, 1) := by decide +kernel
theorem dX5_throwsOf_11 : decode cX5_throwsOf 11 = .ok (.aload_n 0, 1) := by decide +kernel
theorem dX5_throwsOf_12 : decode cX5_throwsOf 12 = .ok (.iconst 2, 1) := by decide +kernel
theorem dX5_throwsOf_13 : decode cX5_throwsOf 13 = .ok (.invokevirtual 111, 3) := by decide +kernel
theorem dX5_throwsOf_16 : decode cX5_throwsOf 16 = .ok (.imul, 1) := by decide +kernel
theorem dX5_throwsOf_17 : decode cX5_throwsOf 17 = .ok (.ireturn, 1) := by decide +kernel
theorem dX5_die_0 : decode cX5_die 0 = .ok (.iload_n 1, 1) := by decide +kernel
theorem dX5_die_1 : decode cX5_die 1 = .ok (.invokestatic 119, 3) := by decide +kernel
theorem dX5_die_4 : decode cX5_die 4 = .ok (.ifCond .eq 22, 3) := by decide +kernel
theorem dX5_die_7 : decode cX5_die 7 = .ok (.iload_n 2, 1) := by decide +kernel
theorem dX5_die_8 : decode cX5_die 8 = .ok (.i2l, 1) := by decide +kernel
theorem dX5_die_9 : decode cX5_die 9 = .ok (.ldc2_w 122, 3) := by decide +kernel
theorem dX5_die_12 : decode cX5_die 12 = .ok (.aload_n 0, 1) := by decide +kernel
theorem dX5_die_13 : decode cX5_die 13 = .ok (.iload_n 1, 1) := by decide +kernel
theorem dX5_die_14 : decode cX5_die 14 = .ok (.invokevirtual 111, 3) := by decide +kernel
theorem dX5_die_17 : decode cX5_die 17 = .ok (.iconst 1, 1) := by decide +kernel
theorem dX5_die_18 : decode cX5_die 18 = .ok (.isub, 1) := by decide +kernel
theorem dX5_die_19 : decode cX5_die 19 = .ok (.i2l, 1) := by decide +kernel
theorem dX5_die_20 : decode cX5_die 20 = .ok (.invokestatic 42, 3) := by decide +kernel
theorem dX5_die_23 : decode cX5_die 23 = .ok (.ifCond .ne 5, 3) := by decide +kernel
theorem dX5_die_26 : decode cX5_die 26 = .ok (.iconst (-1), 1) := by decide +kernel
theorem dX5_die_27 : decode cX5_die 27 = .ok (.ireturn, 1) := by decide +kernel
theorem dX5_die_28 : decode cX5_die 28 = .ok (.iload_n 2, 1) := by decide +kernel
theorem dX5_die_29 : decode cX5_die 29 = .ok (.ifCond .ge 11, 3) := by decide +kernel
theorem dX5_die_32 : decode cX5_die 32 = .ok (.aload_n 0, 1) := by decide +kernel
theorem dX5_die_33 : decode cX5_die 33 = .ok (.iload_n 1, 1) := by decide +kernel
theorem dX5_die_34 : decode cX5_die 34 = .ok (.invokevirtual 111, 3) := by decide +kernel
theorem dX5_die_37 : decode cX5_die 37 = .ok (.goto 9, 3) := by decide +kernel
theorem dX5_die_40 : decode cX5_die 40 = .ok (.aload_n 0, 1) := by decide +kernel
theorem dX5_die_41 : decode cX5_die 41 = .ok (.iload_n 1, 1) := by decide +kernel
theorem dX5_die_42 : decode cX5_die 42 = .ok (.iload_n 2, 1) := by decide +kernel
theorem dX5_die_43 : decode cX5_die 43 = .ok (.invokevirtual 115, 3) := by decide +kernel
theorem dX5_die_46 : decode cX5_die 46 = .ok (.ireturn, 1) := by decide +kernel
theorem dX5_berth_0 : decode cX5_berth 0 = .ok (.aload_n 0, 1) := by decide +kernel
theorem dX5_berth_1 : decode cX5_berth 1 = .ok (.iload_n 1, 1) := by decide +kernel
theorem dX5_berth_2 : decode cX5_berth 2 = .ok (.invokevirtual 124, 3) := by decide +kernel
theorem dX5_berth_5 : decode cX5_berth 5 = .ok (.ifCond .eq 15, 3) := by decide +kernel
theorem dX5_berth_8 : decode cX5_berth 8 = .ok (.aload_n 0, 1) := by decide +kernel
theorem dX5_berth_9 : decode cX5_berth 9 = .ok (.getfield 19, 3) := by decide +kernel
theorem dX5_berth_12 : decode cX5_berth 12 = .ok (.bipush 8, 2) := by decide +kernel
theorem dX5_berth_14 : decode cX5_berth 14 = .ok (.iload_n 1, 1) := by decide +kernel
theorem dX5_berth_15 : decode cX5_berth 15 = .ok (.iadd, 1) := by decide +kernel
theorem dX5_berth_16 : decode cX5_berth 16 = .ok (.iaload, 1) := by decide +kernel
theorem dX5_berth_17 : decode cX5_berth 17 = .ok (.goto 4, 3) := by decide +kernel
theorem dX5_berth_20 : decode cX5_berth 20 = .ok (.iconst (-1), 1) := by decide +kernel
theorem dX5_berth_21 : decode cX5_berth 21 = .ok (.ireturn, 1) := by decide +kernel
theorem dX5_berths_0 : decode cX5_berths 0 = .ok (.iconst 0, 1) := by decide +kernel
theorem dX5_berths_1 : decode cX5_berths 1 = .ok (.istore_n 2, 1) := by decide +kernel
theorem dX5_berths_2 : decode cX5_berths 2 = .ok (.iconst 1, 1) := by decide +kernel
theorem dX5_berths_3 : decode cX5_berths 3 = .ok (.istore_n 3, 1) := by decide +kernel
theorem dX5_berths_4 : decode cX5_berths 4 = .ok (.iload_n 3, 1) := by decide +kernel
theorem dX5_berths_5 : decode cX5_berths 5 = .ok (.aload_n 0, 1) := by decide +kernel
theorem dX5_berths_6 : decode cX5_berths 6 = .ok (.getfield 16, 3) := by decide +kernel
theorem dX5_berths_9 : decode cX5_berths 9 = .ok (.iconst 0, 1) := by decide +kernel
theorem dX5_berths_10 : decode cX5_berths 10 = .ok (.iaload, 1) := by decide +kernel
theorem dX5_berths_11 : decode cX5_berths 11 = .ok (.if_icmp .gt 32, 3) := by decide +kernel
theorem dX5_berths_14 : decode cX5_berths 14 = .ok (.iload_n 2, 1) := by decide +kernel
theorem dX5_berths_15 : decode cX5_berths 15 = .ok (.aload_n 0, 1) := by decide +kernel
theorem dX5_berths_16 : decode cX5_berths 16 = .ok (.getfield 19, 3) := by decide +kernel
theorem dX5_berths_19 : decode cX5_berths 19 = .ok (.bipush 8, 2) := by decide +kernel
theorem dX5_berths_21 : decode cX5_berths 21 = .ok (.iload_n 3, 1) := by decide +kernel
theorem dX5_berths_22 : decode cX5_berths 22 = .ok (.iadd, 1) := by decide +kernel
theorem dX5_berths_23 : decode cX5_berths 23 = .ok (.iaload, 1) := by decide +kernel
theorem dX5_berths_24 : decode cX5_berths 24 = .ok (.iload_n 1, 1) := by decide +kernel
theorem dX5_berths_25 : decode cX5_berths 25 = .ok (.if_icmp .ne 9, 3) := by decide +kernel
theorem dX5_berths_28 : decode cX5_berths 28 = .ok (.iconst 1, 1) := by decide +kernel
theorem dX5_berths_29 : decode cX5_berths 29 = .ok (.iload_n 3, 1) := by decide +kernel
theorem dX5_berths_30 : decode cX5_berths 30 = .ok (.ishl, 1) := by decide +kernel
theorem dX5_berths_31 : decode cX5_berths 31 = .ok (.goto 4, 3) := by decide +kernel
theorem dX5_berths_34 : decode cX5_berths 34 = .ok (.iconst 0, 1) := by decide +kernel
theorem dX5_berths_35 : decode cX5_berths 35 = .ok (.ior, 1) := by decide +kernel
theorem dX5_berths_36 : decode cX5_berths 36 = .ok (.istore_n 2, 1) := by decide +kernel
theorem dX5_berths_37 : decode cX5_berths 37 = .ok (.iinc 3 1, 3) := by decide +kernel
theorem dX5_berths_40 : decode cX5_berths 40 = .ok (.goto (-36), 3) := by decide +kernel
theorem dX5_berths_43 : decode cX5_berths 43 = .ok (.iload_n 2, 1) := by decide +kernel
theorem dX5_berths_44 : decode cX5_berths 44 = .ok (.ireturn, 1) := by decide +kernel
theorem dX5_many_0 : decode cX5_many 0 = .ok (.iconst 0, 1) := by decide +kernel
theorem dX5_many_1 : decode cX5_many 1 = .ok (.istore_n 1, 1) := by decide +kernel
theorem dX5_many_2 : decode cX5_many 2 = .ok (.iload_n 0, 1) := by decide +kernel
theorem dX5_many_3 : decode cX5_many 3 = .ok (.istore_n 2, 1) := by decide +kernel
theorem dX5_many_4 : decode cX5_many 4 = .ok (.iload_n 2, 1) := by decide +kernel
theorem dX5_many_5 : decode cX5_many 5 = .ok (.ifCond .eq 15, 3) := by decide +kernel
theorem dX5_many_8 : decode cX5_many 8 = .ok (.iinc 1 1, 3) := by decide +kernel
theorem dX5_many_11 : decode cX5_many 11 = .ok (.iload_n 2, 1) := by decide +kernel
theorem dX5_many_12 : decode cX5_many 12 = .ok (.iload_n 2, 1) := by decide +kernel
theorem dX5_many_13 : decode cX5_many 13 = .ok (.iconst 1, 1) := by decide +kernel
theorem dX5_many_14 : decode cX5_many 14 = .ok (.isub, 1) := by decide +kernel
theorem dX5_many_15 : decode cX5_many 15 = .ok (.iand, 1) := by decide +kernel
theorem dX5_many_16 : decode cX5_many 16 = .ok (.istore_n 2, 1) := by decide +kernel
theorem dX5_many_17 : decode cX5_many 17 = .ok (.goto (-13), 3) := by decide +kernel
theorem dX5_many_20 : decode cX5_many 20 = .ok (.iload_n 1, 1) := by decide +kernel
theorem dX5_many_21 : decode cX5_many 21 = .ok (.ireturn, 1) := by decide +kernel
theorem dX5_player_0 : decode cX5_player 0 = .ok (.iload_n 1, 1) := by decide +kernel
theorem dX5_player_1 : decode cX5_player 1 = .ok (.i2l, 1) := by decide +kernel
theorem dX5_player_2 : decode cX5_player 2 = .ok (.lconst 0, 1) := by decide +kernel
theorem dX5_player_3 : decode cX5_player 3 = .ok (.lconst 1, 1) := by decide +kernel
theorem dX5_player_4 : decode cX5_player 4 = .ok (.invokestatic 42, 3) := by decide +kernel
theorem dX5_player_7 : decode cX5_player 7 = .ok (.ifCond .eq 15, 3) := by decide +kernel
theorem dX5_player_10 : decode cX5_player 10 = .ok (.iload_n 2, 1) := by decide +kernel
theorem dX5_player_11 : decode cX5_player 11 = .ok (.i2l, 1) := by decide +kernel
theorem dX5_player_12 : decode cX5_player 12 = .ok (.lconst 0, 1) := by decide +kernel
theorem dX5_player_13 : decode cX5_player 13 = .ok (.ldc2_w 127, 3) := by decide +kernel
theorem dX5_player_16 : decode cX5_player 16 = .ok (.invokestatic 42, 3) := by decide +kernel
theorem dX5_player_19 : decode cX5_player 19 = .ok (.ifCond .ne 5, 3) := by decide +kernel
theorem dX5_player_22 : decode cX5_player 22 = .ok (.iconst (-1), 1) := by decide +kernel
theorem dX5_player_23 : decode cX5_player 23 = .ok (.ireturn, 1) := by decide +kernel
theorem dX5_player_24 : decode cX5_player 24 = .ok (.iload_n 2, 1) := by decide +kernel
theorem dX5_player_25 : decode cX5_player 25 = .ok (.ifCond .ne 11, 3) := by decide +kernel
theorem dX5_player_28 : decode cX5_player 28 = .ok (.aload_n 0, 1) := by decide +kernel
theorem dX5_player_29 : decode cX5_player 29 = .ok (.iload_n 1, 1) := by decide +kernel
theorem dX5_player_30 : decode cX5_player 30 = .ok (.invokevirtual 129, 3) := by decide +kernel
theorem dX5_player_33 : decode cX5_player 33 = .ok (.goto 40, 3) := by decide +kernel
theorem dX5_player_36 : decode cX5_player 36 = .ok (.iload_n 2, 1) := by decide +kernel
theorem dX5_player_37 : decode cX5_player 37 = .ok (.iconst 1, 1) := by decide +kernel
theorem dX5_player_38 : decode cX5_player 38 = .ok (.if_icmp .ne 14, 3) := by decide +kernel
theorem dX5_player_41 : decode cX5_player 41 = .ok (.aload_n 0, 1) := by decide +kernel
theorem dX5_player_42 : decode cX5_player 42 = .ok (.getfield 19, 3) := by decide +kernel
theorem dX5_player_45 : decode cX5_player 45 = .ok (.iconst 3, 1) := by decide +kernel
theorem dX5_player_46 : decode cX5_player 46 = .ok (.iload_n 1, 1) := by decide +kernel
theorem dX5_player_47 : decode cX5_player 47 = .ok (.iadd, 1) := by decide +kernel
theorem dX5_player_48 : decode cX5_player 48 = .ok (.iaload, 1) := by decide +kernel
theorem dX5_player_49 : decode cX5_player 49 = .ok (.goto 24, 3) := by decide +kernel
theorem dX5_player_52 : decode cX5_player 52 = .ok (.iload_n 2, 1) := by decide +kernel
theorem dX5_player_53 : decode cX5_player 53 = .ok (.iconst 2, 1) := by decide +kernel
theorem dX5_player_54 : decode cX5_player 54 = .ok (.if_icmp .ne 14, 3) := by decide +kernel
theorem dX5_player_57 : decode cX5_player 57 = .ok (.aload_n 0, 1) := by decide +kernel
theorem dX5_player_58 : decode cX5_player 58 = .ok (.getfield 19, 3) := by decide +kernel
theorem dX5_player_61 : decode cX5_player 61 = .ok (.iconst 5, 1) := by decide +kernel
theorem dX5_player_62 : decode cX5_player 62 = .ok (.iload_n 1, 1) := by decide +kernel
theorem dX5_player_63 : decode cX5_player 63 = .ok (.iadd, 1) := by decide +kernel
theorem dX5_player_64 : decode cX5_player 64 = .ok (.iaload, 1) := by decide +kernel
theorem dX5_player_65 : decode cX5_player 65 = .ok (.goto 8, 3) := by decide +kernel
theorem dX5_player_68 : decode cX5_player 68 = .ok (.aload_n 0, 1) := by decide +kernel
theorem dX5_player_69 : decode cX5_player 69 = .ok (.iload_n 1, 1) := by decide +kernel
theorem dX5_player_70 : decode cX5_player 70 = .ok (.invokevirtual 132, 3) := by decide +kernel
theorem dX5_player_73 : decode cX5_player 73 = .ok (.ireturn, 1) := by decide +kernel
theorem dX5_isDouble_0 : decode cX5_isDouble 0 = .ok (.iload_n 0, 1) := by decide +kernel
theorem dX5_isDouble_1 : decode cX5_isDouble 1 = .ok (.iload_n 1, 1) := by decide +kernel
theorem dX5_isDouble_2 : decode cX5_isDouble 2 = .ok (.if_icmp .ne 7, 3) := by decide +kernel
theorem dX5_isDouble_5 : decode cX5_isDouble 5 = .ok (.iconst 1, 1) := by decide +kernel
theorem dX5_isDouble_6 : decode cX5_isDouble 6 = .ok (.goto 4, 3) := by decide +kernel
theorem dX5_isDouble_9 : decode cX5_isDouble 9 = .ok (.iconst 0, 1) := by decide +kernel
theorem dX5_isDouble_10 : decode cX5_isDouble 10 = .ok (.iload_n 1, 1) := by decide +kernel
theorem dX5_isDouble_11 : decode cX5_isDouble 11 = .ok (.iload_n 2, 1) := by decide +kernel
theorem dX5_isDouble_12 : decode cX5_isDouble 12 = .ok (.if_icmp .ne 7, 3) := by decide +kernel
theorem dX5_isDouble_15 : decode cX5_isDouble 15 = .ok (.iconst 1, 1) := by decide +kernel
theorem dX5_isDouble_16 : decode cX5_isDouble 16 = .ok (.goto 4, 3) := by decide +kernel
theorem dX5_isDouble_19 : decode cX5_isDouble 19 = .ok (.iconst 0, 1) := by decide +kernel
theorem dX5_isDouble_20 : decode cX5_isDouble 20 = .ok (.iadd, 1) := by decide +kernel
theorem dX5_isDouble_21 : decode cX5_isDouble 21 = .ok (.iload_n 0, 1) := by decide +kernel
theorem dX5_isDouble_22 : decode cX5_isDouble 22 = .ok (.iload_n 2, 1) := by decide +kernel
theorem dX5_isDouble_23 : decode cX5_isDouble 23 = .ok (.if_icmp .ne 7, 3) := by decide +kernel
theorem dX5_isDouble_26 : decode cX5_isDouble 26 = .ok (.iconst 1, 1) := by decide +kernel
theorem dX5_isDouble_27 : decode cX5_isDouble 27 = .ok (.goto 4, 3) := by decide +kernel
theorem dX5_isDouble_30 : decode cX5_isDouble 30 = .ok (.iconst 0, 1) := by decide +kernel
theorem dX5_isDouble_31 : decode cX5_isDouble 31 = .ok (.iadd, 1) := by decide +kernel
theorem dX5_isDouble_32 : decode cX5_isDouble 32 = .ok (.iconst 1, 1) := by decide +kernel
theorem dX5_isDouble_33 : decode cX5_isDouble 33 = .ok (.if_icmp .ne 7, 3) := by decide +kernel
theorem dX5_isDouble_36 : decode cX5_isDouble 36 = .ok (.iconst 1, 1) := by decide +kernel
theorem dX5_isDouble_37 : decode cX5_isDouble 37 = .ok (.goto 4, 3) := by decide +kernel
theorem dX5_isDouble_40 : decode cX5_isDouble 40 = .ok (.iconst 0, 1) := by decide +kernel
theorem dX5_isDouble_41 : decode cX5_isDouble 41 = .ok (.ireturn, 1) := by decide +kernel
theorem dX5_opened_0 : decode cX5_opened 0 = .ok (.iconst 1, 1) := by decide +kernel
theorem dX5_opened_1 : decode cX5_opened 1 = .ok (.iload_n 1, 1) := by decide +kernel
theorem dX5_opened_2 : decode cX5_opened 2 = .ok (.ishl, 1) := by decide +kernel
theorem dX5_opened_3 : decode cX5_opened 3 = .ok (.iconst 1, 1) := by decide +kernel
theorem dX5_opened_4 : decode cX5_opened 4 = .ok (.iload_n 2, 1) := by decide +kernel
theorem dX5_opened_5 : decode cX5_opened 5 = .ok (.ishl, 1) := by decide +kernel
theorem dX5_opened_6 : decode cX5_opened 6 = .ok (.ior, 1) := by decide +kernel
theorem dX5_opened_7 : decode cX5_opened 7 = .ok (.iconst 1, 1) := by decide +kernel
theorem dX5_opened_8 : decode cX5_opened 8 = .ok (.iload_n 3, 1) := by decide +kernel
theorem dX5_opened_9 : decode cX5_opened 9 = .ok (.ishl, 1) := by decide +kernel
theorem dX5_opened_10 : decode cX5_opened 10 = .ok (.ior, 1) := by decide +kernel
theorem dX5_opened_11 : decode cX5_opened 11 = .ok (.iconst 1, 1) := by decide +kernel
theorem dX5_opened_12 : decode cX5_opened 12 = .ok (.iload_n 1, 1) := by decide +kernel
theorem dX5_opened_13 : decode cX5_opened 13 = .ok (.iload_n 2, 1) := by decide +kernel
theorem dX5_opened_14 : decode cX5_opened 14 = .ok (.iadd, 1) := by decide +kernel
theorem dX5_opened_15 : decode cX5_opened 15 = .ok (.ishl, 1) := by decide +kernel
theorem dX5_opened_16 : decode cX5_opened 16 = .ok (.ior, 1) := by decide +kernel
theorem dX5_opened_17 : decode cX5_opened 17 = .ok (.iconst 1, 1) := by decide +kernel
theorem dX5_opened_18 : decode cX5_opened 18 = .ok (.iload_n 1, 1) := by decide +kernel
theorem dX5_opened_19 : decode cX5_opened 19 = .ok (.iload_n 3, 1) := by decide +kernel
theorem dX5_opened_20 : decode cX5_opened 20 = .ok (.iadd, 1) := by decide +kernel
theorem dX5_opened_21 : decode cX5_opened 21 = .ok (.ishl, 1) := by decide +kernel
theorem dX5_opened_22 : decode cX5_opened 22 = .ok (.ior, 1) := by decide +kernel
theorem dX5_opened_23 : decode cX5_opened 23 = .ok (.iconst 1, 1) := by decide +kernel
theorem dX5_opened_24 : decode cX5_opened 24 = .ok (.iload_n 2, 1) := by decide +kernel
theorem dX5_opened_25 : decode cX5_opened 25 = .ok (.iload_n 3, 1) := by decide +kernel
theorem dX5_opened_26 : decode cX5_opened 26 = .ok (.iadd, 1) := by decide +kernel
theorem dX5_opened_27 : decode cX5_opened 27 = .ok (.ishl, 1) := by decide +kernel
theorem dX5_opened_28 : decode cX5_opened 28 = .ok (.ior, 1) := by decide +kernel
theorem dX5_opened_29 : decode cX5_opened 29 = .ok (.iconst 1, 1) := by decide +kernel
theorem dX5_opened_30 : decode cX5_opened 30 = .ok (.iload_n 1, 1) := by decide +kernel
theorem dX5_opened_31 : decode cX5_opened 31 = .ok (.iload_n 2, 1) := by decide +kernel
theorem dX5_opened_32 : decode cX5_opened 32 = .ok (.iadd, 1) := by decide +kernel
theorem dX5_opened_33 : decode cX5_opened 33 = .ok (.iload_n 3, 1) := by decide +kernel
theorem dX5_opened_34 : decode cX5_opened 34 = .ok (.iadd, 1) := by decide +kernel
theorem dX5_opened_35 : decode cX5_opened 35 = .ok (.ishl, 1) := by decide +kernel
theorem dX5_opened_36 : decode cX5_opened 36 = .ok (.ior, 1) := by decide +kernel
theorem dX5_opened_37 : decode cX5_opened 37 = .ok (.istore 5, 2) := by decide +kernel
theorem dX5_opened_39 : decode cX5_opened 39 = .ok (.iconst 0, 1) := by decide +kernel
theorem dX5_opened_40 : decode cX5_opened 40 = .ok (.istore 6, 2) := by decide +kernel
theorem dX5_opened_42 : decode cX5_opened 42 = .ok (.iconst 1, 1) := by decide +kernel
theorem dX5_opened_43 : decode cX5_opened 43 = .ok (.istore 7, 2) := by decide +kernel
theorem dX5_opened_45 : decode cX5_opened 45 = .ok (.iload 7, 2) := by decide +kernel
theorem dX5_opened_47 : decode cX5_opened 47 = .ok (.aload_n 0, 1) := by decide +kernel
theorem dX5_opened_48 : decode cX5_opened 48 = .ok (.getfield 16, 3) := by decide +kernel
theorem dX5_opened_51 : decode cX5_opened 51 = .ok (.iconst 0, 1) := by decide +kernel
theorem dX5_opened_52 : decode cX5_opened 52 = .ok (.iaload, 1) := by decide +kernel
theorem dX5_opened_53 : decode cX5_opened 53 = .ok (.if_icmp .gt 52, 3) := by decide +kernel
theorem dX5_opened_56 : decode cX5_opened 56 = .ok (.iload 6, 2) := by decide +kernel
theorem dX5_opened_58 : decode cX5_opened 58 = .ok (.iload 5, 2) := by decide +kernel
theorem dX5_opened_60 : decode cX5_opened 60 = .ok (.iload 4, 2) := by decide +kernel
theorem dX5_opened_62 : decode cX5_opened 62 = .ok (.ifCond .ne 8, 3) := by decide +kernel
theorem dX5_opened_65 : decode cX5_opened 65 = .ok (.iload 7, 2) := by decide +kernel
theorem dX5_opened_67 : decode cX5_opened 67 = .ok (.goto 14, 3) := by decide +kernel
theorem dX5_opened_70 : decode cX5_opened 70 = .ok (.aload_n 0, 1) := by decide +kernel
theorem dX5_opened_71 : decode cX5_opened 71 = .ok (.getfield 16, 3) := by decide +kernel
theorem dX5_opened_74 : decode cX5_opened 74 = .ok (.iconst 0, 1) := by decide +kernel
theorem dX5_opened_75 : decode cX5_opened 75 = .ok (.iaload, 1) := by decide +kernel
theorem dX5_opened_76 : decode cX5_opened 76 = .ok (.iconst 1, 1) := by decide +kernel
theorem dX5_opened_77 : decode cX5_opened 77 = .ok (.iadd, 1) := by decide +kernel
theorem dX5_opened_78 : decode cX5_opened 78 = .ok (.iload 7, 2) := by decide +kernel
theorem dX5_opened_80 : decode cX5_opened 80 = .ok (.isub, 1) := by decide +kernel
theorem dX5_opened_81 : decode cX5_opened 81 = .ok (.ishr, 1) := by decide +kernel
theorem dX5_opened_82 : decode cX5_opened 82 = .ok (.iconst 1, 1) := by decide +kernel
theorem dX5_opened_83 : decode cX5_opened 83 = .ok (.iand, 1) := by decide +kernel
theorem dX5_opened_84 : decode cX5_opened 84 = .ok (.iconst 1, 1) := by decide +kernel
theorem dX5_opened_85 : decode cX5_opened 85 = .ok (.if_icmp .ne 10, 3) := by decide +kernel
theorem dX5_opened_88 : decode cX5_opened 88 = .ok (.iconst 1, 1) := by decide +kernel
theorem dX5_opened_89 : decode cX5_opened 89 = .ok (.iload 7, 2) := by decide +kernel
theorem dX5_opened_91 : decode cX5_opened 91 = .ok (.ishl, 1) := by decide +kernel
theorem dX5_opened_92 : decode cX5_opened 92 = .ok (.goto 4, 3) := by decide +kernel
theorem dX5_opened_95 : decode cX5_opened 95 = .ok (.iconst 0, 1) := by decide +kernel
theorem dX5_opened_96 : decode cX5_opened 96 = .ok (.ior, 1) := by decide +kernel
theorem dX5_opened_97 : decode cX5_opened 97 = .ok (.istore 6, 2) := by decide +kernel
theorem dX5_opened_99 : decode cX5_opened 99 = .ok (.iinc 7 1, 3) := by decide +kernel
theorem dX5_opened_102 : decode cX5_opened 102 = .ok (.goto (-57), 3) := by decide +kernel
theorem dX5_opened_105 : decode cX5_opened 105 = .ok (.iload 6, 2) := by decide +kernel
theorem dX5_opened_107 : decode cX5_opened 107 = .ok (.ireturn, 1) := by decide +kernel
theorem dX5_taken_0 : decode cX5_taken 0 = .ok (.aload_n 0, 1) := by decide +kernel
theorem dX5_taken_1 : decode cX5_taken 1 = .ok (.iconst 0, 1) := by decide +kernel
theorem dX5_taken_2 : decode cX5_taken 2 = .ok (.invokevirtual 129, 3) := by decide +kernel
theorem dX5_taken_5 : decode cX5_taken 5 = .ok (.aload_n 0, 1) := by decide +kernel
theorem dX5_taken_6 : decode cX5_taken 6 = .ok (.iconst 1, 1) := by decide +kernel
theorem dX5_taken_7 : decode cX5_taken 7 = .ok (.invokevirtual 129, 3) := by decide +kernel
theorem dX5_taken_10 : decode cX5_taken 10 = .ok (.ior, 1) := by decide +kernel
theorem dX5_taken_11 : decode cX5_taken 11 = .ok (.ireturn, 1) := by decide +kernel
theorem dX5_open_0 : decode cX5_open 0 = .ok (.aload_n 0, 1) := by decide +kernel
theorem dX5_open_1 : decode cX5_open 1 = .ok (.getfield 19, 3) := by decide +kernel
theorem dX5_open_4 : decode cX5_open 4 = .ok (.iconst 2, 1) := by decide +kernel
theorem dX5_open_5 : decode cX5_open 5 = .ok (.iaload, 1) := by decide +kernel
theorem dX5_open_6 : decode cX5_open 6 = .ok (.istore_n 1, 1) := by decide +kernel
theorem dX5_open_7 : decode cX5_open 7 = .ok (.iload_n 1, 1) := by decide +kernel
theorem dX5_open_8 : decode cX5_open 8 = .ok (.bipush (-9), 2) := by decide +kernel
theorem dX5_open_10 : decode cX5_open 10 = .ok (.if_icmp .ne 7, 3) := by decide +kernel
theorem dX5_open_13 : decode cX5_open 13 = .ok (.iconst 0, 1) := by decide +kernel
theorem dX5_open_14 : decode cX5_open 14 = .ok (.goto 35, 3) := by decide +kernel
theorem dX5_open_17 : decode cX5_open 17 = .ok (.aload_n 0, 1) := by decide +kernel
theorem dX5_open_18 : decode cX5_open 18 = .ok (.iload_n 1, 1) := by decide +kernel
theorem dX5_open_19 : decode cX5_open 19 = .ok (.bipush 100, 2) := by decide +kernel
theorem dX5_open_21 : decode cX5_open 21 = .ok (.idiv, 1) := by decide +kernel
theorem dX5_open_22 : decode cX5_open 22 = .ok (.iload_n 1, 1) := by decide +kernel
theorem dX5_open_23 : decode cX5_open 23 = .ok (.bipush 10, 2) := by decide +kernel
theorem dX5_open_25 : decode cX5_open 25 = .ok (.idiv, 1) := by decide +kernel
theorem dX5_open_26 : decode cX5_open 26 = .ok (.bipush 10, 2) := by decide +kernel
theorem dX5_open_28 : decode cX5_open 28 = .ok (.irem, 1) := by decide +kernel
theorem dX5_open_29 : decode cX5_open 29 = .ok (.iload_n 1, 1) := by decide +kernel
theorem dX5_open_30 : decode cX5_open 30 = .ok (.bipush 10, 2) := by decide +kernel
theorem dX5_open_32 : decode cX5_open 32 = .ok (.irem, 1) := by decide +kernel
theorem dX5_open_33 : decode cX5_open 33 = .ok (.aload_n 0, 1) := by decide +kernel
theorem dX5_open_34 : decode cX5_open 34 = .ok (.getfield 19, 3) := by decide +kernel
theorem dX5_open_37 : decode cX5_open 37 = .ok (.iconst 1, 1) := by decide +kernel
theorem dX5_open_38 : decode cX5_open 38 = .ok (.iaload, 1) := by decide +kernel
theorem dX5_open_39 : decode cX5_open 39 = .ok (.invokevirtual 135, 3) := by decide +kernel
theorem dX5_open_42 : decode cX5_open 42 = .ok (.aload_n 0, 1) := by decide +kernel
theorem dX5_open_43 : decode cX5_open 43 = .ok (.invokevirtual 139, 3) := by decide +kernel
theorem dX5_open_46 : decode cX5_open 46 = .ok (.iconst (-1), 1) := by decide +kernel
theorem dX5_open_47 : decode cX5_open 47 = .ok (.ixor, 1) := by decide +kernel
theorem dX5_open_48 : decode cX5_open 48 = .ok (.iand, 1) := by decide +kernel
theorem dX5_open_49 : decode cX5_open 49 = .ok (.ireturn, 1) := by decide +kernel
theorem dX5_notes_0 : decode cX5_notes 0 = .ok (.aload_n 0, 1) := by decide +kernel
theorem dX5_notes_1 : decode cX5_notes 1 = .ok (.getfield 106, 3) := by decide +kernel
theorem dX5_notes_4 : decode cX5_notes 4 = .ok (.bipush 12, 2) := by decide +kernel
theorem dX5_notes_6 : decode cX5_notes 6 = .ok (.if_icmp .ne 40, 3) := by decide +kernel
theorem dX5_notes_9 : decode cX5_notes 9 = .ok (.bipush 27, 2) := by decide +kernel
theorem dX5_notes_11 : decode cX5_notes 11 = .ok (.istore_n 1, 1) := by decide +kernel
theorem dX5_notes_12 : decode cX5_notes 12 = .ok (.iload_n 1, 1) := by decide +kernel
theorem dX5_notes_13 : decode cX5_notes 13 = .ok (.sipush 324, 3) := by decide +kernel
theorem dX5_notes_16 : decode cX5_notes 16 = .ok (.if_icmp .ge 24, 3) := by decide +kernel
theorem dX5_notes_19 : decode cX5_notes 19 = .ok (.aload_n 0, 1) := by decide +kernel
theorem dX5_notes_20 : decode cX5_notes 20 = .ok (.getfield 22, 3) := by decide +kernel
theorem dX5_notes_23 : decode cX5_notes 23 = .ok (.iload_n 1, 1) := by decide +kernel
theorem dX5_notes_24 : decode cX5_notes 24 = .ok (.bipush 27, 2) := by decide +kernel
theorem dX5_notes_26 : decode cX5_notes 26 = .ok (.isub, 1) := by decide +kernel
theorem dX5_notes_27 : decode cX5_notes 27 = .ok (.aload_n 0, 1) := by decide +kernel
theorem dX5_notes_28 : decode cX5_notes 28 = .ok (.getfield 22, 3) := by decide +kernel
theorem dX5_notes_31 : decode cX5_notes 31 = .ok (.iload_n 1, 1) := by decide +kernel
theorem dX5_notes_32 : decode cX5_notes 32 = .ok (.iaload, 1) := by decide +kernel
theorem dX5_notes_33 : decode cX5_notes 33 = .ok (.iastore, 1) := by decide +kernel
theorem dX5_notes_34 : decode cX5_notes 34 = .ok (.iinc 1 1, 3) := by decide +kernel
theorem dX5_notes_37 : decode cX5_notes 37 = .ok (.goto (-25), 3) := by decide +kernel
theorem dX5_notes_40 : decode cX5_notes 40 = .ok (.aload_n 0, 1) := by decide +kernel
theorem dX5_notes_41 : decode cX5_notes 41 = .ok (.bipush 11, 2) := by decide +kernel
theorem dX5_notes_43 : decode cX5_notes 43 = .ok (.putfield 106, 3) := by decide +kernel
theorem dX5_notes_46 : decode cX5_notes 46 = .ok (.iconst 0, 1) := by decide +kernel
theorem dX5_notes_47 : decode cX5_notes 47 = .ok (.istore_n 1, 1) := by decide +kernel
theorem dX5_notes_48 : decode cX5_notes 48 = .ok (.iload_n 1, 1) := by decide +kernel
theorem dX5_notes_49 : decode cX5_notes 49 = .ok (.bipush 27, 2) := by decide +kernel
theorem dX5_notes_51 : decode cX5_notes 51 = .ok (.if_icmp .ge 29, 3) := by decide +kernel
theorem dX5_notes_54 : decode cX5_notes 54 = .ok (.aload_n 0, 1) := by decide +kernel
theorem dX5_notes_55 : decode cX5_notes 55 = .ok (.getfield 22, 3) := by decide +kernel
theorem dX5_notes_58 : decode cX5_notes 58 = .ok (.bipush 27, 2) := by decide +kernel
theorem dX5_notes_60 : decode cX5_notes 60 = .ok (.aload_n 0, 1) := by decide +kernel
theorem dX5_notes_61 : decode cX5_notes 61 = .ok (.getfield 106, 3) := by decide +kernel
theorem dX5_notes_64 : decode cX5_notes 64 = .ok (.imul, 1) := by decide +kernel
theorem dX5_notes_65 : decode cX5_notes 65 = .ok (.iload_n 1, 1) := by decide +kernel
theorem dX5_notes_66 : decode cX5_notes 66 = .ok (.iadd, 1) := by decide +kernel
theorem dX5_notes_67 : decode cX5_notes 67 = .ok (.aload_n 0, 1) := by decide +kernel
theorem dX5_notes_68 : decode cX5_notes 68 = .ok (.getfield 19, 3) := by decide +kernel
theorem dX5_notes_71 : decode cX5_notes 71 = .ok (.iload_n 1, 1) := by decide +kernel
theorem dX5_notes_72 : decode cX5_notes 72 = .ok (.iaload, 1) := by decide +kernel
theorem dX5_notes_73 : decode cX5_notes 73 = .ok (.iastore, 1) := by decide +kernel
theorem dX5_notes_74 : decode cX5_notes 74 = .ok (.iinc 1 1, 3) := by decide +kernel
theorem dX5_notes_77 : decode cX5_notes 77 = .ok (.goto (-29), 3) := by decide +kernel
theorem dX5_notes_80 : decode cX5_notes 80 = .ok (.aload_n 0, 1) := by decide +kernel
theorem dX5_notes_81 : decode cX5_notes 81 = .ok (.dup, 1) := by decide +kernel
theorem dX5_notes_82 : decode cX5_notes 82 = .ok (.getfield 106, 3) := by decide +kernel
theorem dX5_notes_85 : decode cX5_notes 85 = .ok (.iconst 1, 1) := by decide +kernel
theorem dX5_notes_86 : decode cX5_notes 86 = .ok (.iadd, 1) := by decide +kernel
theorem dX5_notes_87 : decode cX5_notes 87 = .ok (.putfield 106, 3) := by decide +kernel
theorem dX5_notes_90 : decode cX5_notes 90 = .ok (.return_, 1) := by decide +kernel
theorem dX5_tides_0 : decode cX5_tides 0 = .ok (.aload_n 0, 1) := by decide +kernel
theorem dX5_tides_1 : decode cX5_tides 1 = .ok (.getfield 19, 3) := by decide +kernel
theorem dX5_tides_4 : decode cX5_tides 4 = .ok (.iconst 3, 1) := by decide +kernel
theorem dX5_tides_5 : decode cX5_tides 5 = .ok (.iload_n 1, 1) := by decide +kernel
theorem dX5_tides_6 : decode cX5_tides 6 = .ok (.iadd, 1) := by decide +kernel
theorem dX5_tides_7 : decode cX5_tides 7 = .ok (.iaload, 1) := by decide +kernel
theorem dX5_tides_8 : decode cX5_tides 8 = .ok (.iload_n 2, 1) := by decide +kernel
theorem dX5_tides_9 : decode cX5_tides 9 = .ok (.iadd, 1) := by decide +kernel
theorem dX5_tides_10 : decode cX5_tides 10 = .ok (.istore_n 3, 1) := by decide +kernel
theorem dX5_tides_11 : decode cX5_tides 11 = .ok (.aload_n 0, 1) := by decide +kernel
theorem dX5_tides_12 : decode cX5_tides 12 = .ok (.getfield 19, 3) := by decide +kernel
theorem dX5_tides_15 : decode cX5_tides 15 = .ok (.iconst 3, 1) := by decide +kernel
theorem dX5_tides_16 : decode cX5_tides 16 = .ok (.iload_n 1, 1) := by decide +kernel
theorem dX5_tides_17 : decode cX5_tides 17 = .ok (.iadd, 1) := by decide +kernel
theorem dX5_tides_18 : decode cX5_tides 18 = .ok (.iload_n 3, 1) := by decide +kernel
theorem dX5_tides_19 : decode cX5_tides 19 = .ok (.sipush 999, 3) := by decide +kernel
theorem dX5_tides_22 : decode cX5_tides 22 = .ok (.if_icmp .le 9, 3) := by decide +kernel
theorem dX5_tides_25 : decode cX5_tides 25 = .ok (.sipush 999, 3) := by decide +kernel
theorem dX5_tides_28 : decode cX5_tides 28 = .ok (.goto 4, 3) := by decide +kernel
theorem dX5_tides_31 : decode cX5_tides 31 = .ok (.iload_n 3, 1) := by decide +kernel
theorem dX5_tides_32 : decode cX5_tides 32 = .ok (.iastore, 1) := by decide +kernel
theorem dX5_tides_33 : decode cX5_tides 33 = .ok (.return_, 1) := by decide +kernel
theorem dX5_isWon_0 : decode cX5_isWon 0 = .ok (.aload_n 0, 1) := by decide +kernel
theorem dX5_isWon_1 : decode cX5_isWon 1 = .ok (.getfield 19, 3) := by decide +kernel
theorem dX5_isWon_4 : decode cX5_isWon 4 = .ok (.bipush 7, 2) := by decide +kernel
theorem dX5_isWon_6 : decode cX5_isWon 6 = .ok (.iaload, 1) := by decide +kernel
theorem dX5_isWon_7 : decode cX5_isWon 7 = .ok (.bipush (-9), 2) := by decide +kernel
theorem dX5_isWon_9 : decode cX5_isWon 9 = .ok (.if_icmp .eq 7, 3) := by decide +kernel
theorem dX5_isWon_12 : decode cX5_isWon 12 = .ok (.iconst 1, 1) := by decide +kernel
theorem dX5_isWon_13 : decode cX5_isWon 13 = .ok (.goto 4, 3) := by decide +kernel
theorem dX5_isWon_16 : decode cX5_isWon 16 = .ok (.iconst 0, 1) := by decide +kernel
theorem dX5_isWon_17 : decode cX5_isWon 17 = .ok (.ireturn, 1) := by decide +kernel
theorem dX5_throwsDice_0 : decode cX5_throwsDice 0 = .ok (.aload_n 0, 1) := by decide +kernel
theorem dX5_throwsDice_1 : decode cX5_throwsDice 1 = .ok (.iconst 0, 1) := by decide +kernel
theorem dX5_throwsDice_2 : decode cX5_throwsDice 2 = .ok (.iload_n 1, 1) := by decide +kernel
theorem dX5_throwsDice_3 : decode cX5_throwsDice 3 = .ok (.invokevirtual 143, 3) := by decide +kernel
theorem dX5_throwsDice_6 : decode cX5_throwsDice 6 = .ok (.ifCond .eq 21, 3) := by decide +kernel
theorem dX5_throwsDice_9 : decode cX5_throwsDice 9 = .ok (.aload_n 0, 1) := by decide +kernel
theorem dX5_throwsDice_10 : decode cX5_throwsDice 10 = .ok (.iconst 1, 1) := by decide +kernel
theorem dX5_throwsDice_11 : decode cX5_throwsDice 11 = .ok (.iload_n 2, 1) := by decide +kernel
theorem dX5_throwsDice_12 : decode cX5_throwsDice 12 = .ok (.invokevirtual 143, 3) := by decide +kernel
theorem dX5_throwsDice_15 : decode cX5_throwsDice 15 = .ok (.ifCond .eq 12, 3) := by decide +kernel
theorem dX5_throwsDice_18 : decode cX5_throwsDice 18 = .ok (.aload_n 0, 1) := by decide +kernel
theorem dX5_throwsDice_19 : decode cX5_throwsDice 19 = .ok (.iconst 2, 1) := by decide +kernel
theorem dX5_throwsDice_20 : decode cX5_throwsDice 20 = .ok (.iload_n 3, 1) := by decide +kernel
theorem dX5_throwsDice_21 : decode cX5_throwsDice 21 = .ok (.invokevirtual 143, 3) := by decide +kernel
theorem dX5_throwsDice_24 : decode cX5_throwsDice 24 = .ok (.ifCond .ne 5, 3) := by decide +kernel
theorem dX5_throwsDice_27 : decode cX5_throwsDice 27 = .ok (.iconst (-1), 1) := by decide +kernel
theorem dX5_throwsDice_28 : decode cX5_throwsDice 28 = .ok (.ireturn, 1) := by decide +kernel
theorem dX5_throwsDice_29 : decode cX5_throwsDice 29 = .ok (.aload_n 0, 1) := by decide +kernel
theorem dX5_throwsDice_30 : decode cX5_throwsDice 30 = .ok (.getfield 19, 3) := by decide +kernel
theorem dX5_throwsDice_33 : decode cX5_throwsDice 33 = .ok (.iconst 2, 1) := by decide +kernel
theorem dX5_throwsDice_34 : decode cX5_throwsDice 34 = .ok (.iaload, 1) := by decide +kernel
theorem dX5_throwsDice_35 : decode cX5_throwsDice 35 = .ok (.bipush (-9), 2) := by decide +kernel
theorem dX5_throwsDice_37 : decode cX5_throwsDice 37 = .ok (.if_icmp .ne 10, 3) := by decide +kernel
theorem dX5_throwsDice_40 : decode cX5_throwsDice 40 = .ok (.aload_n 0, 1) := by decide +kernel
theorem dX5_throwsDice_41 : decode cX5_throwsDice 41 = .ok (.invokevirtual 146, 3) := by decide +kernel
theorem dX5_throwsDice_44 : decode cX5_throwsDice 44 = .ok (.ifCond .eq 6, 3) := by decide +kernel
theorem dX5_throwsDice_47 : decode cX5_throwsDice 47 = .ok (.bipush (-2), 2) := by decide +kernel
theorem dX5_throwsDice_49 : decode cX5_throwsDice 49 = .ok (.ireturn, 1) := by decide +kernel
theorem dX5_throwsDice_50 : decode cX5_throwsDice 50 = .ok (.aload_n 0, 1) := by decide +kernel
theorem dX5_throwsDice_51 : decode cX5_throwsDice 51 = .ok (.invokevirtual 149, 3) := by decide +kernel
theorem dX5_throwsDice_54 : decode cX5_throwsDice 54 = .ok (.aload_n 0, 1) := by decide +kernel
theorem dX5_throwsDice_55 : decode cX5_throwsDice 55 = .ok (.getfield 19, 3) := by decide +kernel
theorem dX5_throwsDice_58 : decode cX5_throwsDice 58 = .ok (.iconst 2, 1) := by decide +kernel
theorem dX5_throwsDice_59 : decode cX5_throwsDice 59 = .ok (.bipush 100, 2) := by decide +kernel
theorem dX5_throwsDice_61 : decode cX5_throwsDice 61 = .ok (.iload_n 1, 1) := by decide +kernel
theorem dX5_throwsDice_62 : decode cX5_throwsDice 62 = .ok (.imul, 1) := by decide +kernel
theorem dX5_throwsDice_63 : decode cX5_throwsDice 63 = .ok (.bipush 10, 2) := by decide +kernel
theorem dX5_throwsDice_65 : decode cX5_throwsDice 65 = .ok (.iload_n 2, 1) := by decide +kernel
theorem dX5_throwsDice_66 : decode cX5_throwsDice 66 = .ok (.imul, 1) := by decide +kernel
theorem dX5_throwsDice_67 : decode cX5_throwsDice 67 = .ok (.iadd, 1) := by decide +kernel
theorem dX5_throwsDice_68 : decode cX5_throwsDice 68 = .ok (.iload_n 3, 1) := by decide +kernel
theorem dX5_throwsDice_69 : decode cX5_throwsDice 69 = .ok (.iadd, 1) := by decide +kernel
theorem dX5_throwsDice_70 : decode cX5_throwsDice 70 = .ok (.iastore, 1) := by decide +kernel
theorem dX5_throwsDice_71 : decode cX5_throwsDice 71 = .ok (.aload_n 0, 1) := by decide +kernel
theorem dX5_throwsDice_72 : decode cX5_throwsDice 72 = .ok (.getfield 19, 3) := by decide +kernel
theorem dX5_throwsDice_75 : decode cX5_throwsDice 75 = .ok (.iconst 1, 1) := by decide +kernel
theorem dX5_throwsDice_76 : decode cX5_throwsDice 76 = .ok (.iload_n 1, 1) := by decide +kernel
theorem dX5_throwsDice_77 : decode cX5_throwsDice 77 = .ok (.iload_n 2, 1) := by decide +kernel
theorem dX5_throwsDice_78 : decode cX5_throwsDice 78 = .ok (.iload_n 3, 1) := by decide +kernel
theorem dX5_throwsDice_79 : decode cX5_throwsDice 79 = .ok (.invokestatic 152, 3) := by decide +kernel
theorem dX5_throwsDice_82 : decode cX5_throwsDice 82 = .ok (.ifCond .eq 14, 3) := by decide +kernel
theorem dX5_throwsDice_85 : decode cX5_throwsDice 85 = .ok (.iconst 1, 1) := by decide +kernel
theorem dX5_throwsDice_86 : decode cX5_throwsDice 86 = .ok (.aload_n 0, 1) := by decide +kernel
theorem dX5_throwsDice_87 : decode cX5_throwsDice 87 = .ok (.getfield 19, 3) := by decide +kernel
theorem dX5_throwsDice_90 : decode cX5_throwsDice 90 = .ok (.iconst 1, 1) := by decide +kernel
theorem dX5_throwsDice_91 : decode cX5_throwsDice 91 = .ok (.iaload, 1) := by decide +kernel
theorem dX5_throwsDice_92 : decode cX5_throwsDice 92 = .ok (.isub, 1) := by decide +kernel
theorem dX5_throwsDice_93 : decode cX5_throwsDice 93 = .ok (.goto 9, 3) := by decide +kernel
theorem dX5_throwsDice_96 : decode cX5_throwsDice 96 = .ok (.aload_n 0, 1) := by decide +kernel
theorem dX5_throwsDice_97 : decode cX5_throwsDice 97 = .ok (.getfield 19, 3) := by decide +kernel
theorem dX5_throwsDice_100 : decode cX5_throwsDice 100 = .ok (.iconst 1, 1) := by decide +kernel
theorem dX5_throwsDice_101 : decode cX5_throwsDice 101 = .ok (.iaload, 1) := by decide +kernel
theorem dX5_throwsDice_102 : decode cX5_throwsDice 102 = .ok (.iastore, 1) := by decide +kernel
theorem dX5_throwsDice_103 : decode cX5_throwsDice 103 = .ok (.aload_n 0, 1) := by decide +kernel
theorem dX5_throwsDice_104 : decode cX5_throwsDice 104 = .ok (.getfield 19, 3) := by decide +kernel
theorem dX5_throwsDice_107 : decode cX5_throwsDice 107 = .ok (.iconst 5, 1) := by decide +kernel
theorem dX5_throwsDice_108 : decode cX5_throwsDice 108 = .ok (.aload_n 0, 1) := by decide +kernel
theorem dX5_throwsDice_109 : decode cX5_throwsDice 109 = .ok (.getfield 19, 3) := by decide +kernel
theorem dX5_throwsDice_112 : decode cX5_throwsDice 112 = .ok (.iconst 0, 1) := by decide +kernel
theorem dX5_throwsDice_113 : decode cX5_throwsDice 113 = .ok (.iaload, 1) := by decide +kernel
theorem dX5_throwsDice_114 : decode cX5_throwsDice 114 = .ok (.iadd, 1) := by decide +kernel
theorem dX5_throwsDice_115 : decode cX5_throwsDice 115 = .ok (.iload_n 1, 1) := by decide +kernel
theorem dX5_throwsDice_116 : decode cX5_throwsDice 116 = .ok (.iload_n 2, 1) := by decide +kernel
theorem dX5_throwsDice_117 : decode cX5_throwsDice 117 = .ok (.if_icmp .ne 12, 3) := by decide +kernel
theorem dX5_throwsDice_120 : decode cX5_throwsDice 120 = .ok (.iload_n 2, 1) := by decide +kernel
theorem dX5_throwsDice_121 : decode cX5_throwsDice 121 = .ok (.iload_n 3, 1) := by decide +kernel
theorem dX5_throwsDice_122 : decode cX5_throwsDice 122 = .ok (.if_icmp .ne 7, 3) := by decide +kernel
theorem dX5_throwsDice_125 : decode cX5_throwsDice 125 = .ok (.iconst 1, 1) := by decide +kernel
theorem dX5_throwsDice_126 : decode cX5_throwsDice 126 = .ok (.goto 16, 3) := by decide +kernel
theorem dX5_throwsDice_129 : decode cX5_throwsDice 129 = .ok (.aload_n 0, 1) := by decide +kernel
theorem dX5_throwsDice_130 : decode cX5_throwsDice 130 = .ok (.getfield 19, 3) := by decide +kernel
theorem dX5_throwsDice_133 : decode cX5_throwsDice 133 = .ok (.iconst 5, 1) := by decide +kernel
theorem dX5_throwsDice_134 : decode cX5_throwsDice 134 = .ok (.aload_n 0, 1) := by decide +kernel
theorem dX5_throwsDice_135 : decode cX5_throwsDice 135 = .ok (.getfield 19, 3) := by decide +kernel
theorem dX5_throwsDice_138 : decode cX5_throwsDice 138 = .ok (.iconst 0, 1) := by decide +kernel
theorem dX5_throwsDice_139 : decode cX5_throwsDice 139 = .ok (.iaload, 1) := by decide +kernel
theorem dX5_throwsDice_140 : decode cX5_throwsDice 140 = .ok (.iadd, 1) := by decide +kernel
theorem dX5_throwsDice_141 : decode cX5_throwsDice 141 = .ok (.iaload, 1) := by decide +kernel
theorem dX5_throwsDice_142 : decode cX5_throwsDice 142 = .ok (.iastore, 1) := by decide +kernel
theorem dX5_throwsDice_143 : decode cX5_throwsDice 143 = .ok (.aload_n 0, 1) := by decide +kernel
theorem dX5_throwsDice_144 : decode cX5_throwsDice 144 = .ok (.invokevirtual 156, 3) := by decide +kernel
theorem dX5_throwsDice_147 : decode cX5_throwsDice 147 = .ok (.ireturn, 1) := by decide +kernel
theorem dX5_ends_0 : decode cX5_ends 0 = .ok (.aload_n 0, 1) := by decide +kernel
theorem dX5_ends_1 : decode cX5_ends 1 = .ok (.getfield 19, 3) := by decide +kernel
theorem dX5_ends_4 : decode cX5_ends 4 = .ok (.iconst 0, 1) := by decide +kernel
theorem dX5_ends_5 : decode cX5_ends 5 = .ok (.iaload, 1) := by decide +kernel
theorem dX5_ends_6 : decode cX5_ends 6 = .ok (.istore_n 1, 1) := by decide +kernel
theorem dX5_ends_7 : decode cX5_ends 7 = .ok (.iconst 1, 1) := by decide +kernel
theorem dX5_ends_8 : decode cX5_ends 8 = .ok (.iload_n 1, 1) := by decide +kernel
theorem dX5_ends_9 : decode cX5_ends 9 = .ok (.isub, 1) := by decide +kernel
theorem dX5_ends_10 : decode cX5_ends 10 = .ok (.istore_n 2, 1) := by decide +kernel
theorem dX5_ends_11 : decode cX5_ends 11 = .ok (.aload_n 0, 1) := by decide +kernel
theorem dX5_ends_12 : decode cX5_ends 12 = .ok (.iload_n 1, 1) := by decide +kernel
theorem dX5_ends_13 : decode cX5_ends 13 = .ok (.invokevirtual 129, 3) := by decide +kernel
theorem dX5_ends_16 : decode cX5_ends 16 = .ok (.invokestatic 159, 3) := by decide +kernel
theorem dX5_ends_19 : decode cX5_ends 19 = .ok (.aload_n 0, 1) := by decide +kernel
theorem dX5_ends_20 : decode cX5_ends 20 = .ok (.getfield 16, 3) := by decide +kernel
theorem dX5_ends_23 : decode cX5_ends 23 = .ok (.iconst 1, 1) := by decide +kernel
theorem dX5_ends_24 : decode cX5_ends 24 = .ok (.iaload, 1) := by decide +kernel
theorem dX5_ends_25 : decode cX5_ends 25 = .ok (.if_icmp .lt 22, 3) := by decide +kernel
theorem dX5_ends_28 : decode cX5_ends 28 = .ok (.aload_n 0, 1) := by decide +kernel
theorem dX5_ends_29 : decode cX5_ends 29 = .ok (.getfield 19, 3) := by decide +kernel
theorem dX5_ends_32 : decode cX5_ends 32 = .ok (.bipush 7, 2) := by decide +kernel
theorem dX5_ends_34 : decode cX5_ends 34 = .ok (.iload_n 1, 1) := by decide +kernel
theorem dX5_ends_35 : decode cX5_ends 35 = .ok (.iastore, 1) := by decide +kernel
theorem dX5_ends_36 : decode cX5_ends 36 = .ok (.aload_n 0, 1) := by decide +kernel
theorem dX5_ends_37 : decode cX5_ends 37 = .ok (.getfield 19, 3) := by decide +kernel
theorem dX5_ends_40 : decode cX5_ends 40 = .ok (.iconst 0, 1) := by decide +kernel
theorem dX5_ends_41 : decode cX5_ends 41 = .ok (.bipush (-9), 2) := by decide +kernel
theorem dX5_ends_43 : decode cX5_ends 43 = .ok (.iastore, 1) := by decide +kernel
theorem dX5_ends_44 : decode cX5_ends 44 = .ok (.goto 45, 3) := by decide +kernel
theorem dX5_ends_47 : decode cX5_ends 47 = .ok (.aload_n 0, 1) := by decide +kernel
theorem dX5_ends_48 : decode cX5_ends 48 = .ok (.getfield 19, 3) := by decide +kernel
theorem dX5_ends_51 : decode cX5_ends 51 = .ok (.iconst 5, 1) := by decide +kernel
theorem dX5_ends_52 : decode cX5_ends 52 = .ok (.iload_n 2, 1) := by decide +kernel
theorem dX5_ends_53 : decode cX5_ends 53 = .ok (.iadd, 1) := by decide +kernel
theorem dX5_ends_54 : decode cX5_ends 54 = .ok (.iaload, 1) := by decide +kernel
theorem dX5_ends_55 : decode cX5_ends 55 = .ok (.iconst 1, 1) := by decide +kernel
theorem dX5_ends_56 : decode cX5_ends 56 = .ok (.if_icmp .ne 26, 3) := by decide +kernel
theorem dX5_ends_59 : decode cX5_ends 59 = .ok (.aload_n 0, 1) := by decide +kernel
theorem dX5_ends_60 : decode cX5_ends 60 = .ok (.getfield 19, 3) := by decide +kernel
theorem dX5_ends_63 : decode cX5_ends 63 = .ok (.iconst 2, 1) := by decide +kernel
theorem dX5_ends_64 : decode cX5_ends 64 = .ok (.iaload, 1) := by decide +kernel
theorem dX5_ends_65 : decode cX5_ends 65 = .ok (.bipush (-9), 2) := by decide +kernel
theorem dX5_ends_67 : decode cX5_ends 67 = .ok (.if_icmp .ne 15, 3) := by decide +kernel
theorem dX5_ends_70 : decode cX5_ends 70 = .ok (.aload_n 0, 1) := by decide +kernel
theorem dX5_ends_71 : decode cX5_ends 71 = .ok (.getfield 19, 3) := by decide +kernel
theorem dX5_ends_74 : decode cX5_ends 74 = .ok (.iconst 5, 1) := by decide +kernel
theorem dX5_ends_75 : decode cX5_ends 75 = .ok (.iload_n 2, 1) := by decide +kernel
theorem dX5_ends_76 : decode cX5_ends 76 = .ok (.iadd, 1) := by decide +kernel
theorem dX5_ends_77 : decode cX5_ends 77 = .ok (.iconst 0, 1) := by decide +kernel
theorem dX5_ends_78 : decode cX5_ends 78 = .ok (.iastore, 1) := by decide +kernel
theorem dX5_ends_79 : decode cX5_ends 79 = .ok (.goto 10, 3) := by decide +kernel
theorem dX5_ends_82 : decode cX5_ends 82 = .ok (.aload_n 0, 1) := by decide +kernel
theorem dX5_ends_83 : decode cX5_ends 83 = .ok (.getfield 19, 3) := by decide +kernel
theorem dX5_ends_86 : decode cX5_ends 86 = .ok (.iconst 0, 1) := by decide +kernel
theorem dX5_ends_87 : decode cX5_ends 87 = .ok (.iload_n 2, 1) := by decide +kernel
theorem dX5_ends_88 : decode cX5_ends 88 = .ok (.iastore, 1) := by decide +kernel
theorem dX5_ends_89 : decode cX5_ends 89 = .ok (.return_, 1) := by decide +kernel
theorem dX5_gives_0 : decode cX5_gives 0 = .ok (.aload_n 0, 1) := by decide +kernel
theorem dX5_gives_1 : decode cX5_gives 1 = .ok (.iconst 1, 1) := by decide +kernel
theorem dX5_gives_2 : decode cX5_gives 2 = .ok (.aload_n 0, 1) := by decide +kernel
theorem dX5_gives_3 : decode cX5_gives 3 = .ok (.getfield 19, 3) := by decide +kernel
theorem dX5_gives_6 : decode cX5_gives 6 = .ok (.iconst 0, 1) := by decide +kernel
theorem dX5_gives_7 : decode cX5_gives 7 = .ok (.iaload, 1) := by decide +kernel
theorem dX5_gives_8 : decode cX5_gives 8 = .ok (.isub, 1) := by decide +kernel
theorem dX5_gives_9 : decode cX5_gives 9 = .ok (.invokevirtual 129, 3) := by decide +kernel
theorem dX5_gives_12 : decode cX5_gives 12 = .ok (.iconst 1, 1) := by decide +kernel
theorem dX5_gives_13 : decode cX5_gives 13 = .ok (.iload_n 1, 1) := by decide +kernel
theorem dX5_gives_14 : decode cX5_gives 14 = .ok (.ishl, 1) := by decide +kernel
theorem dX5_gives_15 : decode cX5_gives 15 = .ok (.iconst 1, 1) := by decide +kernel
theorem dX5_gives_16 : decode cX5_gives 16 = .ok (.isub, 1) := by decide +kernel
theorem dX5_gives_17 : decode cX5_gives 17 = .ok (.iand, 1) := by decide +kernel
theorem dX5_gives_18 : decode cX5_gives 18 = .ok (.invokestatic 159, 3) := by decide +kernel
theorem dX5_gives_21 : decode cX5_gives 21 = .ok (.ireturn, 1) := by decide +kernel
theorem dX5_takes_0 : decode cX5_takes 0 = .ok (.aload_n 0, 1) := by decide +kernel
theorem dX5_takes_1 : decode cX5_takes 1 = .ok (.iload_n 1, 1) := by decide +kernel
theorem dX5_takes_2 : decode cX5_takes 2 = .ok (.invokevirtual 124, 3) := by decide +kernel
theorem dX5_takes_5 : decode cX5_takes 5 = .ok (.ifCond .ne 5, 3) := by decide +kernel
theorem dX5_takes_8 : decode cX5_takes 8 = .ok (.iconst (-1), 1) := by decide +kernel
theorem dX5_takes_9 : decode cX5_takes 9 = .ok (.ireturn, 1) := by decide +kernel
theorem dX5_takes_10 : decode cX5_takes 10 = .ok (.aload_n 0, 1) := by decide +kernel
theorem dX5_takes_11 : decode cX5_takes 11 = .ok (.invokevirtual 156, 3) := by decide +kernel
theorem dX5_takes_14 : decode cX5_takes 14 = .ok (.iload_n 1, 1) := by decide +kernel
theorem dX5_takes_15 : decode cX5_takes 15 = .ok (.ishr, 1) := by decide +kernel
theorem dX5_takes_16 : decode cX5_takes 16 = .ok (.iconst 1, 1) := by decide +kernel
theorem dX5_takes_17 : decode cX5_takes 17 = .ok (.iand, 1) := by decide +kernel
theorem dX5_takes_18 : decode cX5_takes 18 = .ok (.ifCond .eq 10, 3) := by decide +kernel
theorem dX5_takes_21 : decode cX5_takes 21 = .ok (.aload_n 0, 1) := by decide +kernel
theorem dX5_takes_22 : decode cX5_takes 22 = .ok (.invokevirtual 146, 3) := by decide +kernel
theorem dX5_takes_25 : decode cX5_takes 25 = .ok (.ifCond .eq 6, 3) := by decide +kernel
theorem dX5_takes_28 : decode cX5_takes 28 = .ok (.bipush (-2), 2) := by decide +kernel
theorem dX5_takes_30 : decode cX5_takes 30 = .ok (.ireturn, 1) := by decide +kernel
theorem dX5_takes_31 : decode cX5_takes 31 = .ok (.aload_n 0, 1) := by decide +kernel
theorem dX5_takes_32 : decode cX5_takes 32 = .ok (.invokevirtual 149, 3) := by decide +kernel
theorem dX5_takes_35 : decode cX5_takes 35 = .ok (.aload_n 0, 1) := by decide +kernel
theorem dX5_takes_36 : decode cX5_takes 36 = .ok (.iload_n 1, 1) := by decide +kernel
theorem dX5_takes_37 : decode cX5_takes 37 = .ok (.invokevirtual 162, 3) := by decide +kernel
theorem dX5_takes_40 : decode cX5_takes 40 = .ok (.istore_n 2, 1) := by decide +kernel
theorem dX5_takes_41 : decode cX5_takes 41 = .ok (.aload_n 0, 1) := by decide +kernel
theorem dX5_takes_42 : decode cX5_takes 42 = .ok (.iconst 1, 1) := by decide +kernel
theorem dX5_takes_43 : decode cX5_takes 43 = .ok (.aload_n 0, 1) := by decide +kernel
theorem dX5_takes_44 : decode cX5_takes 44 = .ok (.getfield 19, 3) := by decide +kernel
theorem dX5_takes_47 : decode cX5_takes 47 = .ok (.iconst 0, 1) := by decide +kernel
theorem dX5_takes_48 : decode cX5_takes 48 = .ok (.iaload, 1) := by decide +kernel
theorem dX5_takes_49 : decode cX5_takes 49 = .ok (.isub, 1) := by decide +kernel
theorem dX5_takes_50 : decode cX5_takes 50 = .ok (.iload_n 2, 1) := by decide +kernel
theorem dX5_takes_51 : decode cX5_takes 51 = .ok (.invokevirtual 165, 3) := by decide +kernel
theorem dX5_takes_54 : decode cX5_takes 54 = .ok (.aload_n 0, 1) := by decide +kernel
theorem dX5_takes_55 : decode cX5_takes 55 = .ok (.getfield 19, 3) := by decide +kernel
theorem dX5_takes_58 : decode cX5_takes 58 = .ok (.bipush 8, 2) := by decide +kernel
theorem dX5_takes_60 : decode cX5_takes 60 = .ok (.iload_n 1, 1) := by decide +kernel
theorem dX5_takes_61 : decode cX5_takes 61 = .ok (.iadd, 1) := by decide +kernel
theorem dX5_takes_62 : decode cX5_takes 62 = .ok (.aload_n 0, 1) := by decide +kernel
theorem dX5_takes_63 : decode cX5_takes 63 = .ok (.getfield 19, 3) := by decide +kernel
theorem dX5_takes_66 : decode cX5_takes 66 = .ok (.iconst 0, 1) := by decide +kernel
theorem dX5_takes_67 : decode cX5_takes 67 = .ok (.iaload, 1) := by decide +kernel
theorem dX5_takes_68 : decode cX5_takes 68 = .ok (.iastore, 1) := by decide +kernel
theorem dX5_takes_69 : decode cX5_takes 69 = .ok (.aload_n 0, 1) := by decide +kernel
theorem dX5_takes_70 : decode cX5_takes 70 = .ok (.getfield 19, 3) := by decide +kernel
theorem dX5_takes_73 : decode cX5_takes 73 = .ok (.iconst 2, 1) := by decide +kernel
theorem dX5_takes_74 : decode cX5_takes 74 = .ok (.bipush (-9), 2) := by decide +kernel
theorem dX5_takes_76 : decode cX5_takes 76 = .ok (.iastore, 1) := by decide +kernel
theorem dX5_takes_77 : decode cX5_takes 77 = .ok (.aload_n 0, 1) := by decide +kernel
theorem dX5_takes_78 : decode cX5_takes 78 = .ok (.invokevirtual 169, 3) := by decide +kernel
theorem dX5_takes_81 : decode cX5_takes 81 = .ok (.iload_n 2, 1) := by decide +kernel
theorem dX5_takes_82 : decode cX5_takes 82 = .ok (.ireturn, 1) := by decide +kernel
theorem dX5_passes_0 : decode cX5_passes 0 = .ok (.aload_n 0, 1) := by decide +kernel
theorem dX5_passes_1 : decode cX5_passes 1 = .ok (.getfield 19, 3) := by decide +kernel
theorem dX5_passes_4 : decode cX5_passes 4 = .ok (.iconst 2, 1) := by decide +kernel
theorem dX5_passes_5 : decode cX5_passes 5 = .ok (.iaload, 1) := by decide +kernel
theorem dX5_passes_6 : decode cX5_passes 6 = .ok (.bipush (-9), 2) := by decide +kernel
theorem dX5_passes_8 : decode cX5_passes 8 = .ok (.if_icmp .eq 17, 3) := by decide +kernel
theorem dX5_passes_11 : decode cX5_passes 11 = .ok (.aload_n 0, 1) := by decide +kernel
theorem dX5_passes_12 : decode cX5_passes 12 = .ok (.invokevirtual 156, 3) := by decide +kernel
theorem dX5_passes_15 : decode cX5_passes 15 = .ok (.ifCond .ne 10, 3) := by decide +kernel
theorem dX5_passes_18 : decode cX5_passes 18 = .ok (.aload_n 0, 1) := by decide +kernel
theorem dX5_passes_19 : decode cX5_passes 19 = .ok (.invokevirtual 146, 3) := by decide +kernel
theorem dX5_passes_22 : decode cX5_passes 22 = .ok (.ifCond .eq 6, 3) := by decide +kernel
theorem dX5_passes_25 : decode cX5_passes 25 = .ok (.bipush (-2), 2) := by decide +kernel
theorem dX5_passes_27 : decode cX5_passes 27 = .ok (.ireturn, 1) := by decide +kernel
theorem dX5_passes_28 : decode cX5_passes 28 = .ok (.aload_n 0, 1) := by decide +kernel
theorem dX5_passes_29 : decode cX5_passes 29 = .ok (.invokevirtual 149, 3) := by decide +kernel
theorem dX5_passes_32 : decode cX5_passes 32 = .ok (.aload_n 0, 1) := by decide +kernel
theorem dX5_passes_33 : decode cX5_passes 33 = .ok (.getfield 19, 3) := by decide +kernel
theorem dX5_passes_36 : decode cX5_passes 36 = .ok (.iconst 2, 1) := by decide +kernel
theorem dX5_passes_37 : decode cX5_passes 37 = .ok (.bipush (-9), 2) := by decide +kernel
theorem dX5_passes_39 : decode cX5_passes 39 = .ok (.iastore, 1) := by decide +kernel
theorem dX5_passes_40 : decode cX5_passes 40 = .ok (.aload_n 0, 1) := by decide +kernel
theorem dX5_passes_41 : decode cX5_passes 41 = .ok (.invokevirtual 169, 3) := by decide +kernel
theorem dX5_passes_44 : decode cX5_passes 44 = .ok (.aload_n 0, 1) := by decide +kernel
theorem dX5_passes_45 : decode cX5_passes 45 = .ok (.getfield 19, 3) := by decide +kernel
theorem dX5_passes_48 : decode cX5_passes 48 = .ok (.iconst 0, 1) := by decide +kernel
theorem dX5_passes_49 : decode cX5_passes 49 = .ok (.iaload, 1) := by decide +kernel
theorem dX5_passes_50 : decode cX5_passes 50 = .ok (.ireturn, 1) := by decide +kernel
theorem dX5_leaves_0 : decode cX5_leaves 0 = .ok (.aload_n 0, 1) := by decide +kernel
theorem dX5_leaves_1 : decode cX5_leaves 1 = .ok (.getfield 19, 3) := by decide +kernel
theorem dX5_leaves_4 : decode cX5_leaves 4 = .ok (.iconst 2, 1) := by decide +kernel
theorem dX5_leaves_5 : decode cX5_leaves 5 = .ok (.iaload, 1) := by decide +kernel
theorem dX5_leaves_6 : decode cX5_leaves 6 = .ok (.bipush (-9), 2) := by decide +kernel
theorem dX5_leaves_8 : decode cX5_leaves 8 = .ok (.if_icmp .eq 10, 3) := by decide +kernel
theorem dX5_leaves_11 : decode cX5_leaves 11 = .ok (.aload_n 0, 1) := by decide +kernel
theorem dX5_leaves_12 : decode cX5_leaves 12 = .ok (.invokevirtual 146, 3) := by decide +kernel
theorem dX5_leaves_15 : decode cX5_leaves 15 = .ok (.ifCond .eq 6, 3) := by decide +kernel
theorem dX5_leaves_18 : decode cX5_leaves 18 = .ok (.bipush (-2), 2) := by decide +kernel
theorem dX5_leaves_20 : decode cX5_leaves 20 = .ok (.ireturn, 1) := by decide +kernel
theorem dX5_leaves_21 : decode cX5_leaves 21 = .ok (.aload_n 0, 1) := by decide +kernel
theorem dX5_leaves_22 : decode cX5_leaves 22 = .ok (.invokevirtual 149, 3) := by decide +kernel
theorem dX5_leaves_25 : decode cX5_leaves 25 = .ok (.aload_n 0, 1) := by decide +kernel
theorem dX5_leaves_26 : decode cX5_leaves 26 = .ok (.iconst 1, 1) := by decide +kernel
theorem dX5_leaves_27 : decode cX5_leaves 27 = .ok (.aload_n 0, 1) := by decide +kernel
theorem dX5_leaves_28 : decode cX5_leaves 28 = .ok (.getfield 19, 3) := by decide +kernel
theorem dX5_leaves_31 : decode cX5_leaves 31 = .ok (.iconst 0, 1) := by decide +kernel
theorem dX5_leaves_32 : decode cX5_leaves 32 = .ok (.iaload, 1) := by decide +kernel
theorem dX5_leaves_33 : decode cX5_leaves 33 = .ok (.isub, 1) := by decide +kernel
theorem dX5_leaves_34 : decode cX5_leaves 34 = .ok (.iconst 1, 1) := by decide +kernel
theorem dX5_leaves_35 : decode cX5_leaves 35 = .ok (.invokevirtual 165, 3) := by decide +kernel
theorem dX5_leaves_38 : decode cX5_leaves 38 = .ok (.aload_n 0, 1) := by decide +kernel
theorem dX5_leaves_39 : decode cX5_leaves 39 = .ok (.invokevirtual 169, 3) := by decide +kernel
theorem dX5_leaves_42 : decode cX5_leaves 42 = .ok (.aload_n 0, 1) := by decide +kernel
theorem dX5_leaves_43 : decode cX5_leaves 43 = .ok (.getfield 19, 3) := by decide +kernel
theorem dX5_leaves_46 : decode cX5_leaves 46 = .ok (.iconst 0, 1) := by decide +kernel
theorem dX5_leaves_47 : decode cX5_leaves 47 = .ok (.iaload, 1) := by decide +kernel
theorem dX5_leaves_48 : decode cX5_leaves 48 = .ok (.ireturn, 1) := by decide +kernel
theorem dX5_undo_0 : decode cX5_undo 0 = .ok (.aload_n 0, 1) := by decide +kernel
theorem dX5_undo_1 : decode cX5_undo 1 = .ok (.getfield 106, 3) := by decide +kernel
theorem dX5_undo_4 : decode cX5_undo 4 = .ok (.ifCond .ne 6, 3) := by decide +kernel
theorem dX5_undo_7 : decode cX5_undo 7 = .ok (.bipush (-2), 2) := by decide +kernel
theorem dX5_undo_9 : decode cX5_undo 9 = .ok (.ireturn, 1) := by decide +kernel
theorem dX5_undo_10 : decode cX5_undo 10 = .ok (.aload_n 0, 1) := by decide +kernel
theorem dX5_undo_11 : decode cX5_undo 11 = .ok (.dup, 1) := by decide +kernel
theorem dX5_undo_12 : decode cX5_undo 12 = .ok (.getfield 106, 3) := by decide +kernel
theorem dX5_undo_15 : decode cX5_undo 15 = .ok (.iconst 1, 1) := by decide +kernel
theorem dX5_undo_16 : decode cX5_undo 16 = .ok (.isub, 1) := by decide +kernel
theorem dX5_undo_17 : decode cX5_undo 17 = .ok (.putfield 106, 3) := by decide +kernel
theorem dX5_undo_20 : decode cX5_undo 20 = .ok (.iconst 0, 1) := by decide +kernel
theorem dX5_undo_21 : decode cX5_undo 21 = .ok (.istore_n 1, 1) := by decide +kernel
theorem dX5_undo_22 : decode cX5_undo 22 = .ok (.iload_n 1, 1) := by decide +kernel
theorem dX5_undo_23 : decode cX5_undo 23 = .ok (.bipush 27, 2) := by decide +kernel
theorem dX5_undo_25 : decode cX5_undo 25 = .ok (.if_icmp .ge 29, 3) := by decide +kernel
theorem dX5_undo_28 : decode cX5_undo 28 = .ok (.aload_n 0, 1) := by decide +kernel
theorem dX5_undo_29 : decode cX5_undo 29 = .ok (.getfield 19, 3) := by decide +kernel
theorem dX5_undo_32 : decode cX5_undo 32 = .ok (.iload_n 1, 1) := by decide +kernel
theorem dX5_undo_33 : decode cX5_undo 33 = .ok (.aload_n 0, 1) := by decide +kernel
theorem dX5_undo_34 : decode cX5_undo 34 = .ok (.getfield 22, 3) := by decide +kernel
theorem dX5_undo_37 : decode cX5_undo 37 = .ok (.bipush 27, 2) := by decide +kernel
theorem dX5_undo_39 : decode cX5_undo 39 = .ok (.aload_n 0, 1) := by decide +kernel
theorem dX5_undo_40 : decode cX5_undo 40 = .ok (.getfield 106, 3) := by decide +kernel
theorem dX5_undo_43 : decode cX5_undo 43 = .ok (.imul, 1) := by decide +kernel
theorem dX5_undo_44 : decode cX5_undo 44 = .ok (.iload_n 1, 1) := by decide +kernel
theorem dX5_undo_45 : decode cX5_undo 45 = .ok (.iadd, 1) := by decide +kernel
theorem dX5_undo_46 : decode cX5_undo 46 = .ok (.iaload, 1) := by decide +kernel
theorem dX5_undo_47 : decode cX5_undo 47 = .ok (.iastore, 1) := by decide +kernel
theorem dX5_undo_48 : decode cX5_undo 48 = .ok (.iinc 1 1, 3) := by decide +kernel
theorem dX5_undo_51 : decode cX5_undo 51 = .ok (.goto (-29), 3) := by decide +kernel
theorem dX5_undo_54 : decode cX5_undo 54 = .ok (.aload_n 0, 1) := by decide +kernel
theorem dX5_undo_55 : decode cX5_undo 55 = .ok (.getfield 106, 3) := by decide +kernel
theorem dX5_undo_58 : decode cX5_undo 58 = .ok (.ireturn, 1) := by decide +kernel
theorem dX5_now_0 : decode cX5_now 0 = .ok (.iload_n 1, 1) := by decide +kernel
theorem dX5_now_1 : decode cX5_now 1 = .ok (.tableswitch 84 0 5 #[39, 39, 39, 46, 62, 70], 39) := by decide +kernel
theorem dX5_now_40 : decode cX5_now 40 = .ok (.aload_n 0, 1) := by decide +kernel
theorem dX5_now_41 : decode cX5_now 41 = .ok (.getfield 19, 3) := by decide +kernel
theorem dX5_now_44 : decode cX5_now 44 = .ok (.iload_n 1, 1) := by decide +kernel
theorem dX5_now_45 : decode cX5_now 45 = .ok (.iaload, 1) := by decide +kernel
theorem dX5_now_46 : decode cX5_now 46 = .ok (.ireturn, 1) := by decide +kernel
theorem dX5_now_47 : decode cX5_now 47 = .ok (.aload_n 0, 1) := by decide +kernel
theorem dX5_now_48 : decode cX5_now 48 = .ok (.invokevirtual 146, 3) := by decide +kernel
theorem dX5_now_51 : decode cX5_now 51 = .ok (.ifCond .eq 7, 3) := by decide +kernel
theorem dX5_now_54 : decode cX5_now 54 = .ok (.iconst 0, 1) := by decide +kernel
theorem dX5_now_55 : decode cX5_now 55 = .ok (.goto 7, 3) := by decide +kernel
theorem dX5_now_58 : decode cX5_now 58 = .ok (.aload_n 0, 1) := by decide +kernel
theorem dX5_now_59 : decode cX5_now 59 = .ok (.invokevirtual 156, 3) := by decide +kernel
theorem dX5_now_62 : decode cX5_now 62 = .ok (.ireturn, 1) := by decide +kernel
theorem dX5_now_63 : decode cX5_now 63 = .ok (.aload_n 0, 1) := by decide +kernel
theorem dX5_now_64 : decode cX5_now 64 = .ok (.getfield 19, 3) := by decide +kernel
theorem dX5_now_67 : decode cX5_now 67 = .ok (.bipush 7, 2) := by decide +kernel
theorem dX5_now_69 : decode cX5_now 69 = .ok (.iaload, 1) := by decide +kernel
theorem dX5_now_70 : decode cX5_now 70 = .ok (.ireturn, 1) := by decide +kernel
theorem dX5_now_71 : decode cX5_now 71 = .ok (.aload_n 0, 1) := by decide +kernel
theorem dX5_now_72 : decode cX5_now 72 = .ok (.getfield 19, 3) := by decide +kernel
theorem dX5_now_75 : decode cX5_now 75 = .ok (.iconst 3, 1) := by decide +kernel
theorem dX5_now_76 : decode cX5_now 76 = .ok (.iaload, 1) := by decide +kernel
theorem dX5_now_77 : decode cX5_now 77 = .ok (.aload_n 0, 1) := by decide +kernel
theorem dX5_now_78 : decode cX5_now 78 = .ok (.getfield 19, 3) := by decide +kernel
theorem dX5_now_81 : decode cX5_now 81 = .ok (.iconst 4, 1) := by decide +kernel
theorem dX5_now_82 : decode cX5_now 82 = .ok (.iaload, 1) := by decide +kernel
theorem dX5_now_83 : decode cX5_now 83 = .ok (.isub, 1) := by decide +kernel
theorem dX5_now_84 : decode cX5_now 84 = .ok (.ireturn, 1) := by decide +kernel
theorem dX5_now_85 : decode cX5_now 85 = .ok (.ldc 172, 2) := by decide +kernel
theorem dX5_now_87 : decode cX5_now 87 = .ok (.ireturn, 1) := by decide +kernel
theorem dX5_comes_0 : decode cX5_comes 0 = .ok (.aload_n 0, 1) := by decide +kernel
theorem dX5_comes_1 : decode cX5_comes 1 = .ok (.iconst 2, 1) := by decide +kernel
theorem dX5_comes_2 : decode cX5_comes 2 = .ok (.invokevirtual 111, 3) := by decide +kernel
theorem dX5_comes_5 : decode cX5_comes 5 = .ok (.istore_n 2, 1) := by decide +kernel
theorem dX5_comes_6 : decode cX5_comes 6 = .ok (.aload_n 0, 1) := by decide +kernel
theorem dX5_comes_7 : decode cX5_comes 7 = .ok (.aload_n 0, 1) := by decide +kernel
theorem dX5_comes_8 : decode cX5_comes 8 = .ok (.iconst 0, 1) := by decide +kernel
theorem dX5_comes_9 : decode cX5_comes 9 = .ok (.iload_n 1, 1) := by decide +kernel
theorem dX5_comes_10 : decode cX5_comes 10 = .ok (.iload_n 2, 1) := by decide +kernel
theorem dX5_comes_11 : decode cX5_comes 11 = .ok (.idiv, 1) := by decide +kernel
theorem dX5_comes_12 : decode cX5_comes 12 = .ok (.aload_n 0, 1) := by decide +kernel
theorem dX5_comes_13 : decode cX5_comes 13 = .ok (.iconst 1, 1) := by decide +kernel
theorem dX5_comes_14 : decode cX5_comes 14 = .ok (.invokevirtual 111, 3) := by decide +kernel
theorem dX5_comes_17 : decode cX5_comes 17 = .ok (.idiv, 1) := by decide +kernel
theorem dX5_comes_18 : decode cX5_comes 18 = .ok (.invokevirtual 115, 3) := by decide +kernel
theorem dX5_comes_21 : decode cX5_comes 21 = .ok (.putfield 173, 3) := by decide +kernel
theorem dX5_comes_24 : decode cX5_comes 24 = .ok (.aload_n 0, 1) := by decide +kernel
theorem dX5_comes_25 : decode cX5_comes 25 = .ok (.aload_n 0, 1) := by decide +kernel
theorem dX5_comes_26 : decode cX5_comes 26 = .ok (.iconst 1, 1) := by decide +kernel
theorem dX5_comes_27 : decode cX5_comes 27 = .ok (.iload_n 1, 1) := by decide +kernel
theorem dX5_comes_28 : decode cX5_comes 28 = .ok (.iload_n 2, 1) := by decide +kernel
theorem dX5_comes_29 : decode cX5_comes 29 = .ok (.idiv, 1) := by decide +kernel
theorem dX5_comes_30 : decode cX5_comes 30 = .ok (.aload_n 0, 1) := by decide +kernel
theorem dX5_comes_31 : decode cX5_comes 31 = .ok (.iconst 1, 1) := by decide +kernel
theorem dX5_comes_32 : decode cX5_comes 32 = .ok (.invokevirtual 111, 3) := by decide +kernel
theorem dX5_comes_35 : decode cX5_comes 35 = .ok (.irem, 1) := by decide +kernel
theorem dX5_comes_36 : decode cX5_comes 36 = .ok (.invokevirtual 115, 3) := by decide +kernel
theorem dX5_comes_39 : decode cX5_comes 39 = .ok (.putfield 176, 3) := by decide +kernel
theorem dX5_comes_42 : decode cX5_comes 42 = .ok (.aload_n 0, 1) := by decide +kernel
theorem dX5_comes_43 : decode cX5_comes 43 = .ok (.aload_n 0, 1) := by decide +kernel
theorem dX5_comes_44 : decode cX5_comes 44 = .ok (.iconst 2, 1) := by decide +kernel
theorem dX5_comes_45 : decode cX5_comes 45 = .ok (.iload_n 1, 1) := by decide +kernel
theorem dX5_comes_46 : decode cX5_comes 46 = .ok (.iload_n 2, 1) := by decide +kernel
theorem dX5_comes_47 : decode cX5_comes 47 = .ok (.irem, 1) := by decide +kernel
theorem dX5_comes_48 : decode cX5_comes 48 = .ok (.invokevirtual 115, 3) := by decide +kernel
theorem dX5_comes_51 : decode cX5_comes 51 = .ok (.putfield 179, 3) := by decide +kernel
theorem dX5_comes_54 : decode cX5_comes 54 = .ok (.return_, 1) := by decide +kernel
theorem dX5_opensThen_0 : decode cX5_opensThen 0 = .ok (.aload_n 0, 1) := by decide +kernel
theorem dX5_opensThen_1 : decode cX5_opensThen 1 = .ok (.aload_n 0, 1) := by decide +kernel
theorem dX5_opensThen_2 : decode cX5_opensThen 2 = .ok (.getfield 173, 3) := by decide +kernel
theorem dX5_opensThen_5 : decode cX5_opensThen 5 = .ok (.aload_n 0, 1) := by decide +kernel
theorem dX5_opensThen_6 : decode cX5_opensThen 6 = .ok (.getfield 176, 3) := by decide +kernel
theorem dX5_opensThen_9 : decode cX5_opensThen 9 = .ok (.aload_n 0, 1) := by decide +kernel
theorem dX5_opensThen_10 : decode cX5_opensThen 10 = .ok (.getfield 179, 3) := by decide +kernel
theorem dX5_opensThen_13 : decode cX5_opensThen 13 = .ok (.aload_n 0, 1) := by decide +kernel
theorem dX5_opensThen_14 : decode cX5_opensThen 14 = .ok (.getfield 173, 3) := by decide +kernel
theorem dX5_opensThen_17 : decode cX5_opensThen 17 = .ok (.aload_n 0, 1) := by decide +kernel
theorem dX5_opensThen_18 : decode cX5_opensThen 18 = .ok (.getfield 176, 3) := by decide +kernel
theorem dX5_opensThen_21 : decode cX5_opensThen 21 = .ok (.aload_n 0, 1) := by decide +kernel
theorem dX5_opensThen_22 : decode cX5_opensThen 22 = .ok (.getfield 179, 3) := by decide +kernel
theorem dX5_opensThen_25 : decode cX5_opensThen 25 = .ok (.invokestatic 152, 3) := by decide +kernel
theorem dX5_opensThen_28 : decode cX5_opensThen 28 = .ok (.ifCond .eq 14, 3) := by decide +kernel
theorem dX5_opensThen_31 : decode cX5_opensThen 31 = .ok (.iconst 1, 1) := by decide +kernel
theorem dX5_opensThen_32 : decode cX5_opensThen 32 = .ok (.aload_n 0, 1) := by decide +kernel
theorem dX5_opensThen_33 : decode cX5_opensThen 33 = .ok (.getfield 19, 3) := by decide +kernel
theorem dX5_opensThen_36 : decode cX5_opensThen 36 = .ok (.iconst 1, 1) := by decide +kernel
theorem dX5_opensThen_37 : decode cX5_opensThen 37 = .ok (.iaload, 1) := by decide +kernel
theorem dX5_opensThen_38 : decode cX5_opensThen 38 = .ok (.isub, 1) := by decide +kernel
theorem dX5_opensThen_39 : decode cX5_opensThen 39 = .ok (.goto 9, 3) := by decide +kernel
theorem dX5_opensThen_42 : decode cX5_opensThen 42 = .ok (.aload_n 0, 1) := by decide +kernel
theorem dX5_opensThen_43 : decode cX5_opensThen 43 = .ok (.getfield 19, 3) := by decide +kernel
theorem dX5_opensThen_46 : decode cX5_opensThen 46 = .ok (.iconst 1, 1) := by decide +kernel
theorem dX5_opensThen_47 : decode cX5_opensThen 47 = .ok (.iaload, 1) := by decide +kernel
theorem dX5_opensThen_48 : decode cX5_opensThen 48 = .ok (.invokevirtual 135, 3) := by decide +kernel
theorem dX5_opensThen_51 : decode cX5_opensThen 51 = .ok (.ireturn, 1) := by decide +kernel
theorem dX5_throwsFor_0 : decode cX5_throwsFor 0 = .ok (.iconst 0, 1) := by decide +kernel
theorem dX5_throwsFor_1 : decode cX5_throwsFor 1 = .ok (.istore_n 2, 1) := by decide +kernel
theorem dX5_throwsFor_2 : decode cX5_throwsFor 2 = .ok (.iconst 0, 1) := by decide +kernel
theorem dX5_throwsFor_3 : decode cX5_throwsFor 3 = .ok (.istore_n 3, 1) := by decide +kernel
theorem dX5_throwsFor_4 : decode cX5_throwsFor 4 = .ok (.iload_n 3, 1) := by decide +kernel
theorem dX5_throwsFor_5 : decode cX5_throwsFor 5 = .ok (.aload_n 0, 1) := by decide +kernel
theorem dX5_throwsFor_6 : decode cX5_throwsFor 6 = .ok (.invokevirtual 182, 3) := by decide +kernel
theorem dX5_throwsFor_9 : decode cX5_throwsFor 9 = .ok (.if_icmp .ge 31, 3) := by decide +kernel
theorem dX5_throwsFor_12 : decode cX5_throwsFor 12 = .ok (.aload_n 0, 1) := by decide +kernel
theorem dX5_throwsFor_13 : decode cX5_throwsFor 13 = .ok (.iload_n 3, 1) := by decide +kernel
theorem dX5_throwsFor_14 : decode cX5_throwsFor 14 = .ok (.invokevirtual 185, 3) := by decide +kernel
theorem dX5_throwsFor_17 : decode cX5_throwsFor 17 = .ok (.iload_n 2, 1) := by decide +kernel
theorem dX5_throwsFor_18 : decode cX5_throwsFor 18 = .ok (.aload_n 0, 1) := by decide +kernel
theorem dX5_throwsFor_19 : decode cX5_throwsFor 19 = .ok (.invokevirtual 189, 3) := by decide +kernel
theorem dX5_throwsFor_22 : decode cX5_throwsFor 22 = .ok (.iload_n 1, 1) := by decide +kernel
theorem dX5_throwsFor_23 : decode cX5_throwsFor 23 = .ok (.iand, 1) := by decide +kernel
theorem dX5_throwsFor_24 : decode cX5_throwsFor 24 = .ok (.ifCond .eq 7, 3) := by decide +kernel
theorem dX5_throwsFor_27 : decode cX5_throwsFor 27 = .ok (.iconst 1, 1) := by decide +kernel
theorem dX5_throwsFor_28 : decode cX5_throwsFor 28 = .ok (.goto 4, 3) := by decide +kernel
theorem dX5_throwsFor_31 : decode cX5_throwsFor 31 = .ok (.iconst 0, 1) := by decide +kernel
theorem dX5_throwsFor_32 : decode cX5_throwsFor 32 = .ok (.iadd, 1) := by decide +kernel
theorem dX5_throwsFor_33 : decode cX5_throwsFor 33 = .ok (.istore_n 2, 1) := by decide +kernel
theorem dX5_throwsFor_34 : decode cX5_throwsFor 34 = .ok (.iinc 3 1, 3) := by decide +kernel
theorem dX5_throwsFor_37 : decode cX5_throwsFor 37 = .ok (.goto (-33), 3) := by decide +kernel
theorem dX5_throwsFor_40 : decode cX5_throwsFor 40 = .ok (.iload_n 2, 1) := by decide +kernel
theorem dX5_throwsFor_41 : decode cX5_throwsFor 41 = .ok (.ireturn, 1) := by decide +kernel
theorem dX5_free_0 : decode cX5_free 0 = .ok (.iconst 1, 1) := by decide +kernel
theorem dX5_free_1 : decode cX5_free 1 = .ok (.aload_n 0, 1) := by decide +kernel
theorem dX5_free_2 : decode cX5_free 2 = .ok (.getfield 16, 3) := by decide +kernel
theorem dX5_free_5 : decode cX5_free 5 = .ok (.iconst 0, 1) := by decide +kernel
theorem dX5_free_6 : decode cX5_free 6 = .ok (.iaload, 1) := by decide +kernel
theorem dX5_free_7 : decode cX5_free 7 = .ok (.iconst 1, 1) := by decide +kernel
theorem dX5_free_8 : decode cX5_free 8 = .ok (.iadd, 1) := by decide +kernel
theorem dX5_free_9 : decode cX5_free 9 = .ok (.ishl, 1) := by decide +kernel
theorem dX5_free_10 : decode cX5_free 10 = .ok (.iconst 2, 1) := by decide +kernel
theorem dX5_free_11 : decode cX5_free 11 = .ok (.isub, 1) := by decide +kernel
theorem dX5_free_12 : decode cX5_free 12 = .ok (.aload_n 0, 1) := by decide +kernel
theorem dX5_free_13 : decode cX5_free 13 = .ok (.invokevirtual 139, 3) := by decide +kernel
theorem dX5_free_16 : decode cX5_free 16 = .ok (.iconst (-1), 1) := by decide +kernel
theorem dX5_free_17 : decode cX5_free 17 = .ok (.ixor, 1) := by decide +kernel
theorem dX5_free_18 : decode cX5_free 18 = .ok (.iand, 1) := by decide +kernel
theorem dX5_free_19 : decode cX5_free 19 = .ok (.ireturn, 1) := by decide +kernel
theorem dX5_least_0 : decode cX5_least 0 = .ok (.iload_n 0, 1) := by decide +kernel
theorem dX5_least_1 : decode cX5_least 1 = .ok (.istore_n 3, 1) := by decide +kernel
theorem dX5_least_2 : decode cX5_least 2 = .ok (.iload_n 1, 1) := by decide +kernel
theorem dX5_least_3 : decode cX5_least 3 = .ok (.istore 4, 2) := by decide +kernel
theorem dX5_least_5 : decode cX5_least 5 = .ok (.iload 4, 2) := by decide +kernel
theorem dX5_least_7 : decode cX5_least 7 = .ok (.ifCond .eq 19, 3) := by decide +kernel
theorem dX5_least_10 : decode cX5_least 10 = .ok (.iload_n 3, 1) := by decide +kernel
theorem dX5_least_11 : decode cX5_least 11 = .ok (.iload 4, 2) := by decide +kernel
theorem dX5_least_13 : decode cX5_least 13 = .ok (.irem, 1) := by decide +kernel
theorem dX5_least_14 : decode cX5_least 14 = .ok (.istore 5, 2) := by decide +kernel
theorem dX5_least_16 : decode cX5_least 16 = .ok (.iload 4, 2) := by decide +kernel
theorem dX5_least_18 : decode cX5_least 18 = .ok (.istore_n 3, 1) := by decide +kernel
theorem dX5_least_19 : decode cX5_least 19 = .ok (.iload 5, 2) := by decide +kernel
theorem dX5_least_21 : decode cX5_least 21 = .ok (.istore 4, 2) := by decide +kernel
theorem dX5_least_23 : decode cX5_least 23 = .ok (.goto (-18), 3) := by decide +kernel
theorem dX5_least_26 : decode cX5_least 26 = .ok (.iload_n 2, 1) := by decide +kernel
theorem dX5_least_27 : decode cX5_least 27 = .ok (.ifCond .ne 9, 3) := by decide +kernel
theorem dX5_least_30 : decode cX5_least 30 = .ok (.iload_n 0, 1) := by decide +kernel
theorem dX5_least_31 : decode cX5_least 31 = .ok (.iload_n 3, 1) := by decide +kernel
theorem dX5_least_32 : decode cX5_least 32 = .ok (.idiv, 1) := by decide +kernel
theorem dX5_least_33 : decode cX5_least 33 = .ok (.goto 6, 3) := by decide +kernel
theorem dX5_least_36 : decode cX5_least 36 = .ok (.iload_n 1, 1) := by decide +kernel
theorem dX5_least_37 : decode cX5_least 37 = .ok (.iload_n 3, 1) := by decide +kernel
theorem dX5_least_38 : decode cX5_least 38 = .ok (.idiv, 1) := by decide +kernel
theorem dX5_least_39 : decode cX5_least 39 = .ok (.ireturn, 1) := by decide +kernel
theorem dX5_chances_0 : decode cX5_chances 0 = .ok (.aload_n 0, 1) := by decide +kernel
theorem dX5_chances_1 : decode cX5_chances 1 = .ok (.iconst 1, 1) := by decide +kernel
theorem dX5_chances_2 : decode cX5_chances 2 = .ok (.iload_n 1, 1) := by decide +kernel
theorem dX5_chances_3 : decode cX5_chances 3 = .ok (.ishl, 1) := by decide +kernel
theorem dX5_chances_4 : decode cX5_chances 4 = .ok (.aload_n 0, 1) := by decide +kernel
theorem dX5_chances_5 : decode cX5_chances 5 = .ok (.invokevirtual 192, 3) := by decide +kernel
theorem dX5_chances_8 : decode cX5_chances 8 = .ok (.iand, 1) := by decide +kernel
theorem dX5_chances_9 : decode cX5_chances 9 = .ok (.invokevirtual 195, 3) := by decide +kernel
theorem dX5_chances_12 : decode cX5_chances 12 = .ok (.ireturn, 1) := by decide +kernel
theorem dX5_chance_0 : decode cX5_chance 0 = .ok (.aload_n 0, 1) := by decide +kernel
theorem dX5_chance_1 : decode cX5_chance 1 = .ok (.iload_n 1, 1) := by decide +kernel
theorem dX5_chance_2 : decode cX5_chance 2 = .ok (.invokevirtual 124, 3) := by decide +kernel
theorem dX5_chance_5 : decode cX5_chance 5 = .ok (.ifCond .eq 29, 3) := by decide +kernel
theorem dX5_chance_8 : decode cX5_chance 8 = .ok (.iload_n 2, 1) := by decide +kernel
theorem dX5_chance_9 : decode cX5_chance 9 = .ok (.i2l, 1) := by decide +kernel
theorem dX5_chance_10 : decode cX5_chance 10 = .ok (.lconst 0, 1) := by decide +kernel
theorem dX5_chance_11 : decode cX5_chance 11 = .ok (.lconst 1, 1) := by decide +kernel
theorem dX5_chance_12 : decode cX5_chance 12 = .ok (.invokestatic 42, 3) := by decide +kernel
theorem dX5_chance_15 : decode cX5_chance 15 = .ok (.ifCond .eq 19, 3) := by decide +kernel
theorem dX5_chance_18 : decode cX5_chance 18 = .ok (.aload_n 0, 1) := by decide +kernel
theorem dX5_chance_19 : decode cX5_chance 19 = .ok (.iload_n 1, 1) := by decide +kernel
theorem dX5_chance_20 : decode cX5_chance 20 = .ok (.invokevirtual 198, 3) := by decide +kernel
theorem dX5_chance_23 : decode cX5_chance 23 = .ok (.aload_n 0, 1) := by decide +kernel
theorem dX5_chance_24 : decode cX5_chance 24 = .ok (.invokevirtual 182, 3) := by decide +kernel
theorem dX5_chance_27 : decode cX5_chance 27 = .ok (.iload_n 2, 1) := by decide +kernel
theorem dX5_chance_28 : decode cX5_chance 28 = .ok (.invokestatic 201, 3) := by decide +kernel
theorem dX5_chance_31 : decode cX5_chance 31 = .ok (.goto 4, 3) := by decide +kernel
theorem dX5_chance_34 : decode cX5_chance 34 = .ok (.iconst (-1), 1) := by decide +kernel
theorem dX5_chance_35 : decode cX5_chance 35 = .ok (.ireturn, 1) := by decide +kernel
theorem dX5_odds_0 : decode cX5_odds 0 = .ok (.iload_n 1, 1) := by decide +kernel
theorem dX5_odds_1 : decode cX5_odds 1 = .ok (.i2l, 1) := by decide +kernel
theorem dX5_odds_2 : decode cX5_odds 2 = .ok (.lconst 0, 1) := by decide +kernel
theorem dX5_odds_3 : decode cX5_odds 3 = .ok (.ldc2_w 109, 3) := by decide +kernel
theorem dX5_odds_6 : decode cX5_odds 6 = .ok (.invokestatic 42, 3) := by decide +kernel
theorem dX5_odds_9 : decode cX5_odds 9 = .ok (.ifCond .eq 13, 3) := by decide +kernel
theorem dX5_odds_12 : decode cX5_odds 12 = .ok (.iload_n 2, 1) := by decide +kernel
theorem dX5_odds_13 : decode cX5_odds 13 = .ok (.i2l, 1) := by decide +kernel
theorem dX5_odds_14 : decode cX5_odds 14 = .ok (.lconst 0, 1) := by decide +kernel
theorem dX5_odds_15 : decode cX5_odds 15 = .ok (.lconst 1, 1) := by decide +kernel
theorem dX5_odds_16 : decode cX5_odds 16 = .ok (.invokestatic 42, 3) := by decide +kernel
theorem dX5_odds_19 : decode cX5_odds 19 = .ok (.ifCond .ne 5, 3) := by decide +kernel
theorem dX5_odds_22 : decode cX5_odds 22 = .ok (.iconst (-1), 1) := by decide +kernel
theorem dX5_odds_23 : decode cX5_odds 23 = .ok (.ireturn, 1) := by decide +kernel
theorem dX5_odds_24 : decode cX5_odds 24 = .ok (.aload_n 0, 1) := by decide +kernel
theorem dX5_odds_25 : decode cX5_odds 25 = .ok (.aload_n 0, 1) := by decide +kernel
theorem dX5_odds_26 : decode cX5_odds 26 = .ok (.invokevirtual 192, 3) := by decide +kernel
theorem dX5_odds_29 : decode cX5_odds 29 = .ok (.invokevirtual 195, 3) := by decide +kernel
theorem dX5_odds_32 : decode cX5_odds 32 = .ok (.istore_n 3, 1) := by decide +kernel
theorem dX5_odds_33 : decode cX5_odds 33 = .ok (.iload_n 1, 1) := by decide +kernel
theorem dX5_odds_34 : decode cX5_odds 34 = .ok (.iconst 1, 1) := by decide +kernel
theorem dX5_odds_35 : decode cX5_odds 35 = .ok (.if_icmp .ne 22, 3) := by decide +kernel
theorem dX5_odds_38 : decode cX5_odds 38 = .ok (.iload_n 3, 1) := by decide +kernel
theorem dX5_odds_39 : decode cX5_odds 39 = .ok (.ifCond .ne 8, 3) := by decide +kernel
theorem dX5_odds_42 : decode cX5_odds 42 = .ok (.bipush (-9), 2) := by decide +kernel
theorem dX5_odds_44 : decode cX5_odds 44 = .ok (.goto 12, 3) := by decide +kernel
theorem dX5_odds_47 : decode cX5_odds 47 = .ok (.aload_n 0, 1) := by decide +kernel
theorem dX5_odds_48 : decode cX5_odds 48 = .ok (.invokevirtual 182, 3) := by decide +kernel
theorem dX5_odds_51 : decode cX5_odds 51 = .ok (.iload_n 3, 1) := by decide +kernel
theorem dX5_odds_52 : decode cX5_odds 52 = .ok (.iload_n 2, 1) := by decide +kernel
theorem dX5_odds_53 : decode cX5_odds 53 = .ok (.invokestatic 201, 3) := by decide +kernel
theorem dX5_odds_56 : decode cX5_odds 56 = .ok (.ireturn, 1) := by decide +kernel
theorem dX5_odds_57 : decode cX5_odds 57 = .ok (.iconst 0, 1) := by decide +kernel
theorem dX5_odds_58 : decode cX5_odds 58 = .ok (.istore 4, 2) := by decide +kernel
theorem dX5_odds_60 : decode cX5_odds 60 = .ok (.iconst 1, 1) := by decide +kernel
theorem dX5_odds_61 : decode cX5_odds 61 = .ok (.istore 5, 2) := by decide +kernel
theorem dX5_odds_63 : decode cX5_odds 63 = .ok (.iload 5, 2) := by decide +kernel
theorem dX5_odds_65 : decode cX5_odds 65 = .ok (.aload_n 0, 1) := by decide +kernel
theorem dX5_odds_66 : decode cX5_odds 66 = .ok (.getfield 16, 3) := by decide +kernel
theorem dX5_odds_69 : decode cX5_odds 69 = .ok (.iconst 0, 1) := by decide +kernel
theorem dX5_odds_70 : decode cX5_odds 70 = .ok (.iaload, 1) := by decide +kernel
theorem dX5_odds_71 : decode cX5_odds 71 = .ok (.if_icmp .gt 20, 3) := by decide +kernel
theorem dX5_odds_74 : decode cX5_odds 74 = .ok (.iload 4, 2) := by decide +kernel
theorem dX5_odds_76 : decode cX5_odds 76 = .ok (.aload_n 0, 1) := by decide +kernel
theorem dX5_odds_77 : decode cX5_odds 77 = .ok (.iload 5, 2) := by decide +kernel
theorem dX5_odds_79 : decode cX5_odds 79 = .ok (.invokevirtual 198, 3) := by decide +kernel
theorem dX5_odds_82 : decode cX5_odds 82 = .ok (.iadd, 1) := by decide +kernel
theorem dX5_odds_83 : decode cX5_odds 83 = .ok (.istore 4, 2) := by decide +kernel
theorem dX5_odds_85 : decode cX5_odds 85 = .ok (.iinc 5 1, 3) := by decide +kernel
theorem dX5_odds_88 : decode cX5_odds 88 = .ok (.goto (-25), 3) := by decide +kernel
theorem dX5_odds_91 : decode cX5_odds 91 = .ok (.iload_n 1, 1) := by decide +kernel
theorem dX5_odds_92 : decode cX5_odds 92 = .ok (.ifCond .ne 12, 3) := by decide +kernel
theorem dX5_odds_95 : decode cX5_odds 95 = .ok (.aload_n 0, 1) := by decide +kernel
theorem dX5_odds_96 : decode cX5_odds 96 = .ok (.invokevirtual 182, 3) := by decide +kernel
theorem dX5_odds_99 : decode cX5_odds 99 = .ok (.iload_n 3, 1) := by decide +kernel
theorem dX5_odds_100 : decode cX5_odds 100 = .ok (.isub, 1) := by decide +kernel
theorem dX5_odds_101 : decode cX5_odds 101 = .ok (.goto 5, 3) := by decide +kernel
theorem dX5_odds_104 : decode cX5_odds 104 = .ok (.iload 4, 2) := by decide +kernel
theorem dX5_odds_106 : decode cX5_odds 106 = .ok (.aload_n 0, 1) := by decide +kernel
theorem dX5_odds_107 : decode cX5_odds 107 = .ok (.invokevirtual 182, 3) := by decide +kernel
theorem dX5_odds_110 : decode cX5_odds 110 = .ok (.iload_n 2, 1) := by decide +kernel
theorem dX5_odds_111 : decode cX5_odds 111 = .ok (.invokestatic 201, 3) := by decide +kernel
theorem dX5_odds_114 : decode cX5_odds 114 = .ok (.ireturn, 1) := by decide +kernel
theorem dX5_wise_0 : decode cX5_wise 0 = .ok (.iload_n 1, 1) := by decide +kernel
theorem dX5_wise_1 : decode cX5_wise 1 = .ok (.i2l, 1) := by decide +kernel
theorem dX5_wise_2 : decode cX5_wise 2 = .ok (.lconst 0, 1) := by decide +kernel
theorem dX5_wise_3 : decode cX5_wise 3 = .ok (.lconst 1, 1) := by decide +kernel
theorem dX5_wise_4 : decode cX5_wise 4 = .ok (.invokestatic 42, 3) := by decide +kernel
theorem dX5_wise_7 : decode cX5_wise 7 = .ok (.ifCond .ne 5, 3) := by decide +kernel
theorem dX5_wise_10 : decode cX5_wise 10 = .ok (.iconst (-1), 1) := by decide +kernel
theorem dX5_wise_11 : decode cX5_wise 11 = .ok (.ireturn, 1) := by decide +kernel
theorem dX5_wise_12 : decode cX5_wise 12 = .ok (.aload_n 0, 1) := by decide +kernel
theorem dX5_wise_13 : decode cX5_wise 13 = .ok (.iconst 3, 1) := by decide +kernel
theorem dX5_wise_14 : decode cX5_wise 14 = .ok (.invokevirtual 205, 3) := by decide +kernel
theorem dX5_wise_17 : decode cX5_wise 17 = .ok (.istore_n 2, 1) := by decide +kernel
theorem dX5_wise_18 : decode cX5_wise 18 = .ok (.bipush (-9), 2) := by decide +kernel
theorem dX5_wise_20 : decode cX5_wise 20 = .ok (.istore_n 3, 1) := by decide +kernel
theorem dX5_wise_21 : decode cX5_wise 21 = .ok (.bipush (-9), 2) := by decide +kernel
theorem dX5_wise_23 : decode cX5_wise 23 = .ok (.istore 4, 2) := by decide +kernel
theorem dX5_wise_25 : decode cX5_wise 25 = .ok (.iconst 1, 1) := by decide +kernel
theorem dX5_wise_26 : decode cX5_wise 26 = .ok (.istore 5, 2) := by decide +kernel
theorem dX5_wise_28 : decode cX5_wise 28 = .ok (.iload 5, 2) := by decide +kernel
theorem dX5_wise_30 : decode cX5_wise 30 = .ok (.aload_n 0, 1) := by decide +kernel
theorem dX5_wise_31 : decode cX5_wise 31 = .ok (.getfield 16, 3) := by decide +kernel
theorem dX5_wise_34 : decode cX5_wise 34 = .ok (.iconst 0, 1) := by decide +kernel
theorem dX5_wise_35 : decode cX5_wise 35 = .ok (.iaload, 1) := by decide +kernel
theorem dX5_wise_36 : decode cX5_wise 36 = .ok (.if_icmp .gt 82, 3) := by decide +kernel
theorem dX5_wise_39 : decode cX5_wise 39 = .ok (.iload_n 2, 1) := by decide +kernel
theorem dX5_wise_40 : decode cX5_wise 40 = .ok (.iload 5, 2) := by decide +kernel
theorem dX5_wise_42 : decode cX5_wise 42 = .ok (.ishr, 1) := by decide +kernel
theorem dX5_wise_43 : decode cX5_wise 43 = .ok (.iconst 1, 1) := by decide +kernel
theorem dX5_wise_44 : decode cX5_wise 44 = .ok (.iand, 1) := by decide +kernel
theorem dX5_wise_45 : decode cX5_wise 45 = .ok (.iconst 1, 1) := by decide +kernel
theorem dX5_wise_46 : decode cX5_wise 46 = .ok (.if_icmp .ne 66, 3) := by decide +kernel
theorem dX5_wise_49 : decode cX5_wise 49 = .ok (.aload_n 0, 1) := by decide +kernel
theorem dX5_wise_50 : decode cX5_wise 50 = .ok (.aload_n 0, 1) := by decide +kernel
theorem dX5_wise_51 : decode cX5_wise 51 = .ok (.invokevirtual 192, 3) := by decide +kernel
theorem dX5_wise_54 : decode cX5_wise 54 = .ok (.iconst 1, 1) := by decide +kernel
theorem dX5_wise_55 : decode cX5_wise 55 = .ok (.iload 5, 2) := by decide +kernel
theorem dX5_wise_57 : decode cX5_wise 57 = .ok (.ishl, 1) := by decide +kernel
theorem dX5_wise_58 : decode cX5_wise 58 = .ok (.iconst (-1), 1) := by decide +kernel
theorem dX5_wise_59 : decode cX5_wise 59 = .ok (.ixor, 1) := by decide +kernel
theorem dX5_wise_60 : decode cX5_wise 60 = .ok (.iand, 1) := by decide +kernel
theorem dX5_wise_61 : decode cX5_wise 61 = .ok (.invokevirtual 195, 3) := by decide +kernel
theorem dX5_wise_64 : decode cX5_wise 64 = .ok (.istore 6, 2) := by decide +kernel
theorem dX5_wise_66 : decode cX5_wise 66 = .ok (.iload_n 3, 1) := by decide +kernel
theorem dX5_wise_67 : decode cX5_wise 67 = .ok (.bipush (-9), 2) := by decide +kernel
theorem dX5_wise_69 : decode cX5_wise 69 = .ok (.if_icmp .eq 10, 3) := by decide +kernel
theorem dX5_wise_72 : decode cX5_wise 72 = .ok (.iload 6, 2) := by decide +kernel
theorem dX5_wise_74 : decode cX5_wise 74 = .ok (.iload 4, 2) := by decide +kernel
theorem dX5_wise_76 : decode cX5_wise 76 = .ok (.if_icmp .ge 7, 3) := by decide +kernel
theorem dX5_wise_79 : decode cX5_wise 79 = .ok (.iconst 1, 1) := by decide +kernel
theorem dX5_wise_80 : decode cX5_wise 80 = .ok (.goto 4, 3) := by decide +kernel
theorem dX5_wise_83 : decode cX5_wise 83 = .ok (.iconst 0, 1) := by decide +kernel
theorem dX5_wise_84 : decode cX5_wise 84 = .ok (.istore 7, 2) := by decide +kernel
theorem dX5_wise_86 : decode cX5_wise 86 = .ok (.iload 7, 2) := by decide +kernel
theorem dX5_wise_88 : decode cX5_wise 88 = .ok (.ifCond .eq 8, 3) := by decide +kernel
theorem dX5_wise_91 : decode cX5_wise 91 = .ok (.iload 5, 2) := by decide +kernel
theorem dX5_wise_93 : decode cX5_wise 93 = .ok (.goto 4, 3) := by decide +kernel
theorem dX5_wise_96 : decode cX5_wise 96 = .ok (.iload_n 3, 1) := by decide +kernel
theorem dX5_wise_97 : decode cX5_wise 97 = .ok (.istore_n 3, 1) := by decide +kernel
theorem dX5_wise_98 : decode cX5_wise 98 = .ok (.iload 7, 2) := by decide +kernel
theorem dX5_wise_100 : decode cX5_wise 100 = .ok (.ifCond .eq 8, 3) := by decide +kernel
theorem dX5_wise_103 : decode cX5_wise 103 = .ok (.iload 6, 2) := by decide +kernel
theorem dX5_wise_105 : decode cX5_wise 105 = .ok (.goto 5, 3) := by decide +kernel
theorem dX5_wise_108 : decode cX5_wise 108 = .ok (.iload 4, 2) := by decide +kernel
theorem dX5_wise_110 : decode cX5_wise 110 = .ok (.istore 4, 2) := by decide +kernel
theorem dX5_wise_112 : decode cX5_wise 112 = .ok (.iinc 5 1, 3) := by decide +kernel
theorem dX5_wise_115 : decode cX5_wise 115 = .ok (.goto (-87), 3) := by decide +kernel
theorem dX5_wise_118 : decode cX5_wise 118 = .ok (.iload_n 1, 1) := by decide +kernel
theorem dX5_wise_119 : decode cX5_wise 119 = .ok (.ifCond .ne 7, 3) := by decide +kernel
theorem dX5_wise_122 : decode cX5_wise 122 = .ok (.iload_n 3, 1) := by decide +kernel
theorem dX5_wise_123 : decode cX5_wise 123 = .ok (.goto 5, 3) := by decide +kernel
theorem dX5_wise_126 : decode cX5_wise 126 = .ok (.iload 4, 2) := by decide +kernel
theorem dX5_wise_128 : decode cX5_wise 128 = .ok (.ireturn, 1) := by decide +kernel
theorem dX5_cheap_0 : decode cX5_cheap 0 = .ok (.aload_n 0, 1) := by decide +kernel
theorem dX5_cheap_1 : decode cX5_cheap 1 = .ok (.iconst 3, 1) := by decide +kernel
theorem dX5_cheap_2 : decode cX5_cheap 2 = .ok (.invokevirtual 205, 3) := by decide +kernel
theorem dX5_cheap_5 : decode cX5_cheap 5 = .ok (.istore_n 1, 1) := by decide +kernel
theorem dX5_cheap_6 : decode cX5_cheap 6 = .ok (.bipush (-9), 2) := by decide +kernel
theorem dX5_cheap_8 : decode cX5_cheap 8 = .ok (.istore_n 2, 1) := by decide +kernel
theorem dX5_cheap_9 : decode cX5_cheap 9 = .ok (.iconst 1, 1) := by decide +kernel
theorem dX5_cheap_10 : decode cX5_cheap 10 = .ok (.istore_n 3, 1) := by decide +kernel
theorem dX5_cheap_11 : decode cX5_cheap 11 = .ok (.iload_n 3, 1) := by decide +kernel
theorem dX5_cheap_12 : decode cX5_cheap 12 = .ok (.aload_n 0, 1) := by decide +kernel
theorem dX5_cheap_13 : decode cX5_cheap 13 = .ok (.getfield 16, 3) := by decide +kernel
theorem dX5_cheap_16 : decode cX5_cheap 16 = .ok (.iconst 0, 1) := by decide +kernel
theorem dX5_cheap_17 : decode cX5_cheap 17 = .ok (.iaload, 1) := by decide +kernel
theorem dX5_cheap_18 : decode cX5_cheap 18 = .ok (.if_icmp .gt 43, 3) := by decide +kernel
theorem dX5_cheap_21 : decode cX5_cheap 21 = .ok (.iload_n 1, 1) := by decide +kernel
theorem dX5_cheap_22 : decode cX5_cheap 22 = .ok (.iload_n 3, 1) := by decide +kernel
theorem dX5_cheap_23 : decode cX5_cheap 23 = .ok (.ishr, 1) := by decide +kernel
theorem dX5_cheap_24 : decode cX5_cheap 24 = .ok (.iconst 1, 1) := by decide +kernel
theorem dX5_cheap_25 : decode cX5_cheap 25 = .ok (.iand, 1) := by decide +kernel
theorem dX5_cheap_26 : decode cX5_cheap 26 = .ok (.iconst 1, 1) := by decide +kernel
theorem dX5_cheap_27 : decode cX5_cheap 27 = .ok (.if_icmp .ne 26, 3) := by decide +kernel
theorem dX5_cheap_30 : decode cX5_cheap 30 = .ok (.iload_n 2, 1) := by decide +kernel
theorem dX5_cheap_31 : decode cX5_cheap 31 = .ok (.bipush (-9), 2) := by decide +kernel
theorem dX5_cheap_33 : decode cX5_cheap 33 = .ok (.if_icmp .eq 16, 3) := by decide +kernel
theorem dX5_cheap_36 : decode cX5_cheap 36 = .ok (.aload_n 0, 1) := by decide +kernel
theorem dX5_cheap_37 : decode cX5_cheap 37 = .ok (.iload_n 3, 1) := by decide +kernel
theorem dX5_cheap_38 : decode cX5_cheap 38 = .ok (.invokevirtual 162, 3) := by decide +kernel
theorem dX5_cheap_41 : decode cX5_cheap 41 = .ok (.aload_n 0, 1) := by decide +kernel
theorem dX5_cheap_42 : decode cX5_cheap 42 = .ok (.iload_n 2, 1) := by decide +kernel
theorem dX5_cheap_43 : decode cX5_cheap 43 = .ok (.invokevirtual 162, 3) := by decide +kernel
theorem dX5_cheap_46 : decode cX5_cheap 46 = .ok (.if_icmp .ge 7, 3) := by decide +kernel
theorem dX5_cheap_49 : decode cX5_cheap 49 = .ok (.iload_n 3, 1) := by decide +kernel
theorem dX5_cheap_50 : decode cX5_cheap 50 = .ok (.goto 4, 3) := by decide +kernel
theorem dX5_cheap_53 : decode cX5_cheap 53 = .ok (.iload_n 2, 1) := by decide +kernel
theorem dX5_cheap_54 : decode cX5_cheap 54 = .ok (.istore_n 2, 1) := by decide +kernel
theorem dX5_cheap_55 : decode cX5_cheap 55 = .ok (.iinc 3 1, 3) := by decide +kernel
theorem dX5_cheap_58 : decode cX5_cheap 58 = .ok (.goto (-47), 3) := by decide +kernel
theorem dX5_cheap_61 : decode cX5_cheap 61 = .ok (.iload_n 2, 1) := by decide +kernel
theorem dX5_cheap_62 : decode cX5_cheap 62 = .ok (.ireturn, 1) := by decide +kernel
theorem dX5_ever_0 : decode cX5_ever 0 = .ok (.iconst 0, 1) := by decide +kernel
theorem dX5_ever_1 : decode cX5_ever 1 = .ok (.istore_n 1, 1) := by decide +kernel
theorem dX5_ever_2 : decode cX5_ever 2 = .ok (.iconst 0, 1) := by decide +kernel
theorem dX5_ever_3 : decode cX5_ever 3 = .ok (.istore_n 2, 1) := by decide +kernel
theorem dX5_ever_4 : decode cX5_ever 4 = .ok (.iload_n 2, 1) := by decide +kernel
theorem dX5_ever_5 : decode cX5_ever 5 = .ok (.aload_n 0, 1) := by decide +kernel
theorem dX5_ever_6 : decode cX5_ever 6 = .ok (.invokevirtual 182, 3) := by decide +kernel
theorem dX5_ever_9 : decode cX5_ever 9 = .ok (.if_icmp .ge 52, 3) := by decide +kernel
theorem dX5_ever_12 : decode cX5_ever 12 = .ok (.aload_n 0, 1) := by decide +kernel
theorem dX5_ever_13 : decode cX5_ever 13 = .ok (.iload_n 2, 1) := by decide +kernel
theorem dX5_ever_14 : decode cX5_ever 14 = .ok (.invokevirtual 185, 3) := by decide +kernel
theorem dX5_ever_17 : decode cX5_ever 17 = .ok (.iload_n 1, 1) := by decide +kernel
theorem dX5_ever_18 : decode cX5_ever 18 = .ok (.aload_n 0, 1) := by decide +kernel
theorem dX5_ever_19 : decode cX5_ever 19 = .ok (.aload_n 0, 1) := by decide +kernel
theorem dX5_ever_20 : decode cX5_ever 20 = .ok (.getfield 173, 3) := by decide +kernel
theorem dX5_ever_23 : decode cX5_ever 23 = .ok (.aload_n 0, 1) := by decide +kernel
theorem dX5_ever_24 : decode cX5_ever 24 = .ok (.getfield 176, 3) := by decide +kernel
theorem dX5_ever_27 : decode cX5_ever 27 = .ok (.aload_n 0, 1) := by decide +kernel
theorem dX5_ever_28 : decode cX5_ever 28 = .ok (.getfield 179, 3) := by decide +kernel
theorem dX5_ever_31 : decode cX5_ever 31 = .ok (.iconst 0, 1) := by decide +kernel
theorem dX5_ever_32 : decode cX5_ever 32 = .ok (.invokevirtual 135, 3) := by decide +kernel
theorem dX5_ever_35 : decode cX5_ever 35 = .ok (.aload_n 0, 1) := by decide +kernel
theorem dX5_ever_36 : decode cX5_ever 36 = .ok (.aload_n 0, 1) := by decide +kernel
theorem dX5_ever_37 : decode cX5_ever 37 = .ok (.getfield 173, 3) := by decide +kernel
theorem dX5_ever_40 : decode cX5_ever 40 = .ok (.aload_n 0, 1) := by decide +kernel
theorem dX5_ever_41 : decode cX5_ever 41 = .ok (.getfield 176, 3) := by decide +kernel
theorem dX5_ever_44 : decode cX5_ever 44 = .ok (.aload_n 0, 1) := by decide +kernel
theorem dX5_ever_45 : decode cX5_ever 45 = .ok (.getfield 179, 3) := by decide +kernel
theorem dX5_ever_48 : decode cX5_ever 48 = .ok (.iconst 1, 1) := by decide +kernel
theorem dX5_ever_49 : decode cX5_ever 49 = .ok (.invokevirtual 135, 3) := by decide +kernel
theorem dX5_ever_52 : decode cX5_ever 52 = .ok (.ior, 1) := by decide +kernel
theorem dX5_ever_53 : decode cX5_ever 53 = .ok (.ior, 1) := by decide +kernel
theorem dX5_ever_54 : decode cX5_ever 54 = .ok (.istore_n 1, 1) := by decide +kernel
theorem dX5_ever_55 : decode cX5_ever 55 = .ok (.iinc 2 1, 3) := by decide +kernel
theorem dX5_ever_58 : decode cX5_ever 58 = .ok (.goto (-54), 3) := by decide +kernel
theorem dX5_ever_61 : decode cX5_ever 61 = .ok (.iload_n 1, 1) := by decide +kernel
theorem dX5_ever_62 : decode cX5_ever 62 = .ok (.ireturn, 1) := by decide +kernel
theorem dX5_race_0 : decode cX5_race 0 = .ok (.aload_n 0, 1) := by decide +kernel
theorem dX5_race_1 : decode cX5_race 1 = .ok (.getfield 16, 3) := by decide +kernel
theorem dX5_race_4 : decode cX5_race 4 = .ok (.iconst 1, 1) := by decide +kernel
theorem dX5_race_5 : decode cX5_race 5 = .ok (.iaload, 1) := by decide +kernel
theorem dX5_race_6 : decode cX5_race 6 = .ok (.aload_n 0, 1) := by decide +kernel
theorem dX5_race_7 : decode cX5_race 7 = .ok (.iload_n 1, 1) := by decide +kernel
theorem dX5_race_8 : decode cX5_race 8 = .ok (.invokevirtual 129, 3) := by decide +kernel
theorem dX5_race_11 : decode cX5_race 11 = .ok (.invokestatic 159, 3) := by decide +kernel
theorem dX5_race_14 : decode cX5_race 14 = .ok (.isub, 1) := by decide +kernel
theorem dX5_race_15 : decode cX5_race 15 = .ok (.istore_n 2, 1) := by decide +kernel
theorem dX5_race_16 : decode cX5_race 16 = .ok (.iload_n 2, 1) := by decide +kernel
theorem dX5_race_17 : decode cX5_race 17 = .ok (.ifCond .gt 7, 3) := by decide +kernel
theorem dX5_race_20 : decode cX5_race 20 = .ok (.iconst 0, 1) := by decide +kernel
theorem dX5_race_21 : decode cX5_race 21 = .ok (.goto 25, 3) := by decide +kernel
theorem dX5_race_24 : decode cX5_race 24 = .ok (.aload_n 0, 1) := by decide +kernel
theorem dX5_race_25 : decode cX5_race 25 = .ok (.invokevirtual 207, 3) := by decide +kernel
theorem dX5_race_28 : decode cX5_race 28 = .ok (.aload_n 0, 1) := by decide +kernel
theorem dX5_race_29 : decode cX5_race 29 = .ok (.invokevirtual 192, 3) := by decide +kernel
theorem dX5_race_32 : decode cX5_race 32 = .ok (.iand, 1) := by decide +kernel
theorem dX5_race_33 : decode cX5_race 33 = .ok (.invokestatic 159, 3) := by decide +kernel
theorem dX5_race_36 : decode cX5_race 36 = .ok (.iload_n 2, 1) := by decide +kernel
theorem dX5_race_37 : decode cX5_race 37 = .ok (.if_icmp .ge 8, 3) := by decide +kernel
theorem dX5_race_40 : decode cX5_race 40 = .ok (.bipush (-9), 2) := by decide +kernel
theorem dX5_race_42 : decode cX5_race 42 = .ok (.goto 4, 3) := by decide +kernel
theorem dX5_race_45 : decode cX5_race 45 = .ok (.iload_n 2, 1) := by decide +kernel
theorem dX5_race_46 : decode cX5_race 46 = .ok (.ireturn, 1) := by decide +kernel
theorem dX5_chalks_0 : decode cX5_chalks 0 = .ok (.aload_n 0, 1) := by decide +kernel
theorem dX5_chalks_1 : decode cX5_chalks 1 = .ok (.iload_n 1, 1) := by decide +kernel
theorem dX5_chalks_2 : decode cX5_chalks 2 = .ok (.invokevirtual 124, 3) := by decide +kernel
theorem dX5_chalks_5 : decode cX5_chalks 5 = .ok (.ifCond .eq 15, 3) := by decide +kernel
theorem dX5_chalks_8 : decode cX5_chalks 8 = .ok (.iload_n 2, 1) := by decide +kernel
theorem dX5_chalks_9 : decode cX5_chalks 9 = .ok (.i2l, 1) := by decide +kernel
theorem dX5_chalks_10 : decode cX5_chalks 10 = .ok (.lconst 0, 1) := by decide +kernel
theorem dX5_chalks_11 : decode cX5_chalks 11 = .ok (.ldc2_w 210, 3) := by decide +kernel
theorem dX5_chalks_14 : decode cX5_chalks 14 = .ok (.invokestatic 42, 3) := by decide +kernel
theorem dX5_chalks_17 : decode cX5_chalks 17 = .ok (.ifCond .ne 5, 3) := by decide +kernel
theorem dX5_chalks_20 : decode cX5_chalks 20 = .ok (.iconst (-1), 1) := by decide +kernel
theorem dX5_chalks_21 : decode cX5_chalks 21 = .ok (.ireturn, 1) := by decide +kernel
theorem dX5_chalks_22 : decode cX5_chalks 22 = .ok (.aload_n 0, 1) := by decide +kernel
theorem dX5_chalks_23 : decode cX5_chalks 23 = .ok (.getfield 103, 3) := by decide +kernel
theorem dX5_chalks_26 : decode cX5_chalks 26 = .ok (.bipush 6, 2) := by decide +kernel
theorem dX5_chalks_28 : decode cX5_chalks 28 = .ok (.if_icmp .ne 6, 3) := by decide +kernel
theorem dX5_chalks_31 : decode cX5_chalks 31 = .ok (.bipush (-3), 2) := by decide +kernel
theorem dX5_chalks_33 : decode cX5_chalks 33 = .ok (.ireturn, 1) := by decide +kernel
theorem dX5_chalks_34 : decode cX5_chalks 34 = .ok (.aload_n 0, 1) := by decide +kernel
theorem dX5_chalks_35 : decode cX5_chalks 35 = .ok (.getfield 25, 3) := by decide +kernel
theorem dX5_chalks_38 : decode cX5_chalks 38 = .ok (.aload_n 0, 1) := by decide +kernel
theorem dX5_chalks_39 : decode cX5_chalks 39 = .ok (.getfield 103, 3) := by decide +kernel
theorem dX5_chalks_42 : decode cX5_chalks 42 = .ok (.iload_n 1, 1) := by decide +kernel
theorem dX5_chalks_43 : decode cX5_chalks 43 = .ok (.iastore, 1) := by decide +kernel
theorem dX5_chalks_44 : decode cX5_chalks 44 = .ok (.aload_n 0, 1) := by decide +kernel
theorem dX5_chalks_45 : decode cX5_chalks 45 = .ok (.getfield 28, 3) := by decide +kernel
theorem dX5_chalks_48 : decode cX5_chalks 48 = .ok (.aload_n 0, 1) := by decide +kernel
theorem dX5_chalks_49 : decode cX5_chalks 49 = .ok (.getfield 103, 3) := by decide +kernel
theorem dX5_chalks_52 : decode cX5_chalks 52 = .ok (.iload_n 2, 1) := by decide +kernel
theorem dX5_chalks_53 : decode cX5_chalks 53 = .ok (.iastore, 1) := by decide +kernel
theorem dX5_chalks_54 : decode cX5_chalks 54 = .ok (.aload_n 0, 1) := by decide +kernel
theorem dX5_chalks_55 : decode cX5_chalks 55 = .ok (.dup, 1) := by decide +kernel
theorem dX5_chalks_56 : decode cX5_chalks 56 = .ok (.getfield 103, 3) := by decide +kernel
theorem dX5_chalks_59 : decode cX5_chalks 59 = .ok (.iconst 1, 1) := by decide +kernel
theorem dX5_chalks_60 : decode cX5_chalks 60 = .ok (.iadd, 1) := by decide +kernel
theorem dX5_chalks_61 : decode cX5_chalks 61 = .ok (.putfield 103, 3) := by decide +kernel
theorem dX5_chalks_64 : decode cX5_chalks 64 = .ok (.aload_n 0, 1) := by decide +kernel
theorem dX5_chalks_65 : decode cX5_chalks 65 = .ok (.getfield 103, 3) := by decide +kernel
theorem dX5_chalks_68 : decode cX5_chalks 68 = .ok (.ireturn, 1) := by decide +kernel
theorem dX5_wipes_0 : decode cX5_wipes 0 = .ok (.aload_n 0, 1) := by decide +kernel
theorem dX5_wipes_1 : decode cX5_wipes 1 = .ok (.getfield 103, 3) := by decide +kernel
theorem dX5_wipes_4 : decode cX5_wipes 4 = .ok (.istore_n 1, 1) := by decide +kernel
theorem dX5_wipes_5 : decode cX5_wipes 5 = .ok (.aload_n 0, 1) := by decide +kernel
theorem dX5_wipes_6 : decode cX5_wipes 6 = .ok (.iconst 0, 1) := by decide +kernel
theorem dX5_wipes_7 : decode cX5_wipes 7 = .ok (.putfield 103, 3) := by decide +kernel
theorem dX5_wipes_10 : decode cX5_wipes 10 = .ok (.iload_n 1, 1) := by decide +kernel
theorem dX5_wipes_11 : decode cX5_wipes 11 = .ok (.ireturn, 1) := by decide +kernel
theorem dX5_offOf_0 : decode cX5_offOf 0 = .ok (.aload_n 0, 1) := by decide +kernel
theorem dX5_offOf_1 : decode cX5_offOf 1 = .ok (.getfield 28, 3) := by decide +kernel
theorem dX5_offOf_4 : decode cX5_offOf 4 = .ok (.iload_n 1, 1) := by decide +kernel
theorem dX5_offOf_5 : decode cX5_offOf 5 = .ok (.iaload, 1) := by decide +kernel
theorem dX5_offOf_6 : decode cX5_offOf 6 = .ok (.aload_n 0, 1) := by decide +kernel
theorem dX5_offOf_7 : decode cX5_offOf 7 = .ok (.invokevirtual 182, 3) := by decide +kernel
theorem dX5_offOf_10 : decode cX5_offOf 10 = .ok (.imul, 1) := by decide +kernel
theorem dX5_offOf_11 : decode cX5_offOf 11 = .ok (.sipush 216, 3) := by decide +kernel
theorem dX5_offOf_14 : decode cX5_offOf 14 = .ok (.aload_n 0, 1) := by decide +kernel
theorem dX5_offOf_15 : decode cX5_offOf 15 = .ok (.aload_n 0, 1) := by decide +kernel
theorem dX5_offOf_16 : decode cX5_offOf 16 = .ok (.getfield 25, 3) := by decide +kernel
theorem dX5_offOf_19 : decode cX5_offOf 19 = .ok (.iload_n 1, 1) := by decide +kernel
theorem dX5_offOf_20 : decode cX5_offOf 20 = .ok (.iaload, 1) := by decide +kernel
theorem dX5_offOf_21 : decode cX5_offOf 21 = .ok (.invokevirtual 198, 3) := by decide +kernel
theorem dX5_offOf_24 : decode cX5_offOf 24 = .ok (.imul, 1) := by decide +kernel
theorem dX5_offOf_25 : decode cX5_offOf 25 = .ok (.isub, 1) := by decide +kernel
theorem dX5_offOf_26 : decode cX5_offOf 26 = .ok (.ireturn, 1) := by decide +kernel
theorem dX5_wrong_0 : decode cX5_wrong 0 = .ok (.iconst 0, 1) := by decide +kernel
theorem dX5_wrong_1 : decode cX5_wrong 1 = .ok (.istore_n 1, 1) := by decide +kernel
theorem dX5_wrong_2 : decode cX5_wrong 2 = .ok (.iconst 0, 1) := by decide +kernel
theorem dX5_wrong_3 : decode cX5_wrong 3 = .ok (.istore_n 2, 1) := by decide +kernel
theorem dX5_wrong_4 : decode cX5_wrong 4 = .ok (.iload_n 2, 1) := by decide +kernel
theorem dX5_wrong_5 : decode cX5_wrong 5 = .ok (.aload_n 0, 1) := by decide +kernel
theorem dX5_wrong_6 : decode cX5_wrong 6 = .ok (.getfield 103, 3) := by decide +kernel
theorem dX5_wrong_9 : decode cX5_wrong 9 = .ok (.if_icmp .ge 27, 3) := by decide +kernel
theorem dX5_wrong_12 : decode cX5_wrong 12 = .ok (.iload_n 1, 1) := by decide +kernel
theorem dX5_wrong_13 : decode cX5_wrong 13 = .ok (.aload_n 0, 1) := by decide +kernel
theorem dX5_wrong_14 : decode cX5_wrong 14 = .ok (.iload_n 2, 1) := by decide +kernel
theorem dX5_wrong_15 : decode cX5_wrong 15 = .ok (.invokevirtual 212, 3) := by decide +kernel
theorem dX5_wrong_18 : decode cX5_wrong 18 = .ok (.ifCond .eq 9, 3) := by decide +kernel
theorem dX5_wrong_21 : decode cX5_wrong 21 = .ok (.iconst 1, 1) := by decide +kernel
theorem dX5_wrong_22 : decode cX5_wrong 22 = .ok (.iload_n 2, 1) := by decide +kernel
theorem dX5_wrong_23 : decode cX5_wrong 23 = .ok (.ishl, 1) := by decide +kernel
theorem dX5_wrong_24 : decode cX5_wrong 24 = .ok (.goto 4, 3) := by decide +kernel
theorem dX5_wrong_27 : decode cX5_wrong 27 = .ok (.iconst 0, 1) := by decide +kernel
theorem dX5_wrong_28 : decode cX5_wrong 28 = .ok (.ior, 1) := by decide +kernel
theorem dX5_wrong_29 : decode cX5_wrong 29 = .ok (.istore_n 1, 1) := by decide +kernel
theorem dX5_wrong_30 : decode cX5_wrong 30 = .ok (.iinc 2 1, 3) := by decide +kernel
theorem dX5_wrong_33 : decode cX5_wrong 33 = .ok (.goto (-29), 3) := by decide +kernel
theorem dX5_wrong_36 : decode cX5_wrong 36 = .ok (.iload_n 1, 1) := by decide +kernel
theorem dX5_wrong_37 : decode cX5_wrong 37 = .ok (.ireturn, 1) := by decide +kernel
theorem dX5_off_0 : decode cX5_off 0 = .ok (.iload_n 1, 1) := by decide +kernel
theorem dX5_off_1 : decode cX5_off 1 = .ok (.i2l, 1) := by decide +kernel
theorem dX5_off_2 : decode cX5_off 2 = .ok (.lconst 0, 1) := by decide +kernel
theorem dX5_off_3 : decode cX5_off 3 = .ok (.aload_n 0, 1) := by decide +kernel
theorem dX5_off_4 : decode cX5_off 4 = .ok (.getfield 103, 3) := by decide +kernel
theorem dX5_off_7 : decode cX5_off 7 = .ok (.iconst 1, 1) := by decide +kernel
theorem dX5_off_8 : decode cX5_off 8 = .ok (.isub, 1) := by decide +kernel
theorem dX5_off_9 : decode cX5_off 9 = .ok (.i2l, 1) := by decide +kernel
theorem dX5_off_10 : decode cX5_off 10 = .ok (.invokestatic 42, 3) := by decide +kernel
theorem dX5_off_13 : decode cX5_off 13 = .ok (.ifCond .eq 11, 3) := by decide +kernel
theorem dX5_off_16 : decode cX5_off 16 = .ok (.aload_n 0, 1) := by decide +kernel
theorem dX5_off_17 : decode cX5_off 17 = .ok (.iload_n 1, 1) := by decide +kernel
theorem dX5_off_18 : decode cX5_off 18 = .ok (.invokevirtual 212, 3) := by decide +kernel
theorem dX5_off_21 : decode cX5_off 21 = .ok (.goto 5, 3) := by decide +kernel
theorem dX5_off_24 : decode cX5_off 24 = .ok (.ldc 172, 2) := by decide +kernel
theorem dX5_off_26 : decode cX5_off 26 = .ok (.ireturn, 1) := by decide +kernel
theorem dX5_bet_0 : decode cX5_bet 0 = .ok (.bipush (-9), 2) := by decide +kernel
theorem dX5_bet_2 : decode cX5_bet 2 = .ok (.istore_n 1, 1) := by decide +kernel
theorem dX5_bet_3 : decode cX5_bet 3 = .ok (.iconst 0, 1) := by decide +kernel
theorem dX5_bet_4 : decode cX5_bet 4 = .ok (.istore_n 2, 1) := by decide +kernel
theorem dX5_bet_5 : decode cX5_bet 5 = .ok (.iconst 0, 1) := by decide +kernel
theorem dX5_bet_6 : decode cX5_bet 6 = .ok (.istore_n 3, 1) := by decide +kernel
theorem dX5_bet_7 : decode cX5_bet 7 = .ok (.iload_n 3, 1) := by decide +kernel
theorem dX5_bet_8 : decode cX5_bet 8 = .ok (.aload_n 0, 1) := by decide +kernel
theorem dX5_bet_9 : decode cX5_bet 9 = .ok (.getfield 103, 3) := by decide +kernel
theorem dX5_bet_12 : decode cX5_bet 12 = .ok (.if_icmp .ge 58, 3) := by decide +kernel
theorem dX5_bet_15 : decode cX5_bet 15 = .ok (.aload_n 0, 1) := by decide +kernel
theorem dX5_bet_16 : decode cX5_bet 16 = .ok (.iload_n 3, 1) := by decide +kernel
theorem dX5_bet_17 : decode cX5_bet 17 = .ok (.invokevirtual 212, 3) := by decide +kernel
theorem dX5_bet_20 : decode cX5_bet 20 = .ok (.ifCond .ge 12, 3) := by decide +kernel
theorem dX5_bet_23 : decode cX5_bet 23 = .ok (.aload_n 0, 1) := by decide +kernel
theorem dX5_bet_24 : decode cX5_bet 24 = .ok (.iload_n 3, 1) := by decide +kernel
theorem dX5_bet_25 : decode cX5_bet 25 = .ok (.invokevirtual 212, 3) := by decide +kernel
theorem dX5_bet_28 : decode cX5_bet 28 = .ok (.ineg, 1) := by decide +kernel
theorem dX5_bet_29 : decode cX5_bet 29 = .ok (.goto 8, 3) := by decide +kernel
theorem dX5_bet_32 : decode cX5_bet 32 = .ok (.aload_n 0, 1) := by decide +kernel
theorem dX5_bet_33 : decode cX5_bet 33 = .ok (.iload_n 3, 1) := by decide +kernel
theorem dX5_bet_34 : decode cX5_bet 34 = .ok (.invokevirtual 212, 3) := by decide +kernel
theorem dX5_bet_37 : decode cX5_bet 37 = .ok (.istore 4, 2) := by decide +kernel
theorem dX5_bet_39 : decode cX5_bet 39 = .ok (.iload 4, 2) := by decide +kernel
theorem dX5_bet_41 : decode cX5_bet 41 = .ok (.iload_n 2, 1) := by decide +kernel
theorem dX5_bet_42 : decode cX5_bet 42 = .ok (.if_icmp .le 7, 3) := by decide +kernel
theorem dX5_bet_45 : decode cX5_bet 45 = .ok (.iload_n 3, 1) := by decide +kernel
theorem dX5_bet_46 : decode cX5_bet 46 = .ok (.goto 4, 3) := by decide +kernel
theorem dX5_bet_49 : decode cX5_bet 49 = .ok (.iload_n 1, 1) := by decide +kernel
theorem dX5_bet_50 : decode cX5_bet 50 = .ok (.istore_n 1, 1) := by decide +kernel
theorem dX5_bet_51 : decode cX5_bet 51 = .ok (.iload 4, 2) := by decide +kernel
theorem dX5_bet_53 : decode cX5_bet 53 = .ok (.iload_n 2, 1) := by decide +kernel
theorem dX5_bet_54 : decode cX5_bet 54 = .ok (.if_icmp .le 8, 3) := by decide +kernel
theorem dX5_bet_57 : decode cX5_bet 57 = .ok (.iload 4, 2) := by decide +kernel
theorem dX5_bet_59 : decode cX5_bet 59 = .ok (.goto 4, 3) := by decide +kernel
theorem dX5_bet_62 : decode cX5_bet 62 = .ok (.iload_n 2, 1) := by decide +kernel
theorem dX5_bet_63 : decode cX5_bet 63 = .ok (.istore_n 2, 1) := by decide +kernel
theorem dX5_bet_64 : decode cX5_bet 64 = .ok (.iinc 3 1, 3) := by decide +kernel
theorem dX5_bet_67 : decode cX5_bet 67 = .ok (.goto (-60), 3) := by decide +kernel
theorem dX5_bet_70 : decode cX5_bet 70 = .ok (.iload_n 1, 1) := by decide +kernel
theorem dX5_bet_71 : decode cX5_bet 71 = .ok (.ireturn, 1) := by decide +kernel
theorem dX5_third_0 : decode cX5_third 0 = .ok (.aload_n 0, 1) := by decide +kernel
theorem dX5_third_1 : decode cX5_third 1 = .ok (.iconst 0, 1) := by decide +kernel
theorem dX5_third_2 : decode cX5_third 2 = .ok (.iload_n 1, 1) := by decide +kernel
theorem dX5_third_3 : decode cX5_third 3 = .ok (.invokevirtual 143, 3) := by decide +kernel
theorem dX5_third_6 : decode cX5_third 6 = .ok (.ifCond .eq 20, 3) := by decide +kernel
theorem dX5_third_9 : decode cX5_third 9 = .ok (.aload_n 0, 1) := by decide +kernel
theorem dX5_third_10 : decode cX5_third 10 = .ok (.iconst 1, 1) := by decide +kernel
theorem dX5_third_11 : decode cX5_third 11 = .ok (.iload_n 2, 1) := by decide +kernel
theorem dX5_third_12 : decode cX5_third 12 = .ok (.invokevirtual 143, 3) := by decide +kernel
theorem dX5_third_15 : decode cX5_third 15 = .ok (.ifCond .eq 11, 3) := by decide +kernel
theorem dX5_third_18 : decode cX5_third 18 = .ok (.aload_n 0, 1) := by decide +kernel
theorem dX5_third_19 : decode cX5_third 19 = .ok (.iload_n 3, 1) := by decide +kernel
theorem dX5_third_20 : decode cX5_third 20 = .ok (.invokevirtual 124, 3) := by decide +kernel
theorem dX5_third_23 : decode cX5_third 23 = .ok (.ifCond .ne 5, 3) := by decide +kernel
theorem dX5_third_26 : decode cX5_third 26 = .ok (.iconst (-1), 1) := by decide +kernel
theorem dX5_third_27 : decode cX5_third 27 = .ok (.ireturn, 1) := by decide +kernel
theorem dX5_third_28 : decode cX5_third 28 = .ok (.iconst 0, 1) := by decide +kernel
theorem dX5_third_29 : decode cX5_third 29 = .ok (.istore 4, 2) := by decide +kernel
theorem dX5_third_31 : decode cX5_third 31 = .ok (.iconst 0, 1) := by decide +kernel
theorem dX5_third_32 : decode cX5_third 32 = .ok (.istore 5, 2) := by decide +kernel
theorem dX5_third_34 : decode cX5_third 34 = .ok (.iload 5, 2) := by decide +kernel
theorem dX5_third_36 : decode cX5_third 36 = .ok (.aload_n 0, 1) := by decide +kernel
theorem dX5_third_37 : decode cX5_third 37 = .ok (.iconst 2, 1) := by decide +kernel
theorem dX5_third_38 : decode cX5_third 38 = .ok (.invokevirtual 111, 3) := by decide +kernel
theorem dX5_third_41 : decode cX5_third 41 = .ok (.if_icmp .ge 54, 3) := by decide +kernel
theorem dX5_third_44 : decode cX5_third 44 = .ok (.iload 4, 2) := by decide +kernel
theorem dX5_third_46 : decode cX5_third 46 = .ok (.aload_n 0, 1) := by decide +kernel
theorem dX5_third_47 : decode cX5_third 47 = .ok (.iload_n 1, 1) := by decide +kernel
theorem dX5_third_48 : decode cX5_third 48 = .ok (.iload_n 2, 1) := by decide +kernel
theorem dX5_third_49 : decode cX5_third 49 = .ok (.aload_n 0, 1) := by decide +kernel
theorem dX5_third_50 : decode cX5_third 50 = .ok (.iconst 2, 1) := by decide +kernel
theorem dX5_third_51 : decode cX5_third 51 = .ok (.iload 5, 2) := by decide +kernel
theorem dX5_third_53 : decode cX5_third 53 = .ok (.invokevirtual 115, 3) := by decide +kernel
theorem dX5_third_56 : decode cX5_third 56 = .ok (.aload_n 0, 1) := by decide +kernel
theorem dX5_third_57 : decode cX5_third 57 = .ok (.getfield 19, 3) := by decide +kernel
theorem dX5_third_60 : decode cX5_third 60 = .ok (.iconst 1, 1) := by decide +kernel
theorem dX5_third_61 : decode cX5_third 61 = .ok (.iaload, 1) := by decide +kernel
theorem dX5_third_62 : decode cX5_third 62 = .ok (.invokevirtual 135, 3) := by decide +kernel
theorem dX5_third_65 : decode cX5_third 65 = .ok (.iload_n 3, 1) := by decide +kernel
theorem dX5_third_66 : decode cX5_third 66 = .ok (.ishr, 1) := by decide +kernel
theorem dX5_third_67 : decode cX5_third 67 = .ok (.iconst 1, 1) := by decide +kernel
theorem dX5_third_68 : decode cX5_third 68 = .ok (.iand, 1) := by decide +kernel
theorem dX5_third_69 : decode cX5_third 69 = .ok (.iconst 1, 1) := by decide +kernel
theorem dX5_third_70 : decode cX5_third 70 = .ok (.if_icmp .ne 15, 3) := by decide +kernel
theorem dX5_third_73 : decode cX5_third 73 = .ok (.iconst 1, 1) := by decide +kernel
theorem dX5_third_74 : decode cX5_third 74 = .ok (.aload_n 0, 1) := by decide +kernel
theorem dX5_third_75 : decode cX5_third 75 = .ok (.iconst 2, 1) := by decide +kernel
theorem dX5_third_76 : decode cX5_third 76 = .ok (.iload 5, 2) := by decide +kernel
theorem dX5_third_78 : decode cX5_third 78 = .ok (.invokevirtual 115, 3) := by decide +kernel
theorem dX5_third_81 : decode cX5_third 81 = .ok (.ishl, 1) := by decide +kernel
theorem dX5_third_82 : decode cX5_third 82 = .ok (.goto 4, 3) := by decide +kernel
theorem dX5_third_85 : decode cX5_third 85 = .ok (.iconst 0, 1) := by decide +kernel
theorem dX5_third_86 : decode cX5_third 86 = .ok (.ior, 1) := by decide +kernel
theorem dX5_third_87 : decode cX5_third 87 = .ok (.istore 4, 2) := by decide +kernel
theorem dX5_third_89 : decode cX5_third 89 = .ok (.iinc 5 1, 3) := by decide +kernel
theorem dX5_third_92 : decode cX5_third 92 = .ok (.goto (-58), 3) := by decide +kernel
theorem dX5_third_95 : decode cX5_third 95 = .ok (.iload 4, 2) := by decide +kernel
theorem dX5_third_97 : decode cX5_third 97 = .ok (.ireturn, 1) := by decide +kernel
theorem dX5_threw_0 : decode cX5_threw 0 = .ok (.aload_n 0, 1) := by decide +kernel
theorem dX5_threw_1 : decode cX5_threw 1 = .ok (.iload_n 1, 1) := by decide +kernel
theorem dX5_threw_2 : decode cX5_threw 2 = .ok (.invokevirtual 124, 3) := by decide +kernel
theorem dX5_threw_5 : decode cX5_threw 5 = .ok (.ifCond .eq 13, 3) := by decide +kernel
theorem dX5_threw_8 : decode cX5_threw 8 = .ok (.iload_n 2, 1) := by decide +kernel
theorem dX5_threw_9 : decode cX5_threw 9 = .ok (.i2l, 1) := by decide +kernel
theorem dX5_threw_10 : decode cX5_threw 10 = .ok (.lconst 0, 1) := by decide +kernel
theorem dX5_threw_11 : decode cX5_threw 11 = .ok (.lconst 1, 1) := by decide +kernel
theorem dX5_threw_12 : decode cX5_threw 12 = .ok (.invokestatic 42, 3) := by decide +kernel
theorem dX5_threw_15 : decode cX5_threw 15 = .ok (.ifCond .ne 5, 3) := by decide +kernel
theorem dX5_threw_18 : decode cX5_threw 18 = .ok (.iconst (-1), 1) := by decide +kernel
theorem dX5_threw_19 : decode cX5_threw 19 = .ok (.ireturn, 1) := by decide +kernel
theorem dX5_threw_20 : decode cX5_threw 20 = .ok (.iconst 0, 1) := by decide +kernel
theorem dX5_threw_21 : decode cX5_threw 21 = .ok (.istore_n 3, 1) := by decide +kernel
theorem dX5_threw_22 : decode cX5_threw 22 = .ok (.bipush (-9), 2) := by decide +kernel
theorem dX5_threw_24 : decode cX5_threw 24 = .ok (.istore 4, 2) := by decide +kernel
theorem dX5_threw_26 : decode cX5_threw 26 = .ok (.iconst 0, 1) := by decide +kernel
theorem dX5_threw_27 : decode cX5_threw 27 = .ok (.istore 5, 2) := by decide +kernel
theorem dX5_threw_29 : decode cX5_threw 29 = .ok (.iload 5, 2) := by decide +kernel
theorem dX5_threw_31 : decode cX5_threw 31 = .ok (.aload_n 0, 1) := by decide +kernel
theorem dX5_threw_32 : decode cX5_threw 32 = .ok (.invokevirtual 182, 3) := by decide +kernel
theorem dX5_threw_35 : decode cX5_threw 35 = .ok (.if_icmp .ge 101, 3) := by decide +kernel
theorem dX5_threw_38 : decode cX5_threw 38 = .ok (.aload_n 0, 1) := by decide +kernel
theorem dX5_threw_39 : decode cX5_threw 39 = .ok (.iload 5, 2) := by decide +kernel
theorem dX5_threw_41 : decode cX5_threw 41 = .ok (.invokevirtual 185, 3) := by decide +kernel
theorem dX5_threw_44 : decode cX5_threw 44 = .ok (.aload_n 0, 1) := by decide +kernel
theorem dX5_threw_45 : decode cX5_threw 45 = .ok (.aload_n 0, 1) := by decide +kernel
theorem dX5_threw_46 : decode cX5_threw 46 = .ok (.getfield 173, 3) := by decide +kernel
theorem dX5_threw_49 : decode cX5_threw 49 = .ok (.aload_n 0, 1) := by decide +kernel
theorem dX5_threw_50 : decode cX5_threw 50 = .ok (.getfield 176, 3) := by decide +kernel
theorem dX5_threw_53 : decode cX5_threw 53 = .ok (.aload_n 0, 1) := by decide +kernel
theorem dX5_threw_54 : decode cX5_threw 54 = .ok (.getfield 179, 3) := by decide +kernel
theorem dX5_threw_57 : decode cX5_threw 57 = .ok (.aload_n 0, 1) := by decide +kernel
theorem dX5_threw_58 : decode cX5_threw 58 = .ok (.getfield 19, 3) := by decide +kernel
theorem dX5_threw_61 : decode cX5_threw 61 = .ok (.iconst 1, 1) := by decide +kernel
theorem dX5_threw_62 : decode cX5_threw 62 = .ok (.iaload, 1) := by decide +kernel
theorem dX5_threw_63 : decode cX5_threw 63 = .ok (.invokevirtual 135, 3) := by decide +kernel
theorem dX5_threw_66 : decode cX5_threw 66 = .ok (.iload_n 1, 1) := by decide +kernel
theorem dX5_threw_67 : decode cX5_threw 67 = .ok (.ishr, 1) := by decide +kernel
theorem dX5_threw_68 : decode cX5_threw 68 = .ok (.iconst 1, 1) := by decide +kernel
theorem dX5_threw_69 : decode cX5_threw 69 = .ok (.iand, 1) := by decide +kernel
theorem dX5_threw_70 : decode cX5_threw 70 = .ok (.iconst 1, 1) := by decide +kernel
theorem dX5_threw_71 : decode cX5_threw 71 = .ok (.if_icmp .ne 7, 3) := by decide +kernel
theorem dX5_threw_74 : decode cX5_threw 74 = .ok (.iconst 1, 1) := by decide +kernel
theorem dX5_threw_75 : decode cX5_threw 75 = .ok (.goto 4, 3) := by decide +kernel
theorem dX5_threw_78 : decode cX5_threw 78 = .ok (.iconst 0, 1) := by decide +kernel
theorem dX5_threw_79 : decode cX5_threw 79 = .ok (.istore 6, 2) := by decide +kernel
theorem dX5_threw_81 : decode cX5_threw 81 = .ok (.iload 6, 2) := by decide +kernel
theorem dX5_threw_83 : decode cX5_threw 83 = .ok (.ifCond .eq 30, 3) := by decide +kernel
theorem dX5_threw_86 : decode cX5_threw 86 = .ok (.iload_n 3, 1) := by decide +kernel
theorem dX5_threw_87 : decode cX5_threw 87 = .ok (.ifCond .ne 26, 3) := by decide +kernel
theorem dX5_threw_90 : decode cX5_threw 90 = .ok (.bipush 100, 2) := by decide +kernel
theorem dX5_threw_92 : decode cX5_threw 92 = .ok (.aload_n 0, 1) := by decide +kernel
theorem dX5_threw_93 : decode cX5_threw 93 = .ok (.getfield 173, 3) := by decide +kernel
theorem dX5_threw_96 : decode cX5_threw 96 = .ok (.imul, 1) := by decide +kernel
theorem dX5_threw_97 : decode cX5_threw 97 = .ok (.bipush 10, 2) := by decide +kernel
theorem dX5_threw_99 : decode cX5_threw 99 = .ok (.aload_n 0, 1) := by decide +kernel
theorem dX5_threw_100 : decode cX5_threw 100 = .ok (.getfield 176, 3) := by decide +kernel
theorem dX5_threw_103 : decode cX5_threw 103 = .ok (.imul, 1) := by decide +kernel
theorem dX5_threw_104 : decode cX5_threw 104 = .ok (.iadd, 1) := by decide +kernel
theorem dX5_threw_105 : decode cX5_threw 105 = .ok (.aload_n 0, 1) := by decide +kernel
theorem dX5_threw_106 : decode cX5_threw 106 = .ok (.getfield 179, 3) := by decide +kernel
theorem dX5_threw_109 : decode cX5_threw 109 = .ok (.iadd, 1) := by decide +kernel
theorem dX5_threw_110 : decode cX5_threw 110 = .ok (.goto 5, 3) := by decide +kernel
theorem dX5_threw_113 : decode cX5_threw 113 = .ok (.iload 4, 2) := by decide +kernel
theorem dX5_threw_115 : decode cX5_threw 115 = .ok (.istore 4, 2) := by decide +kernel
theorem dX5_threw_117 : decode cX5_threw 117 = .ok (.iload_n 3, 1) := by decide +kernel
theorem dX5_threw_118 : decode cX5_threw 118 = .ok (.iload 6, 2) := by decide +kernel
theorem dX5_threw_120 : decode cX5_threw 120 = .ok (.ifCond .eq 7, 3) := by decide +kernel
theorem dX5_threw_123 : decode cX5_threw 123 = .ok (.iconst 1, 1) := by decide +kernel
theorem dX5_threw_124 : decode cX5_threw 124 = .ok (.goto 4, 3) := by decide +kernel
theorem dX5_threw_127 : decode cX5_threw 127 = .ok (.iconst 0, 1) := by decide +kernel
theorem dX5_threw_128 : decode cX5_threw 128 = .ok (.iadd, 1) := by decide +kernel
theorem dX5_threw_129 : decode cX5_threw 129 = .ok (.istore_n 3, 1) := by decide +kernel
theorem dX5_threw_130 : decode cX5_threw 130 = .ok (.iinc 5 1, 3) := by decide +kernel
theorem dX5_threw_133 : decode cX5_threw 133 = .ok (.goto (-104), 3) := by decide +kernel
theorem dX5_threw_136 : decode cX5_threw 136 = .ok (.iload_n 2, 1) := by decide +kernel
theorem dX5_threw_137 : decode cX5_threw 137 = .ok (.ifCond .ne 7, 3) := by decide +kernel
theorem dX5_threw_140 : decode cX5_threw 140 = .ok (.iload_n 3, 1) := by decide +kernel
theorem dX5_threw_141 : decode cX5_threw 141 = .ok (.goto 5, 3) := by decide +kernel
theorem dX5_threw_144 : decode cX5_threw 144 = .ok (.iload 4, 2) := by decide +kernel
theorem dX5_threw_146 : decode cX5_threw 146 = .ok (.ireturn, 1) := by decide +kernel
theorem dX5_wins_0 : decode cX5_wins 0 = .ok (.iconst 0, 1) := by decide +kernel
theorem dX5_wins_1 : decode cX5_wins 1 = .ok (.istore_n 3, 1) := by decide +kernel
theorem dX5_wins_2 : decode cX5_wins 2 = .ok (.iconst 0, 1) := by decide +kernel
theorem dX5_wins_3 : decode cX5_wins 3 = .ok (.istore 4, 2) := by decide +kernel
theorem dX5_wins_5 : decode cX5_wins 5 = .ok (.iload 4, 2) := by decide +kernel
theorem dX5_wins_7 : decode cX5_wins 7 = .ok (.aload_n 0, 1) := by decide +kernel
theorem dX5_wins_8 : decode cX5_wins 8 = .ok (.iload_n 1, 1) := by decide +kernel
theorem dX5_wins_9 : decode cX5_wins 9 = .ok (.invokevirtual 111, 3) := by decide +kernel
theorem dX5_wins_12 : decode cX5_wins 12 = .ok (.if_icmp .ge 53, 3) := by decide +kernel
theorem dX5_wins_15 : decode cX5_wins 15 = .ok (.iconst 0, 1) := by decide +kernel
theorem dX5_wins_16 : decode cX5_wins 16 = .ok (.istore 5, 2) := by decide +kernel
theorem dX5_wins_18 : decode cX5_wins 18 = .ok (.iload 5, 2) := by decide +kernel
theorem dX5_wins_20 : decode cX5_wins 20 = .ok (.aload_n 0, 1) := by decide +kernel
theorem dX5_wins_21 : decode cX5_wins 21 = .ok (.iload_n 2, 1) := by decide +kernel
theorem dX5_wins_22 : decode cX5_wins 22 = .ok (.invokevirtual 111, 3) := by decide +kernel
theorem dX5_wins_25 : decode cX5_wins 25 = .ok (.if_icmp .ge 34, 3) := by decide +kernel
theorem dX5_wins_28 : decode cX5_wins 28 = .ok (.iload_n 3, 1) := by decide +kernel
theorem dX5_wins_29 : decode cX5_wins 29 = .ok (.aload_n 0, 1) := by decide +kernel
theorem dX5_wins_30 : decode cX5_wins 30 = .ok (.iload_n 1, 1) := by decide +kernel
theorem dX5_wins_31 : decode cX5_wins 31 = .ok (.iload 4, 2) := by decide +kernel
theorem dX5_wins_33 : decode cX5_wins 33 = .ok (.invokevirtual 115, 3) := by decide +kernel
theorem dX5_wins_36 : decode cX5_wins 36 = .ok (.aload_n 0, 1) := by decide +kernel
theorem dX5_wins_37 : decode cX5_wins 37 = .ok (.iload_n 2, 1) := by decide +kernel
theorem dX5_wins_38 : decode cX5_wins 38 = .ok (.iload 5, 2) := by decide +kernel
theorem dX5_wins_40 : decode cX5_wins 40 = .ok (.invokevirtual 115, 3) := by decide +kernel
theorem dX5_wins_43 : decode cX5_wins 43 = .ok (.if_icmp .le 7, 3) := by decide +kernel
theorem dX5_wins_46 : decode cX5_wins 46 = .ok (.iconst 1, 1) := by decide +kernel
theorem dX5_wins_47 : decode cX5_wins 47 = .ok (.goto 4, 3) := by decide +kernel
theorem dX5_wins_50 : decode cX5_wins 50 = .ok (.iconst 0, 1) := by decide +kernel
theorem dX5_wins_51 : decode cX5_wins 51 = .ok (.iadd, 1) := by decide +kernel
theorem dX5_wins_52 : decode cX5_wins 52 = .ok (.istore_n 3, 1) := by decide +kernel
theorem dX5_wins_53 : decode cX5_wins 53 = .ok (.iinc 5 1, 3) := by decide +kernel
theorem dX5_wins_56 : decode cX5_wins 56 = .ok (.goto (-38), 3) := by decide +kernel
theorem dX5_wins_59 : decode cX5_wins 59 = .ok (.iinc 4 1, 3) := by decide +kernel
theorem dX5_wins_62 : decode cX5_wins 62 = .ok (.goto (-57), 3) := by decide +kernel
theorem dX5_wins_65 : decode cX5_wins 65 = .ok (.iload_n 3, 1) := by decide +kernel
theorem dX5_wins_66 : decode cX5_wins 66 = .ok (.ireturn, 1) := by decide +kernel
theorem dX5_beats_0 : decode cX5_beats 0 = .ok (.iload_n 1, 1) := by decide +kernel
theorem dX5_beats_1 : decode cX5_beats 1 = .ok (.invokestatic 119, 3) := by decide +kernel
theorem dX5_beats_4 : decode cX5_beats 4 = .ok (.ifCond .eq 25, 3) := by decide +kernel
theorem dX5_beats_7 : decode cX5_beats 7 = .ok (.iload_n 2, 1) := by decide +kernel
theorem dX5_beats_8 : decode cX5_beats 8 = .ok (.invokestatic 119, 3) := by decide +kernel
theorem dX5_beats_11 : decode cX5_beats 11 = .ok (.ifCond .eq 18, 3) := by decide +kernel
theorem dX5_beats_14 : decode cX5_beats 14 = .ok (.iload_n 1, 1) := by decide +kernel
theorem dX5_beats_15 : decode cX5_beats 15 = .ok (.iload_n 2, 1) := by decide +kernel
theorem dX5_beats_16 : decode cX5_beats 16 = .ok (.if_icmp .eq 13, 3) := by decide +kernel
theorem dX5_beats_19 : decode cX5_beats 19 = .ok (.iload_n 3, 1) := by decide +kernel
theorem dX5_beats_20 : decode cX5_beats 20 = .ok (.i2l, 1) := by decide +kernel
theorem dX5_beats_21 : decode cX5_beats 21 = .ok (.lconst 0, 1) := by decide +kernel
theorem dX5_beats_22 : decode cX5_beats 22 = .ok (.lconst 1, 1) := by decide +kernel
theorem dX5_beats_23 : decode cX5_beats 23 = .ok (.invokestatic 42, 3) := by decide +kernel
theorem dX5_beats_26 : decode cX5_beats 26 = .ok (.ifCond .ne 5, 3) := by decide +kernel
theorem dX5_beats_29 : decode cX5_beats 29 = .ok (.iconst (-1), 1) := by decide +kernel
theorem dX5_beats_30 : decode cX5_beats 30 = .ok (.ireturn, 1) := by decide +kernel
theorem dX5_beats_31 : decode cX5_beats 31 = .ok (.aload_n 0, 1) := by decide +kernel
theorem dX5_beats_32 : decode cX5_beats 32 = .ok (.iload_n 1, 1) := by decide +kernel
theorem dX5_beats_33 : decode cX5_beats 33 = .ok (.iload_n 2, 1) := by decide +kernel
theorem dX5_beats_34 : decode cX5_beats 34 = .ok (.invokevirtual 215, 3) := by decide +kernel
theorem dX5_beats_37 : decode cX5_beats 37 = .ok (.aload_n 0, 1) := by decide +kernel
theorem dX5_beats_38 : decode cX5_beats 38 = .ok (.iload_n 1, 1) := by decide +kernel
theorem dX5_beats_39 : decode cX5_beats 39 = .ok (.invokevirtual 111, 3) := by decide +kernel
theorem dX5_beats_42 : decode cX5_beats 42 = .ok (.aload_n 0, 1) := by decide +kernel
theorem dX5_beats_43 : decode cX5_beats 43 = .ok (.iload_n 2, 1) := by decide +kernel
theorem dX5_beats_44 : decode cX5_beats 44 = .ok (.invokevirtual 111, 3) := by decide +kernel
theorem dX5_beats_47 : decode cX5_beats 47 = .ok (.imul, 1) := by decide +kernel
theorem dX5_beats_48 : decode cX5_beats 48 = .ok (.iload_n 3, 1) := by decide +kernel
theorem dX5_beats_49 : decode cX5_beats 49 = .ok (.invokestatic 201, 3) := by decide +kernel
theorem dX5_beats_52 : decode cX5_beats 52 = .ok (.ireturn, 1) := by decide +kernel
theorem dX5_isMore_0 : decode cX5_isMore 0 = .ok (.iconst 2, 1) := by decide +kernel
theorem dX5_isMore_1 : decode cX5_isMore 1 = .ok (.aload_n 0, 1) := by decide +kernel
theorem dX5_isMore_2 : decode cX5_isMore 2 = .ok (.iload_n 1, 1) := by decide +kernel
theorem dX5_isMore_3 : decode cX5_isMore 3 = .ok (.iload_n 2, 1) := by decide +kernel
theorem dX5_isMore_4 : decode cX5_isMore 4 = .ok (.invokevirtual 215, 3) := by decide +kernel
theorem dX5_isMore_7 : decode cX5_isMore 7 = .ok (.imul, 1) := by decide +kernel
theorem dX5_isMore_8 : decode cX5_isMore 8 = .ok (.aload_n 0, 1) := by decide +kernel
theorem dX5_isMore_9 : decode cX5_isMore 9 = .ok (.iload_n 1, 1) := by decide +kernel
theorem dX5_isMore_10 : decode cX5_isMore 10 = .ok (.invokevirtual 111, 3) := by decide +kernel
theorem dX5_isMore_13 : decode cX5_isMore 13 = .ok (.aload_n 0, 1) := by decide +kernel
theorem dX5_isMore_14 : decode cX5_isMore 14 = .ok (.iload_n 2, 1) := by decide +kernel
theorem dX5_isMore_15 : decode cX5_isMore 15 = .ok (.invokevirtual 111, 3) := by decide +kernel
theorem dX5_isMore_18 : decode cX5_isMore 18 = .ok (.imul, 1) := by decide +kernel
theorem dX5_isMore_19 : decode cX5_isMore 19 = .ok (.if_icmp .le 7, 3) := by decide +kernel
theorem dX5_isMore_22 : decode cX5_isMore 22 = .ok (.iconst 1, 1) := by decide +kernel
theorem dX5_isMore_23 : decode cX5_isMore 23 = .ok (.goto 4, 3) := by decide +kernel
theorem dX5_isMore_26 : decode cX5_isMore 26 = .ok (.iconst 0, 1) := by decide +kernel
theorem dX5_isMore_27 : decode cX5_isMore 27 = .ok (.ireturn, 1) := by decide +kernel
theorem dX5_ring_0 : decode cX5_ring 0 = .ok (.aload_n 0, 1) := by decide +kernel
theorem dX5_ring_1 : decode cX5_ring 1 = .ok (.iconst 0, 1) := by decide +kernel
theorem dX5_ring_2 : decode cX5_ring 2 = .ok (.iconst 1, 1) := by decide +kernel
theorem dX5_ring_3 : decode cX5_ring 3 = .ok (.invokevirtual 218, 3) := by decide +kernel
theorem dX5_ring_6 : decode cX5_ring 6 = .ok (.ifCond .eq 23, 3) := by decide +kernel
theorem dX5_ring_9 : decode cX5_ring 9 = .ok (.aload_n 0, 1) := by decide +kernel
theorem dX5_ring_10 : decode cX5_ring 10 = .ok (.iconst 1, 1) := by decide +kernel
theorem dX5_ring_11 : decode cX5_ring 11 = .ok (.iconst 2, 1) := by decide +kernel
theorem dX5_ring_12 : decode cX5_ring 12 = .ok (.invokevirtual 218, 3) := by decide +kernel
theorem dX5_ring_15 : decode cX5_ring 15 = .ok (.ifCond .eq 14, 3) := by decide +kernel
theorem dX5_ring_18 : decode cX5_ring 18 = .ok (.aload_n 0, 1) := by decide +kernel
theorem dX5_ring_19 : decode cX5_ring 19 = .ok (.iconst 2, 1) := by decide +kernel
theorem dX5_ring_20 : decode cX5_ring 20 = .ok (.iconst 0, 1) := by decide +kernel
theorem dX5_ring_21 : decode cX5_ring 21 = .ok (.invokevirtual 218, 3) := by decide +kernel
theorem dX5_ring_24 : decode cX5_ring 24 = .ok (.ifCond .eq 5, 3) := by decide +kernel
theorem dX5_ring_27 : decode cX5_ring 27 = .ok (.iconst 1, 1) := by decide +kernel
theorem dX5_ring_28 : decode cX5_ring 28 = .ok (.ireturn, 1) := by decide +kernel
theorem dX5_ring_29 : decode cX5_ring 29 = .ok (.aload_n 0, 1) := by decide +kernel
theorem dX5_ring_30 : decode cX5_ring 30 = .ok (.iconst 1, 1) := by decide +kernel
theorem dX5_ring_31 : decode cX5_ring 31 = .ok (.iconst 0, 1) := by decide +kernel
theorem dX5_ring_32 : decode cX5_ring 32 = .ok (.invokevirtual 218, 3) := by decide +kernel
theorem dX5_ring_35 : decode cX5_ring 35 = .ok (.ifCond .eq 25, 3) := by decide +kernel
theorem dX5_ring_38 : decode cX5_ring 38 = .ok (.aload_n 0, 1) := by decide +kernel
theorem dX5_ring_39 : decode cX5_ring 39 = .ok (.iconst 2, 1) := by decide +kernel
theorem dX5_ring_40 : decode cX5_ring 40 = .ok (.iconst 1, 1) := by decide +kernel
theorem dX5_ring_41 : decode cX5_ring 41 = .ok (.invokevirtual 218, 3) := by decide +kernel
theorem dX5_ring_44 : decode cX5_ring 44 = .ok (.ifCond .eq 16, 3) := by decide +kernel
theorem dX5_ring_47 : decode cX5_ring 47 = .ok (.aload_n 0, 1) := by decide +kernel
theorem dX5_ring_48 : decode cX5_ring 48 = .ok (.iconst 0, 1) := by decide +kernel
theorem dX5_ring_49 : decode cX5_ring 49 = .ok (.iconst 2, 1) := by decide +kernel
theorem dX5_ring_50 : decode cX5_ring 50 = .ok (.invokevirtual 218, 3) := by decide +kernel
theorem dX5_ring_53 : decode cX5_ring 53 = .ok (.ifCond .eq 7, 3) := by decide +kernel
theorem dX5_ring_56 : decode cX5_ring 56 = .ok (.iconst 2, 1) := by decide +kernel
theorem dX5_ring_57 : decode cX5_ring 57 = .ok (.goto 4, 3) := by decide +kernel
theorem dX5_ring_60 : decode cX5_ring 60 = .ok (.iconst 0, 1) := by decide +kernel
theorem dX5_ring_61 : decode cX5_ring 61 = .ok (.ireturn, 1) := by decide +kernel
theorem dX5_mark_0 : decode cX5_mark 0 = .ok (.iload_n 1, 1) := by decide +kernel
theorem dX5_mark_1 : decode cX5_mark 1 = .ok (.i2l, 1) := by decide +kernel
theorem dX5_mark_2 : decode cX5_mark 2 = .ok (.lconst 0, 1) := by decide +kernel
theorem dX5_mark_3 : decode cX5_mark 3 = .ok (.ldc2_w 221, 3) := by decide +kernel
theorem dX5_mark_6 : decode cX5_mark 6 = .ok (.invokestatic 42, 3) := by decide +kernel
theorem dX5_mark_9 : decode cX5_mark 9 = .ok (.ifCond .eq 11, 3) := by decide +kernel
theorem dX5_mark_12 : decode cX5_mark 12 = .ok (.aload_n 0, 1) := by decide +kernel
theorem dX5_mark_13 : decode cX5_mark 13 = .ok (.iload_n 2, 1) := by decide +kernel
theorem dX5_mark_14 : decode cX5_mark 14 = .ok (.invokevirtual 124, 3) := by decide +kernel
theorem dX5_mark_17 : decode cX5_mark 17 = .ok (.ifCond .ne 6, 3) := by decide +kernel
theorem dX5_mark_20 : decode cX5_mark 20 = .ok (.ldc 172, 2) := by decide +kernel
theorem dX5_mark_22 : decode cX5_mark 22 = .ok (.ireturn, 1) := by decide +kernel
theorem dX5_mark_23 : decode cX5_mark 23 = .ok (.aload_n 0, 1) := by decide +kernel
theorem dX5_mark_24 : decode cX5_mark 24 = .ok (.dup, 1) := by decide +kernel
theorem dX5_mark_25 : decode cX5_mark 25 = .ok (.getfield 223, 3) := by decide +kernel
theorem dX5_mark_28 : decode cX5_mark 28 = .ok (.iload_n 1, 1) := by decide +kernel
theorem dX5_mark_29 : decode cX5_mark 29 = .ok (.ifCond .ne 7, 3) := by decide +kernel
theorem dX5_mark_32 : decode cX5_mark 32 = .ok (.lconst 1, 1) := by decide +kernel
theorem dX5_mark_33 : decode cX5_mark 33 = .ok (.goto 50, 3) := by decide +kernel
theorem dX5_mark_36 : decode cX5_mark 36 = .ok (.iload_n 1, 1) := by decide +kernel
theorem dX5_mark_37 : decode cX5_mark 37 = .ok (.iconst 1, 1) := by decide +kernel
theorem dX5_mark_38 : decode cX5_mark 38 = .ok (.if_icmp .ne 9, 3) := by decide +kernel
theorem dX5_mark_41 : decode cX5_mark 41 = .ok (.ldc2_w 227, 3) := by decide +kernel
theorem dX5_mark_44 : decode cX5_mark 44 = .ok (.goto 39, 3) := by decide +kernel
theorem dX5_mark_47 : decode cX5_mark 47 = .ok (.iload_n 1, 1) := by decide +kernel
theorem dX5_mark_48 : decode cX5_mark 48 = .ok (.iconst 2, 1) := by decide +kernel
theorem dX5_mark_49 : decode cX5_mark 49 = .ok (.if_icmp .ne 9, 3) := by decide +kernel
theorem dX5_mark_52 : decode cX5_mark 52 = .ok (.ldc2_w 229, 3) := by decide +kernel
theorem dX5_mark_55 : decode cX5_mark 55 = .ok (.goto 28, 3) := by decide +kernel
theorem dX5_mark_58 : decode cX5_mark 58 = .ok (.iload_n 1, 1) := by decide +kernel
theorem dX5_mark_59 : decode cX5_mark 59 = .ok (.iconst 3, 1) := by decide +kernel
theorem dX5_mark_60 : decode cX5_mark 60 = .ok (.if_icmp .ne 9, 3) := by decide +kernel
theorem dX5_mark_63 : decode cX5_mark 63 = .ok (.ldc2_w 231, 3) := by decide +kernel
theorem dX5_mark_66 : decode cX5_mark 66 = .ok (.goto 17, 3) := by decide +kernel
theorem dX5_mark_69 : decode cX5_mark 69 = .ok (.iload_n 1, 1) := by decide +kernel
theorem dX5_mark_70 : decode cX5_mark 70 = .ok (.iconst 4, 1) := by decide +kernel
theorem dX5_mark_71 : decode cX5_mark 71 = .ok (.if_icmp .ne 9, 3) := by decide +kernel
theorem dX5_mark_74 : decode cX5_mark 74 = .ok (.ldc2_w 233, 3) := by decide +kernel
theorem dX5_mark_77 : decode cX5_mark 77 = .ok (.goto 6, 3) := by decide +kernel
theorem dX5_mark_80 : decode cX5_mark 80 = .ok (.ldc2_w 235, 3) := by decide +kernel
theorem dX5_mark_83 : decode cX5_mark 83 = .ok (.ladd, 1) := by decide +kernel
theorem dX5_mark_84 : decode cX5_mark 84 = .ok (.putfield 223, 3) := by decide +kernel
theorem dX5_mark_87 : decode cX5_mark 87 = .ok (.iload_n 1, 1) := by decide +kernel
theorem dX5_mark_88 : decode cX5_mark 88 = .ok (.tableswitch 86 0 4 #[36, 38, 46, 56, 66], 36) := by decide +kernel
theorem dX5_mark_124 : decode cX5_mark 124 = .ok (.iload_n 2, 1) := by decide +kernel
theorem dX5_mark_125 : decode cX5_mark 125 = .ok (.ireturn, 1) := by decide +kernel
theorem dX5_mark_126 : decode cX5_mark 126 = .ok (.iload_n 2, 1) := by decide +kernel
theorem dX5_mark_127 : decode cX5_mark 127 = .ok (.aload_n 0, 1) := by decide +kernel
theorem dX5_mark_128 : decode cX5_mark 128 = .ok (.iload_n 2, 1) := by decide +kernel
theorem dX5_mark_129 : decode cX5_mark 129 = .ok (.invokevirtual 198, 3) := by decide +kernel
theorem dX5_mark_132 : decode cX5_mark 132 = .ok (.iadd, 1) := by decide +kernel
theorem dX5_mark_133 : decode cX5_mark 133 = .ok (.ireturn, 1) := by decide +kernel
theorem dX5_mark_134 : decode cX5_mark 134 = .ok (.iload_n 2, 1) := by decide +kernel
theorem dX5_mark_135 : decode cX5_mark 135 = .ok (.aload_n 0, 1) := by decide +kernel
theorem dX5_mark_136 : decode cX5_mark 136 = .ok (.invokevirtual 139, 3) := by decide +kernel
theorem dX5_mark_139 : decode cX5_mark 139 = .ok (.invokestatic 159, 3) := by decide +kernel
theorem dX5_mark_142 : decode cX5_mark 142 = .ok (.isub, 1) := by decide +kernel
theorem dX5_mark_143 : decode cX5_mark 143 = .ok (.ireturn, 1) := by decide +kernel
theorem dX5_mark_144 : decode cX5_mark 144 = .ok (.iconst 2, 1) := by decide +kernel
theorem dX5_mark_145 : decode cX5_mark 145 = .ok (.iload_n 2, 1) := by decide +kernel
theorem dX5_mark_146 : decode cX5_mark 146 = .ok (.aload_n 0, 1) := by decide +kernel
theorem dX5_mark_147 : decode cX5_mark 147 = .ok (.iload_n 2, 1) := by decide +kernel
theorem dX5_mark_148 : decode cX5_mark 148 = .ok (.invokevirtual 198, 3) := by decide +kernel
theorem dX5_mark_151 : decode cX5_mark 151 = .ok (.iadd, 1) := by decide +kernel
theorem dX5_mark_152 : decode cX5_mark 152 = .ok (.imul, 1) := by decide +kernel
theorem dX5_mark_153 : decode cX5_mark 153 = .ok (.ireturn, 1) := by decide +kernel
theorem dX5_mark_154 : decode cX5_mark 154 = .ok (.iload_n 2, 1) := by decide +kernel
theorem dX5_mark_155 : decode cX5_mark 155 = .ok (.aload_n 0, 1) := by decide +kernel
theorem dX5_mark_156 : decode cX5_mark 156 = .ok (.invokevirtual 139, 3) := by decide +kernel
theorem dX5_mark_159 : decode cX5_mark 159 = .ok (.invokestatic 159, 3) := by decide +kernel
theorem dX5_mark_162 : decode cX5_mark 162 = .ok (.isub, 1) := by decide +kernel
theorem dX5_mark_163 : decode cX5_mark 163 = .ok (.bipush 7, 2) := by decide +kernel
theorem dX5_mark_165 : decode cX5_mark 165 = .ok (.aload_n 0, 1) := by decide +kernel
theorem dX5_mark_166 : decode cX5_mark 166 = .ok (.getfield 19, 3) := by decide +kernel
theorem dX5_mark_169 : decode cX5_mark 169 = .ok (.iconst 1, 1) := by decide +kernel
theorem dX5_mark_170 : decode cX5_mark 170 = .ok (.iaload, 1) := by decide +kernel
theorem dX5_mark_171 : decode cX5_mark 171 = .ok (.imul, 1) := by decide +kernel
theorem dX5_mark_172 : decode cX5_mark 172 = .ok (.iadd, 1) := by decide +kernel
theorem dX5_mark_173 : decode cX5_mark 173 = .ok (.ireturn, 1) := by decide +kernel
theorem dX5_mark_174 : decode cX5_mark 174 = .ok (.iload_n 2, 1) := by decide +kernel
theorem dX5_mark_175 : decode cX5_mark 175 = .ok (.aload_n 0, 1) := by decide +kernel
theorem dX5_mark_176 : decode cX5_mark 176 = .ok (.getfield 19, 3) := by decide +kernel
theorem dX5_mark_179 : decode cX5_mark 179 = .ok (.iconst 3, 1) := by decide +kernel
theorem dX5_mark_180 : decode cX5_mark 180 = .ok (.iaload, 1) := by decide +kernel
theorem dX5_mark_181 : decode cX5_mark 181 = .ok (.iadd, 1) := by decide +kernel
theorem dX5_mark_182 : decode cX5_mark 182 = .ok (.aload_n 0, 1) := by decide +kernel
theorem dX5_mark_183 : decode cX5_mark 183 = .ok (.getfield 19, 3) := by decide +kernel
theorem dX5_mark_186 : decode cX5_mark 186 = .ok (.iconst 4, 1) := by decide +kernel
theorem dX5_mark_187 : decode cX5_mark 187 = .ok (.iaload, 1) := by decide +kernel
theorem dX5_mark_188 : decode cX5_mark 188 = .ok (.iadd, 1) := by decide +kernel
theorem dX5_mark_189 : decode cX5_mark 189 = .ok (.ireturn, 1) := by decide +kernel
theorem dX5_trace_0 : decode cX5_trace 0 = .ok (.aload_n 0, 1) := by decide +kernel
theorem dX5_trace_1 : decode cX5_trace 1 = .ok (.getfield 223, 3) := by decide +kernel
theorem dX5_trace_4 : decode cX5_trace 4 = .ok (.lreturn, 1) := by decide +kernel
theorem dX5_keep_0 : decode cX5_keep 0 = .ok (.iload_n 1, 1) := by decide +kernel
theorem dX5_keep_1 : decode cX5_keep 1 = .ok (.i2l, 1) := by decide +kernel
theorem dX5_keep_2 : decode cX5_keep 2 = .ok (.lconst 0, 1) := by decide +kernel
theorem dX5_keep_3 : decode cX5_keep 3 = .ok (.lconst 1, 1) := by decide +kernel
theorem dX5_keep_4 : decode cX5_keep 4 = .ok (.invokestatic 42, 3) := by decide +kernel
theorem dX5_keep_7 : decode cX5_keep 7 = .ok (.ifCond .ne 5, 3) := by decide +kernel
theorem dX5_keep_10 : decode cX5_keep 10 = .ok (.iconst (-1), 1) := by decide +kernel
theorem dX5_keep_11 : decode cX5_keep 11 = .ok (.ireturn, 1) := by decide +kernel
theorem dX5_keep_12 : decode cX5_keep 12 = .ok (.sipush 353, 3) := by decide +kernel
theorem dX5_keep_15 : decode cX5_keep 15 = .ok (.iload_n 1, 1) := by decide +kernel
theorem dX5_keep_16 : decode cX5_keep 16 = .ok (.imul, 1) := by decide +kernel
theorem dX5_keep_17 : decode cX5_keep 17 = .ok (.istore_n 2, 1) := by decide +kernel
theorem dX5_keep_18 : decode cX5_keep 18 = .ok (.aload_n 0, 1) := by decide +kernel
theorem dX5_keep_19 : decode cX5_keep 19 = .ok (.getfield 31, 3) := by decide +kernel
theorem dX5_keep_22 : decode cX5_keep 22 = .ok (.iload_n 2, 1) := by decide +kernel
theorem dX5_keep_23 : decode cX5_keep 23 = .ok (.iconst 1, 1) := by decide +kernel
theorem dX5_keep_24 : decode cX5_keep 24 = .ok (.iastore, 1) := by decide +kernel
theorem dX5_keep_25 : decode cX5_keep 25 = .ok (.aload_n 0, 1) := by decide +kernel
theorem dX5_keep_26 : decode cX5_keep 26 = .ok (.getfield 31, 3) := by decide +kernel
theorem dX5_keep_29 : decode cX5_keep 29 = .ok (.iload_n 2, 1) := by decide +kernel
theorem dX5_keep_30 : decode cX5_keep 30 = .ok (.iconst 1, 1) := by decide +kernel
theorem dX5_keep_31 : decode cX5_keep 31 = .ok (.iadd, 1) := by decide +kernel
theorem dX5_keep_32 : decode cX5_keep 32 = .ok (.aload_n 0, 1) := by decide +kernel
theorem dX5_keep_33 : decode cX5_keep 33 = .ok (.getfield 106, 3) := by decide +kernel
theorem dX5_keep_36 : decode cX5_keep 36 = .ok (.iastore, 1) := by decide +kernel
theorem dX5_keep_37 : decode cX5_keep 37 = .ok (.iconst 0, 1) := by decide +kernel
theorem dX5_keep_38 : decode cX5_keep 38 = .ok (.istore_n 3, 1) := by decide +kernel
theorem dX5_keep_39 : decode cX5_keep 39 = .ok (.iload_n 3, 1) := by decide +kernel
theorem dX5_keep_40 : decode cX5_keep 40 = .ok (.bipush 27, 2) := by decide +kernel
theorem dX5_keep_42 : decode cX5_keep 42 = .ok (.if_icmp .ge 25, 3) := by decide +kernel
theorem dX5_keep_45 : decode cX5_keep 45 = .ok (.aload_n 0, 1) := by decide +kernel
theorem dX5_keep_46 : decode cX5_keep 46 = .ok (.getfield 31, 3) := by decide +kernel
theorem dX5_keep_49 : decode cX5_keep 49 = .ok (.iload_n 2, 1) := by decide +kernel
theorem dX5_keep_50 : decode cX5_keep 50 = .ok (.iconst 2, 1) := by decide +kernel
theorem dX5_keep_51 : decode cX5_keep 51 = .ok (.iadd, 1) := by decide +kernel
theorem dX5_keep_52 : decode cX5_keep 52 = .ok (.iload_n 3, 1) := by decide +kernel
theorem dX5_keep_53 : decode cX5_keep 53 = .ok (.iadd, 1) := by decide +kernel
theorem dX5_keep_54 : decode cX5_keep 54 = .ok (.aload_n 0, 1) := by decide +kernel
theorem dX5_keep_55 : decode cX5_keep 55 = .ok (.getfield 19, 3) := by decide +kernel
theorem dX5_keep_58 : decode cX5_keep 58 = .ok (.iload_n 3, 1) := by decide +kernel
theorem dX5_keep_59 : decode cX5_keep 59 = .ok (.iaload, 1) := by decide +kernel
theorem dX5_keep_60 : decode cX5_keep 60 = .ok (.iastore, 1) := by decide +kernel
theorem dX5_keep_61 : decode cX5_keep 61 = .ok (.iinc 3 1, 3) := by decide +kernel
theorem dX5_keep_64 : decode cX5_keep 64 = .ok (.goto (-25), 3) := by decide +kernel
theorem dX5_keep_67 : decode cX5_keep 67 = .ok (.iconst 0, 1) := by decide +kernel
theorem dX5_keep_68 : decode cX5_keep 68 = .ok (.istore_n 3, 1) := by decide +kernel
theorem dX5_keep_69 : decode cX5_keep 69 = .ok (.iload_n 3, 1) := by decide +kernel
theorem dX5_keep_70 : decode cX5_keep 70 = .ok (.sipush 324, 3) := by decide +kernel
theorem dX5_keep_73 : decode cX5_keep 73 = .ok (.if_icmp .ge 26, 3) := by decide +kernel
theorem dX5_keep_76 : decode cX5_keep 76 = .ok (.aload_n 0, 1) := by decide +kernel
theorem dX5_keep_77 : decode cX5_keep 77 = .ok (.getfield 31, 3) := by decide +kernel
theorem dX5_keep_80 : decode cX5_keep 80 = .ok (.iload_n 2, 1) := by decide +kernel
theorem dX5_keep_81 : decode cX5_keep 81 = .ok (.bipush 29, 2) := by decide +kernel
theorem dX5_keep_83 : decode cX5_keep 83 = .ok (.iadd, 1) := by decide +kernel
theorem dX5_keep_84 : decode cX5_keep 84 = .ok (.iload_n 3, 1) := by decide +kernel
theorem dX5_keep_85 : decode cX5_keep 85 = .ok (.iadd, 1) := by decide +kernel
theorem dX5_keep_86 : decode cX5_keep 86 = .ok (.aload_n 0, 1) := by decide +kernel
theorem dX5_keep_87 : decode cX5_keep 87 = .ok (.getfield 22, 3) := by decide +kernel
theorem dX5_keep_90 : decode cX5_keep 90 = .ok (.iload_n 3, 1) := by decide +kernel
theorem dX5_keep_91 : decode cX5_keep 91 = .ok (.iaload, 1) := by decide +kernel
theorem dX5_keep_92 : decode cX5_keep 92 = .ok (.iastore, 1) := by decide +kernel
theorem dX5_keep_93 : decode cX5_keep 93 = .ok (.iinc 3 1, 3) := by decide +kernel
theorem dX5_keep_96 : decode cX5_keep 96 = .ok (.goto (-27), 3) := by decide +kernel
theorem dX5_keep_99 : decode cX5_keep 99 = .ok (.aload_n 0, 1) := by decide +kernel
theorem dX5_keep_100 : decode cX5_keep 100 = .ok (.getfield 19, 3) := by decide +kernel
theorem dX5_keep_103 : decode cX5_keep 103 = .ok (.iconst 0, 1) := by decide +kernel
theorem dX5_keep_104 : decode cX5_keep 104 = .ok (.iaload, 1) := by decide +kernel
theorem dX5_keep_105 : decode cX5_keep 105 = .ok (.ireturn, 1) := by decide +kernel
theorem dX5_back_0 : decode cX5_back 0 = .ok (.iload_n 1, 1) := by decide +kernel
theorem dX5_back_1 : decode cX5_back 1 = .ok (.i2l, 1) := by decide +kernel
theorem dX5_back_2 : decode cX5_back 2 = .ok (.lconst 0, 1) := by decide +kernel
theorem dX5_back_3 : decode cX5_back 3 = .ok (.lconst 1, 1) := by decide +kernel
theorem dX5_back_4 : decode cX5_back 4 = .ok (.invokestatic 42, 3) := by decide +kernel
theorem dX5_back_7 : decode cX5_back 7 = .ok (.ifCond .ne 5, 3) := by decide +kernel
theorem dX5_back_10 : decode cX5_back 10 = .ok (.iconst (-1), 1) := by decide +kernel
theorem dX5_back_11 : decode cX5_back 11 = .ok (.ireturn, 1) := by decide +kernel
theorem dX5_back_12 : decode cX5_back 12 = .ok (.sipush 353, 3) := by decide +kernel
theorem dX5_back_15 : decode cX5_back 15 = .ok (.iload_n 1, 1) := by decide +kernel
theorem dX5_back_16 : decode cX5_back 16 = .ok (.imul, 1) := by decide +kernel
theorem dX5_back_17 : decode cX5_back 17 = .ok (.istore_n 2, 1) := by decide +kernel
theorem dX5_back_18 : decode cX5_back 18 = .ok (.aload_n 0, 1) := by decide +kernel
theorem dX5_back_19 : decode cX5_back 19 = .ok (.getfield 31, 3) := by decide +kernel
theorem dX5_back_22 : decode cX5_back 22 = .ok (.iload_n 2, 1) := by decide +kernel
theorem dX5_back_23 : decode cX5_back 23 = .ok (.iaload, 1) := by decide +kernel
theorem dX5_back_24 : decode cX5_back 24 = .ok (.ifCond .ne 6, 3) := by decide +kernel
theorem dX5_back_27 : decode cX5_back 27 = .ok (.bipush (-2), 2) := by decide +kernel
theorem dX5_back_29 : decode cX5_back 29 = .ok (.ireturn, 1) := by decide +kernel
theorem dX5_back_30 : decode cX5_back 30 = .ok (.aload_n 0, 1) := by decide +kernel
theorem dX5_back_31 : decode cX5_back 31 = .ok (.aload_n 0, 1) := by decide +kernel
theorem dX5_back_32 : decode cX5_back 32 = .ok (.getfield 31, 3) := by decide +kernel
theorem dX5_back_35 : decode cX5_back 35 = .ok (.iload_n 2, 1) := by decide +kernel
theorem dX5_back_36 : decode cX5_back 36 = .ok (.iconst 1, 1) := by decide +kernel
theorem dX5_back_37 : decode cX5_back 37 = .ok (.iadd, 1) := by decide +kernel
theorem dX5_back_38 : decode cX5_back 38 = .ok (.iaload, 1) := by decide +kernel
theorem dX5_back_39 : decode cX5_back 39 = .ok (.putfield 106, 3) := by decide +kernel
theorem dX5_back_42 : decode cX5_back 42 = .ok (.iconst 0, 1) := by decide +kernel
theorem dX5_back_43 : decode cX5_back 43 = .ok (.istore_n 3, 1) := by decide +kernel
theorem dX5_back_44 : decode cX5_back 44 = .ok (.iload_n 3, 1) := by decide +kernel
theorem dX5_back_45 : decode cX5_back 45 = .ok (.bipush 27, 2) := by decide +kernel
theorem dX5_back_47 : decode cX5_back 47 = .ok (.if_icmp .ge 25, 3) := by decide +kernel
theorem dX5_back_50 : decode cX5_back 50 = .ok (.aload_n 0, 1) := by decide +kernel
theorem dX5_back_51 : decode cX5_back 51 = .ok (.getfield 19, 3) := by decide +kernel
theorem dX5_back_54 : decode cX5_back 54 = .ok (.iload_n 3, 1) := by decide +kernel
theorem dX5_back_55 : decode cX5_back 55 = .ok (.aload_n 0, 1) := by decide +kernel
theorem dX5_back_56 : decode cX5_back 56 = .ok (.getfield 31, 3) := by decide +kernel
theorem dX5_back_59 : decode cX5_back 59 = .ok (.iload_n 2, 1) := by decide +kernel
theorem dX5_back_60 : decode cX5_back 60 = .ok (.iconst 2, 1) := by decide +kernel
theorem dX5_back_61 : decode cX5_back 61 = .ok (.iadd, 1) := by decide +kernel
theorem dX5_back_62 : decode cX5_back 62 = .ok (.iload_n 3, 1) := by decide +kernel
theorem dX5_back_63 : decode cX5_back 63 = .ok (.iadd, 1) := by decide +kernel
theorem dX5_back_64 : decode cX5_back 64 = .ok (.iaload, 1) := by decide +kernel
theorem dX5_back_65 : decode cX5_back 65 = .ok (.iastore, 1) := by decide +kernel
theorem dX5_back_66 : decode cX5_back 66 = .ok (.iinc 3 1, 3) := by decide +kernel
theorem dX5_back_69 : decode cX5_back 69 = .ok (.goto (-25), 3) := by decide +kernel
theorem dX5_back_72 : decode cX5_back 72 = .ok (.iconst 0, 1) := by decide +kernel
theorem dX5_back_73 : decode cX5_back 73 = .ok (.istore_n 3, 1) := by decide +kernel
theorem dX5_back_74 : decode cX5_back 74 = .ok (.iload_n 3, 1) := by decide +kernel
theorem dX5_back_75 : decode cX5_back 75 = .ok (.sipush 324, 3) := by decide +kernel
theorem dX5_back_78 : decode cX5_back 78 = .ok (.if_icmp .ge 26, 3) := by decide +kernel
theorem dX5_back_81 : decode cX5_back 81 = .ok (.aload_n 0, 1) := by decide +kernel
theorem dX5_back_82 : decode cX5_back 82 = .ok (.getfield 22, 3) := by decide +kernel
theorem dX5_back_85 : decode cX5_back 85 = .ok (.iload_n 3, 1) := by decide +kernel
theorem dX5_back_86 : decode cX5_back 86 = .ok (.aload_n 0, 1) := by decide +kernel
theorem dX5_back_87 : decode cX5_back 87 = .ok (.getfield 31, 3) := by decide +kernel
theorem dX5_back_90 : decode cX5_back 90 = .ok (.iload_n 2, 1) := by decide +kernel
theorem dX5_back_91 : decode cX5_back 91 = .ok (.bipush 29, 2) := by decide +kernel
theorem dX5_back_93 : decode cX5_back 93 = .ok (.iadd, 1) := by decide +kernel
theorem dX5_back_94 : decode cX5_back 94 = .ok (.iload_n 3, 1) := by decide +kernel
theorem dX5_back_95 : decode cX5_back 95 = .ok (.iadd, 1) := by decide +kernel
theorem dX5_back_96 : decode cX5_back 96 = .ok (.iaload, 1) := by decide +kernel
theorem dX5_back_97 : decode cX5_back 97 = .ok (.iastore, 1) := by decide +kernel
theorem dX5_back_98 : decode cX5_back 98 = .ok (.iinc 3 1, 3) := by decide +kernel
theorem dX5_back_101 : decode cX5_back 101 = .ok (.goto (-27), 3) := by decide +kernel
theorem dX5_back_104 : decode cX5_back 104 = .ok (.aload_n 0, 1) := by decide +kernel
theorem dX5_back_105 : decode cX5_back 105 = .ok (.getfield 19, 3) := by decide +kernel
theorem dX5_back_108 : decode cX5_back 108 = .ok (.iconst 0, 1) := by decide +kernel
theorem dX5_back_109 : decode cX5_back 109 = .ok (.iaload, 1) := by decide +kernel
theorem dX5_back_110 : decode cX5_back 110 = .ok (.ireturn, 1) := by decide +kernel
theorem dX5_count_0 : decode cX5_count 0 = .ok (.iload_n 1, 1) := by decide +kernel
theorem dX5_count_1 : decode cX5_count 1 = .ok (.tableswitch 66 0 5 #[39, 39, 46, 51, 56, 61], 39) := by decide +kernel
theorem dX5_count_40 : decode cX5_count 40 = .ok (.aload_n 0, 1) := by decide +kernel
theorem dX5_count_41 : decode cX5_count 41 = .ok (.getfield 16, 3) := by decide +kernel
theorem dX5_count_44 : decode cX5_count 44 = .ok (.iload_n 1, 1) := by decide +kernel
theorem dX5_count_45 : decode cX5_count 45 = .ok (.iaload, 1) := by decide +kernel
theorem dX5_count_46 : decode cX5_count 46 = .ok (.ireturn, 1) := by decide +kernel
theorem dX5_count_47 : decode cX5_count 47 = .ok (.aload_n 0, 1) := by decide +kernel
theorem dX5_count_48 : decode cX5_count 48 = .ok (.invokevirtual 182, 3) := by decide +kernel
theorem dX5_count_51 : decode cX5_count 51 = .ok (.ireturn, 1) := by decide +kernel
theorem dX5_count_52 : decode cX5_count 52 = .ok (.aload_n 0, 1) := by decide +kernel
theorem dX5_count_53 : decode cX5_count 53 = .ok (.getfield 103, 3) := by decide +kernel
theorem dX5_count_56 : decode cX5_count 56 = .ok (.ireturn, 1) := by decide +kernel
theorem dX5_count_57 : decode cX5_count 57 = .ok (.aload_n 0, 1) := by decide +kernel
theorem dX5_count_58 : decode cX5_count 58 = .ok (.getfield 106, 3) := by decide +kernel
theorem dX5_count_61 : decode cX5_count 61 = .ok (.ireturn, 1) := by decide +kernel
theorem dX5_count_62 : decode cX5_count 62 = .ok (.aload_n 0, 1) := by decide +kernel
theorem dX5_count_63 : decode cX5_count 63 = .ok (.getfield 46, 3) := by decide +kernel
theorem dX5_count_66 : decode cX5_count 66 = .ok (.ireturn, 1) := by decide +kernel
theorem dX5_count_67 : decode cX5_count 67 = .ok (.iconst (-1), 1) := by decide +kernel
theorem dX5_count_68 : decode cX5_count 68 = .ok (.ireturn, 1) := by decide +kernel
