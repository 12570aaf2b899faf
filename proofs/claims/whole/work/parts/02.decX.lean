theorem dX4_init_0 : decode cX4_init 0 = .ok (.aload_n 0, 1) := by decide +kernel
theorem dX4_init_1 : decode cX4_init 1 = .ok (.invokespecial 1, 3) := by decide +kernel
theorem dX4_init_4 : decode cX4_init 4 = .ok (.aload_n 0, 1) := by decide +kernel
theorem dX4_init_5 : decode cX4_init 5 = .ok (.bipush 120, 2) := by decide +kernel
theorem dX4_init_7 : decode cX4_init 7 = .ok (.newarray .char, 2) := by decide +kernel
theorem dX4_init_9 : decode cX4_init 9 = .ok (.putfield 9, 3) := by decide +kernel
theorem dX4_init_12 : decode cX4_init 12 = .ok (.aload_n 0, 1) := by decide +kernel
theorem dX4_init_13 : decode cX4_init 13 = .ok (.new 13, 3) := by decide +kernel
theorem dX4_init_16 : decode cX4_init 16 = .ok (.dup, 1) := by decide +kernel
theorem dX4_init_17 : decode cX4_init 17 = .ok (.invokespecial 15, 3) := by decide +kernel
theorem dX4_init_20 : decode cX4_init 20 = .ok (.putfield 16, 3) := by decide +kernel
theorem dX4_init_23 : decode cX4_init 23 = .ok (.aload_n 0, 1) := by decide +kernel
theorem dX4_init_24 : decode cX4_init 24 = .ok (.new 20, 3) := by decide +kernel
theorem dX4_init_27 : decode cX4_init 27 = .ok (.dup, 1) := by decide +kernel
theorem dX4_init_28 : decode cX4_init 28 = .ok (.invokespecial 22, 3) := by decide +kernel
theorem dX4_init_31 : decode cX4_init 31 = .ok (.putfield 23, 3) := by decide +kernel
theorem dX4_init_34 : decode cX4_init 34 = .ok (.aload_n 0, 1) := by decide +kernel
theorem dX4_init_35 : decode cX4_init 35 = .ok (.new 27, 3) := by decide +kernel
theorem dX4_init_38 : decode cX4_init 38 = .ok (.dup, 1) := by decide +kernel
theorem dX4_init_39 : decode cX4_init 39 = .ok (.invokespecial 29, 3) := by decide +kernel
theorem dX4_init_42 : decode cX4_init 42 = .ok (.putfield 30, 3) := by decide +kernel
theorem dX4_init_45 : decode cX4_init 45 = .ok (.aload_n 0, 1) := by decide +kernel
theorem dX4_init_46 : decode cX4_init 46 = .ok (.new 34, 3) := by decide +kernel
theorem dX4_init_49 : decode cX4_init 49 = .ok (.dup, 1) := by decide +kernel
theorem dX4_init_50 : decode cX4_init 50 = .ok (.aload_n 0, 1) := by decide +kernel
theorem dX4_init_51 : decode cX4_init 51 = .ok (.getfield 16, 3) := by decide +kernel
theorem dX4_init_54 : decode cX4_init 54 = .ok (.invokespecial 36, 3) := by decide +kernel
theorem dX4_init_57 : decode cX4_init 57 = .ok (.putfield 39, 3) := by decide +kernel
theorem dX4_init_60 : decode cX4_init 60 = .ok (.aload_n 0, 1) := by decide +kernel
theorem dX4_init_61 : decode cX4_init 61 = .ok (.iconst 2, 1) := by decide +kernel
theorem dX4_init_62 : decode cX4_init 62 = .ok (.anewarray 34, 3) := by decide +kernel
theorem dX4_init_65 : decode cX4_init 65 = .ok (.dup, 1) := by decide +kernel
theorem dX4_init_66 : decode cX4_init 66 = .ok (.iconst 0, 1) := by decide +kernel
theorem dX4_init_67 : decode cX4_init 67 = .ok (.new 34, 3) := by decide +kernel
theorem dX4_init_70 : decode cX4_init 70 = .ok (.dup, 1) := by decide +kernel
theorem dX4_init_71 : decode cX4_init 71 = .ok (.aload_n 0, 1) := by decide +kernel
theorem dX4_init_72 : decode cX4_init 72 = .ok (.getfield 16, 3) := by decide +kernel
theorem dX4_init_75 : decode cX4_init 75 = .ok (.invokespecial 36, 3) := by decide +kernel
theorem dX4_init_78 : decode cX4_init 78 = .ok (.aastore, 1) := by decide +kernel
theorem dX4_init_79 : decode cX4_init 79 = .ok (.dup, 1) := by decide +kernel
theorem dX4_init_80 : decode cX4_init 80 = .ok (.iconst 1, 1) := by decide +kernel
theorem dX4_init_81 : decode cX4_init 81 = .ok (.new 34, 3) := by decide +kernel
theorem dX4_init_84 : decode cX4_init 84 = .ok (.dup, 1) := by decide +kernel
theorem dX4_init_85 : decode cX4_init 85 = .ok (.aload_n 0, 1) := by decide +kernel
theorem dX4_init_86 : decode cX4_init 86 = .ok (.getfield 16, 3) := by decide +kernel
theorem dX4_init_89 : decode cX4_init 89 = .ok (.invokespecial 36, 3) := by decide +kernel
theorem dX4_init_92 : decode cX4_init 92 = .ok (.aastore, 1) := by decide +kernel
theorem dX4_init_93 : decode cX4_init 93 = .ok (.putfield 43, 3) := by decide +kernel
theorem dX4_init_96 : decode cX4_init 96 = .ok (.aload_n 0, 1) := by decide +kernel
theorem dX4_init_97 : decode cX4_init 97 = .ok (.iconst 2, 1) := by decide +kernel
theorem dX4_init_98 : decode cX4_init 98 = .ok (.newarray .boolean, 2) := by decide +kernel
theorem dX4_init_100 : decode cX4_init 100 = .ok (.putfield 47, 3) := by decide +kernel
theorem dX4_init_103 : decode cX4_init 103 = .ok (.aload_n 0, 1) := by decide +kernel
theorem dX4_init_104 : decode cX4_init 104 = .ok (.bipush 6, 2) := by decide +kernel
theorem dX4_init_106 : decode cX4_init 106 = .ok (.newarray .int, 2) := by decide +kernel
theorem dX4_init_108 : decode cX4_init 108 = .ok (.putfield 51, 3) := by decide +kernel
theorem dX4_init_111 : decode cX4_init 111 = .ok (.aload_n 0, 1) := by decide +kernel
theorem dX4_init_112 : decode cX4_init 112 = .ok (.bipush 6, 2) := by decide +kernel
theorem dX4_init_114 : decode cX4_init 114 = .ok (.newarray .int, 2) := by decide +kernel
theorem dX4_init_116 : decode cX4_init 116 = .ok (.putfield 55, 3) := by decide +kernel
theorem dX4_init_119 : decode cX4_init 119 = .ok (.aload_n 0, 1) := by decide +kernel
theorem dX4_init_120 : decode cX4_init 120 = .ok (.getfield 30, 3) := by decide +kernel
theorem dX4_init_123 : decode cX4_init 123 = .ok (.aload_n 0, 1) := by decide +kernel
theorem dX4_init_124 : decode cX4_init 124 = .ok (.getfield 16, 3) := by decide +kernel
theorem dX4_init_127 : decode cX4_init 127 = .ok (.invokevirtual 58, 3) := by decide +kernel
theorem dX4_init_130 : decode cX4_init 130 = .ok (.return_, 1) := by decide +kernel
theorem dX4_type_0 : decode cX4_type 0 = .ok (.iload_n 1, 1) := by decide +kernel
theorem dX4_type_1 : decode cX4_type 1 = .ok (.ifCond .lt 10, 3) := by decide +kernel
theorem dX4_type_4 : decode cX4_type 4 = .ok (.iload_n 1, 1) := by decide +kernel
theorem dX4_type_5 : decode cX4_type 5 = .ok (.sipush 255, 3) := by decide +kernel
theorem dX4_type_8 : decode cX4_type 8 = .ok (.if_icmp .le 5, 3) := by decide +kernel
theorem dX4_type_11 : decode cX4_type 11 = .ok (.iconst (-1), 1) := by decide +kernel
theorem dX4_type_12 : decode cX4_type 12 = .ok (.ireturn, 1) := by decide +kernel
theorem dX4_type_13 : decode cX4_type 13 = .ok (.aload_n 0, 1) := by decide +kernel
theorem dX4_type_14 : decode cX4_type 14 = .ok (.getfield 61, 3) := by decide +kernel
theorem dX4_type_17 : decode cX4_type 17 = .ok (.bipush 120, 2) := by decide +kernel
theorem dX4_type_19 : decode cX4_type 19 = .ok (.if_icmp .lt 6, 3) := by decide +kernel
theorem dX4_type_22 : decode cX4_type 22 = .ok (.bipush (-3), 2) := by decide +kernel
theorem dX4_type_24 : decode cX4_type 24 = .ok (.ireturn, 1) := by decide +kernel
theorem dX4_type_25 : decode cX4_type 25 = .ok (.aload_n 0, 1) := by decide +kernel
theorem dX4_type_26 : decode cX4_type 26 = .ok (.getfield 9, 3) := by decide +kernel
theorem dX4_type_29 : decode cX4_type 29 = .ok (.aload_n 0, 1) := by decide +kernel
theorem dX4_type_30 : decode cX4_type 30 = .ok (.getfield 61, 3) := by decide +kernel
theorem dX4_type_33 : decode cX4_type 33 = .ok (.iload_n 1, 1) := by decide +kernel
theorem dX4_type_34 : decode cX4_type 34 = .ok (.i2c, 1) := by decide +kernel
theorem dX4_type_35 : decode cX4_type 35 = .ok (.castore, 1) := by decide +kernel
theorem dX4_type_36 : decode cX4_type 36 = .ok (.aload_n 0, 1) := by decide +kernel
theorem dX4_type_37 : decode cX4_type 37 = .ok (.dup, 1) := by decide +kernel
theorem dX4_type_38 : decode cX4_type 38 = .ok (.getfield 61, 3) := by decide +kernel
theorem dX4_type_41 : decode cX4_type 41 = .ok (.iconst 1, 1) := by decide +kernel
theorem dX4_type_42 : decode cX4_type 42 = .ok (.iadd, 1) := by decide +kernel
theorem dX4_type_43 : decode cX4_type 43 = .ok (.putfield 61, 3) := by decide +kernel
theorem dX4_type_46 : decode cX4_type 46 = .ok (.aload_n 0, 1) := by decide +kernel
theorem dX4_type_47 : decode cX4_type 47 = .ok (.getfield 61, 3) := by decide +kernel
theorem dX4_type_50 : decode cX4_type 50 = .ok (.ireturn, 1) := by decide +kernel
theorem dX4_clear_0 : decode cX4_clear 0 = .ok (.aload_n 0, 1) := by decide +kernel
theorem dX4_clear_1 : decode cX4_clear 1 = .ok (.getfield 61, 3) := by decide +kernel
theorem dX4_clear_4 : decode cX4_clear 4 = .ok (.istore_n 1, 1) := by decide +kernel
theorem dX4_clear_5 : decode cX4_clear 5 = .ok (.aload_n 0, 1) := by decide +kernel
theorem dX4_clear_6 : decode cX4_clear 6 = .ok (.iconst 0, 1) := by decide +kernel
theorem dX4_clear_7 : decode cX4_clear 7 = .ok (.putfield 61, 3) := by decide +kernel
theorem dX4_clear_10 : decode cX4_clear 10 = .ok (.iload_n 1, 1) := by decide +kernel
theorem dX4_clear_11 : decode cX4_clear 11 = .ok (.ireturn, 1) := by decide +kernel
theorem dX4_harbour_0 : decode cX4_harbour 0 = .ok (.aload_n 0, 1) := by decide +kernel
theorem dX4_harbour_1 : decode cX4_harbour 1 = .ok (.getfield 23, 3) := by decide +kernel
theorem dX4_harbour_4 : decode cX4_harbour 4 = .ok (.aload_n 0, 1) := by decide +kernel
theorem dX4_harbour_5 : decode cX4_harbour 5 = .ok (.getfield 9, 3) := by decide +kernel
theorem dX4_harbour_8 : decode cX4_harbour 8 = .ok (.aload_n 0, 1) := by decide +kernel
theorem dX4_harbour_9 : decode cX4_harbour 9 = .ok (.getfield 61, 3) := by decide +kernel
theorem dX4_harbour_12 : decode cX4_harbour 12 = .ok (.invokevirtual 65, 3) := by decide +kernel
theorem dX4_harbour_15 : decode cX4_harbour 15 = .ok (.istore_n 1, 1) := by decide +kernel
theorem dX4_harbour_16 : decode cX4_harbour 16 = .ok (.aload_n 0, 1) := by decide +kernel
theorem dX4_harbour_17 : decode cX4_harbour 17 = .ok (.getfield 23, 3) := by decide +kernel
theorem dX4_harbour_20 : decode cX4_harbour 20 = .ok (.getfield 69, 3) := by decide +kernel
theorem dX4_harbour_23 : decode cX4_harbour 23 = .ok (.bipush (-9), 2) := by decide +kernel
theorem dX4_harbour_25 : decode cX4_harbour 25 = .ok (.if_icmp .eq 14, 3) := by decide +kernel
theorem dX4_harbour_28 : decode cX4_harbour 28 = .ok (.bipush (-10), 2) := by decide +kernel
theorem dX4_harbour_30 : decode cX4_harbour 30 = .ok (.aload_n 0, 1) := by decide +kernel
theorem dX4_harbour_31 : decode cX4_harbour 31 = .ok (.getfield 23, 3) := by decide +kernel
theorem dX4_harbour_34 : decode cX4_harbour 34 = .ok (.getfield 69, 3) := by decide +kernel
theorem dX4_harbour_37 : decode cX4_harbour 37 = .ok (.isub, 1) := by decide +kernel
theorem dX4_harbour_38 : decode cX4_harbour 38 = .ok (.ireturn, 1) := by decide +kernel
theorem dX4_harbour_39 : decode cX4_harbour 39 = .ok (.aload_n 0, 1) := by decide +kernel
theorem dX4_harbour_40 : decode cX4_harbour 40 = .ok (.getfield 16, 3) := by decide +kernel
theorem dX4_harbour_43 : decode cX4_harbour 43 = .ok (.aload_n 0, 1) := by decide +kernel
theorem dX4_harbour_44 : decode cX4_harbour 44 = .ok (.getfield 23, 3) := by decide +kernel
theorem dX4_harbour_47 : decode cX4_harbour 47 = .ok (.getfield 72, 3) := by decide +kernel
theorem dX4_harbour_50 : decode cX4_harbour 50 = .ok (.invokevirtual 75, 3) := by decide +kernel
theorem dX4_harbour_53 : decode cX4_harbour 53 = .ok (.aload_n 0, 1) := by decide +kernel
theorem dX4_harbour_54 : decode cX4_harbour 54 = .ok (.getfield 30, 3) := by decide +kernel
theorem dX4_harbour_57 : decode cX4_harbour 57 = .ok (.aload_n 0, 1) := by decide +kernel
theorem dX4_harbour_58 : decode cX4_harbour 58 = .ok (.getfield 16, 3) := by decide +kernel
theorem dX4_harbour_61 : decode cX4_harbour 61 = .ok (.invokevirtual 58, 3) := by decide +kernel
theorem dX4_harbour_64 : decode cX4_harbour 64 = .ok (.aload_n 0, 1) := by decide +kernel
theorem dX4_harbour_65 : decode cX4_harbour 65 = .ok (.getfield 39, 3) := by decide +kernel
theorem dX4_harbour_68 : decode cX4_harbour 68 = .ok (.invokevirtual 78, 3) := by decide +kernel
theorem dX4_harbour_71 : decode cX4_harbour 71 = .ok (.iconst 0, 1) := by decide +kernel
theorem dX4_harbour_72 : decode cX4_harbour 72 = .ok (.istore_n 2, 1) := by decide +kernel
theorem dX4_harbour_73 : decode cX4_harbour 73 = .ok (.iload_n 2, 1) := by decide +kernel
theorem dX4_harbour_74 : decode cX4_harbour 74 = .ok (.iconst 2, 1) := by decide +kernel
theorem dX4_harbour_75 : decode cX4_harbour 75 = .ok (.if_icmp .ge 16, 3) := by decide +kernel
theorem dX4_harbour_78 : decode cX4_harbour 78 = .ok (.aload_n 0, 1) := by decide +kernel
theorem dX4_harbour_79 : decode cX4_harbour 79 = .ok (.getfield 47, 3) := by decide +kernel
theorem dX4_harbour_82 : decode cX4_harbour 82 = .ok (.iload_n 2, 1) := by decide +kernel
theorem dX4_harbour_83 : decode cX4_harbour 83 = .ok (.iconst 0, 1) := by decide +kernel
theorem dX4_harbour_84 : decode cX4_harbour 84 = .ok (.bastore, 1) := by decide +kernel
theorem dX4_harbour_85 : decode cX4_harbour 85 = .ok (.iinc 2 1, 3) := by decide +kernel
theorem dX4_harbour_88 : decode cX4_harbour 88 = .ok (.goto (-15), 3) := by decide +kernel
theorem dX4_harbour_91 : decode cX4_harbour 91 = .ok (.aload_n 0, 1) := by decide +kernel
theorem dX4_harbour_92 : decode cX4_harbour 92 = .ok (.iconst 0, 1) := by decide +kernel
theorem dX4_harbour_93 : decode cX4_harbour 93 = .ok (.putfield 81, 3) := by decide +kernel
theorem dX4_harbour_96 : decode cX4_harbour 96 = .ok (.aload_n 0, 1) := by decide +kernel
theorem dX4_harbour_97 : decode cX4_harbour 97 = .ok (.iconst 0, 1) := by decide +kernel
theorem dX4_harbour_98 : decode cX4_harbour 98 = .ok (.putfield 61, 3) := by decide +kernel
theorem dX4_harbour_101 : decode cX4_harbour 101 = .ok (.iload_n 1, 1) := by decide +kernel
theorem dX4_harbour_102 : decode cX4_harbour 102 = .ok (.ireturn, 1) := by decide +kernel
theorem dX4_die_0 : decode cX4_die 0 = .ok (.iload_n 1, 1) := by decide +kernel
theorem dX4_die_1 : decode cX4_die 1 = .ok (.invokestatic 84, 3) := by decide +kernel
theorem dX4_die_4 : decode cX4_die 4 = .ok (.ifCond .eq 21, 3) := by decide +kernel
theorem dX4_die_7 : decode cX4_die 7 = .ok (.iload_n 2, 1) := by decide +kernel
theorem dX4_die_8 : decode cX4_die 8 = .ok (.iconst (-1), 1) := by decide +kernel
theorem dX4_die_9 : decode cX4_die 9 = .ok (.if_icmp .lt 16, 3) := by decide +kernel
theorem dX4_die_12 : decode cX4_die 12 = .ok (.iload_n 2, 1) := by decide +kernel
theorem dX4_die_13 : decode cX4_die 13 = .ok (.aload_n 0, 1) := by decide +kernel
theorem dX4_die_14 : decode cX4_die 14 = .ok (.getfield 16, 3) := by decide +kernel
theorem dX4_die_17 : decode cX4_die 17 = .ok (.getfield 88, 3) := by decide +kernel
theorem dX4_die_20 : decode cX4_die 20 = .ok (.iload_n 1, 1) := by decide +kernel
theorem dX4_die_21 : decode cX4_die 21 = .ok (.iaload, 1) := by decide +kernel
theorem dX4_die_22 : decode cX4_die 22 = .ok (.if_icmp .lt 5, 3) := by decide +kernel
theorem dX4_die_25 : decode cX4_die 25 = .ok (.iconst (-1), 1) := by decide +kernel
theorem dX4_die_26 : decode cX4_die 26 = .ok (.ireturn, 1) := by decide +kernel
theorem dX4_die_27 : decode cX4_die 27 = .ok (.iload_n 2, 1) := by decide +kernel
theorem dX4_die_28 : decode cX4_die 28 = .ok (.iconst (-1), 1) := by decide +kernel
theorem dX4_die_29 : decode cX4_die 29 = .ok (.if_icmp .ne 15, 3) := by decide +kernel
theorem dX4_die_32 : decode cX4_die 32 = .ok (.aload_n 0, 1) := by decide +kernel
theorem dX4_die_33 : decode cX4_die 33 = .ok (.getfield 16, 3) := by decide +kernel
theorem dX4_die_36 : decode cX4_die 36 = .ok (.getfield 88, 3) := by decide +kernel
theorem dX4_die_39 : decode cX4_die 39 = .ok (.iload_n 1, 1) := by decide +kernel
theorem dX4_die_40 : decode cX4_die 40 = .ok (.iaload, 1) := by decide +kernel
theorem dX4_die_41 : decode cX4_die 41 = .ok (.goto 12, 3) := by decide +kernel
theorem dX4_die_44 : decode cX4_die 44 = .ok (.aload_n 0, 1) := by decide +kernel
theorem dX4_die_45 : decode cX4_die 45 = .ok (.getfield 16, 3) := by decide +kernel
theorem dX4_die_48 : decode cX4_die 48 = .ok (.iload_n 1, 1) := by decide +kernel
theorem dX4_die_49 : decode cX4_die 49 = .ok (.iload_n 2, 1) := by decide +kernel
theorem dX4_die_50 : decode cX4_die 50 = .ok (.invokevirtual 91, 3) := by decide +kernel
theorem dX4_die_53 : decode cX4_die 53 = .ok (.ireturn, 1) := by decide +kernel
theorem dX4_berth_0 : decode cX4_berth 0 = .ok (.aload_n 0, 1) := by decide +kernel
theorem dX4_berth_1 : decode cX4_berth 1 = .ok (.iload_n 1, 1) := by decide +kernel
theorem dX4_berth_2 : decode cX4_berth 2 = .ok (.invokevirtual 95, 3) := by decide +kernel
theorem dX4_berth_5 : decode cX4_berth 5 = .ok (.ifCond .eq 14, 3) := by decide +kernel
theorem dX4_berth_8 : decode cX4_berth 8 = .ok (.aload_n 0, 1) := by decide +kernel
theorem dX4_berth_9 : decode cX4_berth 9 = .ok (.getfield 39, 3) := by decide +kernel
theorem dX4_berth_12 : decode cX4_berth 12 = .ok (.iload_n 1, 1) := by decide +kernel
theorem dX4_berth_13 : decode cX4_berth 13 = .ok (.invokevirtual 98, 3) := by decide +kernel
theorem dX4_berth_16 : decode cX4_berth 16 = .ok (.goto 4, 3) := by decide +kernel
theorem dX4_berth_19 : decode cX4_berth 19 = .ok (.iconst (-1), 1) := by decide +kernel
theorem dX4_berth_20 : decode cX4_berth 20 = .ok (.ireturn, 1) := by decide +kernel
theorem dX4_player_0 : decode cX4_player 0 = .ok (.iload_n 1, 1) := by decide +kernel
theorem dX4_player_1 : decode cX4_player 1 = .ok (.ifCond .lt 8, 3) := by decide +kernel
theorem dX4_player_4 : decode cX4_player 4 = .ok (.iload_n 1, 1) := by decide +kernel
theorem dX4_player_5 : decode cX4_player 5 = .ok (.iconst 2, 1) := by decide +kernel
theorem dX4_player_6 : decode cX4_player 6 = .ok (.if_icmp .lt 5, 3) := by decide +kernel
theorem dX4_player_9 : decode cX4_player 9 = .ok (.iconst (-1), 1) := by decide +kernel
theorem dX4_player_10 : decode cX4_player 10 = .ok (.ireturn, 1) := by decide +kernel
theorem dX4_player_11 : decode cX4_player 11 = .ok (.iload_n 2, 1) := by decide +kernel
theorem dX4_player_12 : decode cX4_player 12 = .ok (.tableswitch 73 0 3 #[32, 41, 50, 67], 32) := by decide +kernel
theorem dX4_player_44 : decode cX4_player 44 = .ok (.aload_n 0, 1) := by decide +kernel
theorem dX4_player_45 : decode cX4_player 45 = .ok (.getfield 39, 3) := by decide +kernel
theorem dX4_player_48 : decode cX4_player 48 = .ok (.iload_n 1, 1) := by decide +kernel
theorem dX4_player_49 : decode cX4_player 49 = .ok (.invokevirtual 102, 3) := by decide +kernel
theorem dX4_player_52 : decode cX4_player 52 = .ok (.ireturn, 1) := by decide +kernel
theorem dX4_player_53 : decode cX4_player 53 = .ok (.aload_n 0, 1) := by decide +kernel
theorem dX4_player_54 : decode cX4_player 54 = .ok (.getfield 39, 3) := by decide +kernel
theorem dX4_player_57 : decode cX4_player 57 = .ok (.iload_n 1, 1) := by decide +kernel
theorem dX4_player_58 : decode cX4_player 58 = .ok (.invokevirtual 105, 3) := by decide +kernel
theorem dX4_player_61 : decode cX4_player 61 = .ok (.ireturn, 1) := by decide +kernel
theorem dX4_player_62 : decode cX4_player 62 = .ok (.aload_n 0, 1) := by decide +kernel
theorem dX4_player_63 : decode cX4_player 63 = .ok (.getfield 39, 3) := by decide +kernel
theorem dX4_player_66 : decode cX4_player 66 = .ok (.iload_n 1, 1) := by decide +kernel
theorem dX4_player_67 : decode cX4_player 67 = .ok (.invokevirtual 108, 3) := by decide +kernel
theorem dX4_player_70 : decode cX4_player 70 = .ok (.ifCond .eq 7, 3) := by decide +kernel
theorem dX4_player_73 : decode cX4_player 73 = .ok (.iconst 1, 1) := by decide +kernel
theorem dX4_player_74 : decode cX4_player 74 = .ok (.goto 4, 3) := by decide +kernel
theorem dX4_player_77 : decode cX4_player 77 = .ok (.iconst 0, 1) := by decide +kernel
theorem dX4_player_78 : decode cX4_player 78 = .ok (.ireturn, 1) := by decide +kernel
theorem dX4_player_79 : decode cX4_player 79 = .ok (.aload_n 0, 1) := by decide +kernel
theorem dX4_player_80 : decode cX4_player 80 = .ok (.iload_n 1, 1) := by decide +kernel
theorem dX4_player_81 : decode cX4_player 81 = .ok (.invokevirtual 111, 3) := by decide +kernel
theorem dX4_player_84 : decode cX4_player 84 = .ok (.ireturn, 1) := by decide +kernel
theorem dX4_player_85 : decode cX4_player 85 = .ok (.iconst (-1), 1) := by decide +kernel
theorem dX4_player_86 : decode cX4_player 86 = .ok (.ireturn, 1) := by decide +kernel
theorem dX4_throwsDice_0 : decode cX4_throwsDice 0 = .ok (.aload_n 0, 1) := by decide +kernel
theorem dX4_throwsDice_1 : decode cX4_throwsDice 1 = .ok (.getfield 16, 3) := by decide +kernel
theorem dX4_throwsDice_4 : decode cX4_throwsDice 4 = .ok (.iconst 0, 1) := by decide +kernel
theorem dX4_throwsDice_5 : decode cX4_throwsDice 5 = .ok (.iload_n 1, 1) := by decide +kernel
theorem dX4_throwsDice_6 : decode cX4_throwsDice 6 = .ok (.invokevirtual 114, 3) := by decide +kernel
theorem dX4_throwsDice_9 : decode cX4_throwsDice 9 = .ok (.ifCond .eq 27, 3) := by decide +kernel
theorem dX4_throwsDice_12 : decode cX4_throwsDice 12 = .ok (.aload_n 0, 1) := by decide +kernel
theorem dX4_throwsDice_13 : decode cX4_throwsDice 13 = .ok (.getfield 16, 3) := by decide +kernel
theorem dX4_throwsDice_16 : decode cX4_throwsDice 16 = .ok (.iconst 1, 1) := by decide +kernel
theorem dX4_throwsDice_17 : decode cX4_throwsDice 17 = .ok (.iload_n 2, 1) := by decide +kernel
theorem dX4_throwsDice_18 : decode cX4_throwsDice 18 = .ok (.invokevirtual 114, 3) := by decide +kernel
theorem dX4_throwsDice_21 : decode cX4_throwsDice 21 = .ok (.ifCond .eq 15, 3) := by decide +kernel
theorem dX4_throwsDice_24 : decode cX4_throwsDice 24 = .ok (.aload_n 0, 1) := by decide +kernel
theorem dX4_throwsDice_25 : decode cX4_throwsDice 25 = .ok (.getfield 16, 3) := by decide +kernel
theorem dX4_throwsDice_28 : decode cX4_throwsDice 28 = .ok (.iconst 2, 1) := by decide +kernel
theorem dX4_throwsDice_29 : decode cX4_throwsDice 29 = .ok (.iload_n 3, 1) := by decide +kernel
theorem dX4_throwsDice_30 : decode cX4_throwsDice 30 = .ok (.invokevirtual 114, 3) := by decide +kernel
theorem dX4_throwsDice_33 : decode cX4_throwsDice 33 = .ok (.ifCond .ne 5, 3) := by decide +kernel
theorem dX4_throwsDice_36 : decode cX4_throwsDice 36 = .ok (.iconst (-1), 1) := by decide +kernel
theorem dX4_throwsDice_37 : decode cX4_throwsDice 37 = .ok (.ireturn, 1) := by decide +kernel
theorem dX4_throwsDice_38 : decode cX4_throwsDice 38 = .ok (.aload_n 0, 1) := by decide +kernel
theorem dX4_throwsDice_39 : decode cX4_throwsDice 39 = .ok (.getfield 39, 3) := by decide +kernel
theorem dX4_throwsDice_42 : decode cX4_throwsDice 42 = .ok (.invokevirtual 118, 3) := by decide +kernel
theorem dX4_throwsDice_45 : decode cX4_throwsDice 45 = .ok (.ifCond .ne 15, 3) := by decide +kernel
theorem dX4_throwsDice_48 : decode cX4_throwsDice 48 = .ok (.aload_n 0, 1) := by decide +kernel
theorem dX4_throwsDice_49 : decode cX4_throwsDice 49 = .ok (.getfield 39, 3) := by decide +kernel
theorem dX4_throwsDice_52 : decode cX4_throwsDice 52 = .ok (.invokevirtual 122, 3) := by decide +kernel
theorem dX4_throwsDice_55 : decode cX4_throwsDice 55 = .ok (.bipush (-9), 2) := by decide +kernel
theorem dX4_throwsDice_57 : decode cX4_throwsDice 57 = .ok (.if_icmp .eq 6, 3) := by decide +kernel
theorem dX4_throwsDice_60 : decode cX4_throwsDice 60 = .ok (.bipush (-2), 2) := by decide +kernel
theorem dX4_throwsDice_62 : decode cX4_throwsDice 62 = .ok (.ireturn, 1) := by decide +kernel
theorem dX4_throwsDice_63 : decode cX4_throwsDice 63 = .ok (.aload_n 0, 1) := by decide +kernel
theorem dX4_throwsDice_64 : decode cX4_throwsDice 64 = .ok (.getfield 39, 3) := by decide +kernel
theorem dX4_throwsDice_67 : decode cX4_throwsDice 67 = .ok (.iload_n 1, 1) := by decide +kernel
theorem dX4_throwsDice_68 : decode cX4_throwsDice 68 = .ok (.iload_n 2, 1) := by decide +kernel
theorem dX4_throwsDice_69 : decode cX4_throwsDice 69 = .ok (.iload_n 3, 1) := by decide +kernel
theorem dX4_throwsDice_70 : decode cX4_throwsDice 70 = .ok (.invokevirtual 126, 3) := by decide +kernel
theorem dX4_throwsDice_73 : decode cX4_throwsDice 73 = .ok (.aload_n 0, 1) := by decide +kernel
theorem dX4_throwsDice_74 : decode cX4_throwsDice 74 = .ok (.getfield 39, 3) := by decide +kernel
theorem dX4_throwsDice_77 : decode cX4_throwsDice 77 = .ok (.invokevirtual 130, 3) := by decide +kernel
theorem dX4_throwsDice_80 : decode cX4_throwsDice 80 = .ok (.ireturn, 1) := by decide +kernel
theorem dX4_takes_0 : decode cX4_takes 0 = .ok (.aload_n 0, 1) := by decide +kernel
theorem dX4_takes_1 : decode cX4_takes 1 = .ok (.iload_n 1, 1) := by decide +kernel
theorem dX4_takes_2 : decode cX4_takes 2 = .ok (.invokevirtual 95, 3) := by decide +kernel
theorem dX4_takes_5 : decode cX4_takes 5 = .ok (.ifCond .ne 5, 3) := by decide +kernel
theorem dX4_takes_8 : decode cX4_takes 8 = .ok (.iconst (-1), 1) := by decide +kernel
theorem dX4_takes_9 : decode cX4_takes 9 = .ok (.ireturn, 1) := by decide +kernel
theorem dX4_takes_10 : decode cX4_takes 10 = .ok (.aload_n 0, 1) := by decide +kernel
theorem dX4_takes_11 : decode cX4_takes 11 = .ok (.getfield 39, 3) := by decide +kernel
theorem dX4_takes_14 : decode cX4_takes 14 = .ok (.invokevirtual 122, 3) := by decide +kernel
theorem dX4_takes_17 : decode cX4_takes 17 = .ok (.bipush (-9), 2) := by decide +kernel
theorem dX4_takes_19 : decode cX4_takes 19 = .ok (.if_icmp .ne 17, 3) := by decide +kernel
theorem dX4_takes_22 : decode cX4_takes 22 = .ok (.aload_n 0, 1) := by decide +kernel
theorem dX4_takes_23 : decode cX4_takes 23 = .ok (.getfield 39, 3) := by decide +kernel
theorem dX4_takes_26 : decode cX4_takes 26 = .ok (.invokevirtual 130, 3) := by decide +kernel
theorem dX4_takes_29 : decode cX4_takes 29 = .ok (.iload_n 1, 1) := by decide +kernel
theorem dX4_takes_30 : decode cX4_takes 30 = .ok (.invokestatic 133, 3) := by decide +kernel
theorem dX4_takes_33 : decode cX4_takes 33 = .ok (.ifCond .ne 6, 3) := by decide +kernel
theorem dX4_takes_36 : decode cX4_takes 36 = .ok (.bipush (-2), 2) := by decide +kernel
theorem dX4_takes_38 : decode cX4_takes 38 = .ok (.ireturn, 1) := by decide +kernel
theorem dX4_takes_39 : decode cX4_takes 39 = .ok (.aload_n 0, 1) := by decide +kernel
theorem dX4_takes_40 : decode cX4_takes 40 = .ok (.getfield 39, 3) := by decide +kernel
theorem dX4_takes_43 : decode cX4_takes 43 = .ok (.iload_n 1, 1) := by decide +kernel
theorem dX4_takes_44 : decode cX4_takes 44 = .ok (.invokevirtual 136, 3) := by decide +kernel
theorem dX4_takes_47 : decode cX4_takes 47 = .ok (.ireturn, 1) := by decide +kernel
theorem dX4_passes_0 : decode cX4_passes 0 = .ok (.aload_n 0, 1) := by decide +kernel
theorem dX4_passes_1 : decode cX4_passes 1 = .ok (.getfield 39, 3) := by decide +kernel
theorem dX4_passes_4 : decode cX4_passes 4 = .ok (.invokevirtual 118, 3) := by decide +kernel
theorem dX4_passes_7 : decode cX4_passes 7 = .ok (.ifCond .eq 25, 3) := by decide +kernel
theorem dX4_passes_10 : decode cX4_passes 10 = .ok (.aload_n 0, 1) := by decide +kernel
theorem dX4_passes_11 : decode cX4_passes 11 = .ok (.getfield 39, 3) := by decide +kernel
theorem dX4_passes_14 : decode cX4_passes 14 = .ok (.invokevirtual 130, 3) := by decide +kernel
theorem dX4_passes_17 : decode cX4_passes 17 = .ok (.ifCond .ne 15, 3) := by decide +kernel
theorem dX4_passes_20 : decode cX4_passes 20 = .ok (.aload_n 0, 1) := by decide +kernel
theorem dX4_passes_21 : decode cX4_passes 21 = .ok (.getfield 39, 3) := by decide +kernel
theorem dX4_passes_24 : decode cX4_passes 24 = .ok (.invokevirtual 122, 3) := by decide +kernel
theorem dX4_passes_27 : decode cX4_passes 27 = .ok (.bipush (-9), 2) := by decide +kernel
theorem dX4_passes_29 : decode cX4_passes 29 = .ok (.if_icmp .eq 6, 3) := by decide +kernel
theorem dX4_passes_32 : decode cX4_passes 32 = .ok (.bipush (-2), 2) := by decide +kernel
theorem dX4_passes_34 : decode cX4_passes 34 = .ok (.ireturn, 1) := by decide +kernel
theorem dX4_passes_35 : decode cX4_passes 35 = .ok (.aload_n 0, 1) := by decide +kernel
theorem dX4_passes_36 : decode cX4_passes 36 = .ok (.getfield 39, 3) := by decide +kernel
theorem dX4_passes_39 : decode cX4_passes 39 = .ok (.invokevirtual 139, 3) := by decide +kernel
theorem dX4_passes_42 : decode cX4_passes 42 = .ok (.aload_n 0, 1) := by decide +kernel
theorem dX4_passes_43 : decode cX4_passes 43 = .ok (.getfield 39, 3) := by decide +kernel
theorem dX4_passes_46 : decode cX4_passes 46 = .ok (.invokevirtual 142, 3) := by decide +kernel
theorem dX4_passes_49 : decode cX4_passes 49 = .ok (.ireturn, 1) := by decide +kernel
theorem dX4_leaves_0 : decode cX4_leaves 0 = .ok (.aload_n 0, 1) := by decide +kernel
theorem dX4_leaves_1 : decode cX4_leaves 1 = .ok (.getfield 39, 3) := by decide +kernel
theorem dX4_leaves_4 : decode cX4_leaves 4 = .ok (.invokevirtual 118, 3) := by decide +kernel
theorem dX4_leaves_7 : decode cX4_leaves 7 = .ok (.ifCond .eq 15, 3) := by decide +kernel
theorem dX4_leaves_10 : decode cX4_leaves 10 = .ok (.aload_n 0, 1) := by decide +kernel
theorem dX4_leaves_11 : decode cX4_leaves 11 = .ok (.getfield 39, 3) := by decide +kernel
theorem dX4_leaves_14 : decode cX4_leaves 14 = .ok (.invokevirtual 122, 3) := by decide +kernel
theorem dX4_leaves_17 : decode cX4_leaves 17 = .ok (.bipush (-9), 2) := by decide +kernel
theorem dX4_leaves_19 : decode cX4_leaves 19 = .ok (.if_icmp .eq 6, 3) := by decide +kernel
theorem dX4_leaves_22 : decode cX4_leaves 22 = .ok (.bipush (-2), 2) := by decide +kernel
theorem dX4_leaves_24 : decode cX4_leaves 24 = .ok (.ireturn, 1) := by decide +kernel
theorem dX4_leaves_25 : decode cX4_leaves 25 = .ok (.aload_n 0, 1) := by decide +kernel
theorem dX4_leaves_26 : decode cX4_leaves 26 = .ok (.getfield 39, 3) := by decide +kernel
theorem dX4_leaves_29 : decode cX4_leaves 29 = .ok (.invokevirtual 145, 3) := by decide +kernel
theorem dX4_leaves_32 : decode cX4_leaves 32 = .ok (.aload_n 0, 1) := by decide +kernel
theorem dX4_leaves_33 : decode cX4_leaves 33 = .ok (.getfield 39, 3) := by decide +kernel
theorem dX4_leaves_36 : decode cX4_leaves 36 = .ok (.invokevirtual 142, 3) := by decide +kernel
theorem dX4_leaves_39 : decode cX4_leaves 39 = .ok (.ireturn, 1) := by decide +kernel
theorem dX4_undo_0 : decode cX4_undo 0 = .ok (.aload_n 0, 1) := by decide +kernel
theorem dX4_undo_1 : decode cX4_undo 1 = .ok (.getfield 39, 3) := by decide +kernel
theorem dX4_undo_4 : decode cX4_undo 4 = .ok (.getfield 148, 3) := by decide +kernel
theorem dX4_undo_7 : decode cX4_undo 7 = .ok (.ifCond .ne 6, 3) := by decide +kernel
theorem dX4_undo_10 : decode cX4_undo 10 = .ok (.bipush (-2), 2) := by decide +kernel
theorem dX4_undo_12 : decode cX4_undo 12 = .ok (.ireturn, 1) := by decide +kernel
theorem dX4_undo_13 : decode cX4_undo 13 = .ok (.aload_n 0, 1) := by decide +kernel
theorem dX4_undo_14 : decode cX4_undo 14 = .ok (.getfield 39, 3) := by decide +kernel
theorem dX4_undo_17 : decode cX4_undo 17 = .ok (.invokevirtual 151, 3) := by decide +kernel
theorem dX4_undo_20 : decode cX4_undo 20 = .ok (.aload_n 0, 1) := by decide +kernel
theorem dX4_undo_21 : decode cX4_undo 21 = .ok (.getfield 39, 3) := by decide +kernel
theorem dX4_undo_24 : decode cX4_undo 24 = .ok (.getfield 148, 3) := by decide +kernel
theorem dX4_undo_27 : decode cX4_undo 27 = .ok (.ireturn, 1) := by decide +kernel
theorem dX4_now_0 : decode cX4_now 0 = .ok (.iload_n 1, 1) := by decide +kernel
theorem dX4_now_1 : decode cX4_now 1 = .ok (.tableswitch 97 0 5 #[39, 47, 55, 63, 71, 79], 39) := by decide +kernel
theorem dX4_now_40 : decode cX4_now 40 = .ok (.aload_n 0, 1) := by decide +kernel
theorem dX4_now_41 : decode cX4_now 41 = .ok (.getfield 39, 3) := by decide +kernel
theorem dX4_now_44 : decode cX4_now 44 = .ok (.invokevirtual 142, 3) := by decide +kernel
theorem dX4_now_47 : decode cX4_now 47 = .ok (.ireturn, 1) := by decide +kernel
theorem dX4_now_48 : decode cX4_now 48 = .ok (.aload_n 0, 1) := by decide +kernel
theorem dX4_now_49 : decode cX4_now 49 = .ok (.getfield 39, 3) := by decide +kernel
theorem dX4_now_52 : decode cX4_now 52 = .ok (.invokevirtual 154, 3) := by decide +kernel
theorem dX4_now_55 : decode cX4_now 55 = .ok (.ireturn, 1) := by decide +kernel
theorem dX4_now_56 : decode cX4_now 56 = .ok (.aload_n 0, 1) := by decide +kernel
theorem dX4_now_57 : decode cX4_now 57 = .ok (.getfield 39, 3) := by decide +kernel
theorem dX4_now_60 : decode cX4_now 60 = .ok (.invokevirtual 157, 3) := by decide +kernel
theorem dX4_now_63 : decode cX4_now 63 = .ok (.ireturn, 1) := by decide +kernel
theorem dX4_now_64 : decode cX4_now 64 = .ok (.aload_n 0, 1) := by decide +kernel
theorem dX4_now_65 : decode cX4_now 65 = .ok (.getfield 39, 3) := by decide +kernel
theorem dX4_now_68 : decode cX4_now 68 = .ok (.invokevirtual 130, 3) := by decide +kernel
theorem dX4_now_71 : decode cX4_now 71 = .ok (.ireturn, 1) := by decide +kernel
theorem dX4_now_72 : decode cX4_now 72 = .ok (.aload_n 0, 1) := by decide +kernel
theorem dX4_now_73 : decode cX4_now 73 = .ok (.getfield 39, 3) := by decide +kernel
theorem dX4_now_76 : decode cX4_now 76 = .ok (.invokevirtual 122, 3) := by decide +kernel
theorem dX4_now_79 : decode cX4_now 79 = .ok (.ireturn, 1) := by decide +kernel
theorem dX4_now_80 : decode cX4_now 80 = .ok (.aload_n 0, 1) := by decide +kernel
theorem dX4_now_81 : decode cX4_now 81 = .ok (.getfield 39, 3) := by decide +kernel
theorem dX4_now_84 : decode cX4_now 84 = .ok (.iconst 0, 1) := by decide +kernel
theorem dX4_now_85 : decode cX4_now 85 = .ok (.invokevirtual 105, 3) := by decide +kernel
theorem dX4_now_88 : decode cX4_now 88 = .ok (.aload_n 0, 1) := by decide +kernel
theorem dX4_now_89 : decode cX4_now 89 = .ok (.getfield 39, 3) := by decide +kernel
theorem dX4_now_92 : decode cX4_now 92 = .ok (.iconst 1, 1) := by decide +kernel
theorem dX4_now_93 : decode cX4_now 93 = .ok (.invokevirtual 105, 3) := by decide +kernel
theorem dX4_now_96 : decode cX4_now 96 = .ok (.isub, 1) := by decide +kernel
theorem dX4_now_97 : decode cX4_now 97 = .ok (.ireturn, 1) := by decide +kernel
theorem dX4_now_98 : decode cX4_now 98 = .ok (.ldc 160, 2) := by decide +kernel
theorem dX4_now_100 : decode cX4_now 100 = .ok (.ireturn, 1) := by decide +kernel
theorem dX4_chance_0 : decode cX4_chance 0 = .ok (.aload_n 0, 1) := by decide +kernel
theorem dX4_chance_1 : decode cX4_chance 1 = .ok (.iload_n 1, 1) := by decide +kernel
theorem dX4_chance_2 : decode cX4_chance 2 = .ok (.invokevirtual 95, 3) := by decide +kernel
theorem dX4_chance_5 : decode cX4_chance 5 = .ok (.ifCond .eq 10, 3) := by decide +kernel
theorem dX4_chance_8 : decode cX4_chance 8 = .ok (.iload_n 2, 1) := by decide +kernel
theorem dX4_chance_9 : decode cX4_chance 9 = .ok (.invokestatic 161, 3) := by decide +kernel
theorem dX4_chance_12 : decode cX4_chance 12 = .ok (.ifCond .ne 5, 3) := by decide +kernel
theorem dX4_chance_15 : decode cX4_chance 15 = .ok (.iconst (-1), 1) := by decide +kernel
theorem dX4_chance_16 : decode cX4_chance 16 = .ok (.ireturn, 1) := by decide +kernel
theorem dX4_chance_17 : decode cX4_chance 17 = .ok (.aload_n 0, 1) := by decide +kernel
theorem dX4_chance_18 : decode cX4_chance 18 = .ok (.iload_n 1, 1) := by decide +kernel
theorem dX4_chance_19 : decode cX4_chance 19 = .ok (.invokevirtual 164, 3) := by decide +kernel
theorem dX4_chance_22 : decode cX4_chance 22 = .ok (.aload_n 0, 1) := by decide +kernel
theorem dX4_chance_23 : decode cX4_chance 23 = .ok (.getfield 30, 3) := by decide +kernel
theorem dX4_chance_26 : decode cX4_chance 26 = .ok (.getfield 167, 3) := by decide +kernel
theorem dX4_chance_29 : decode cX4_chance 29 = .ok (.iload_n 2, 1) := by decide +kernel
theorem dX4_chance_30 : decode cX4_chance 30 = .ok (.invokestatic 169, 3) := by decide +kernel
theorem dX4_chance_33 : decode cX4_chance 33 = .ok (.ireturn, 1) := by decide +kernel
theorem dX4_odds_0 : decode cX4_odds 0 = .ok (.iload_n 2, 1) := by decide +kernel
theorem dX4_odds_1 : decode cX4_odds 1 = .ok (.invokestatic 161, 3) := by decide +kernel
theorem dX4_odds_4 : decode cX4_odds 4 = .ok (.ifCond .ne 5, 3) := by decide +kernel
theorem dX4_odds_7 : decode cX4_odds 7 = .ok (.iconst (-1), 1) := by decide +kernel
theorem dX4_odds_8 : decode cX4_odds 8 = .ok (.ireturn, 1) := by decide +kernel
theorem dX4_odds_9 : decode cX4_odds 9 = .ok (.aload_n 0, 1) := by decide +kernel
theorem dX4_odds_10 : decode cX4_odds 10 = .ok (.getfield 30, 3) := by decide +kernel
theorem dX4_odds_13 : decode cX4_odds 13 = .ok (.aload_n 0, 1) := by decide +kernel
theorem dX4_odds_14 : decode cX4_odds 14 = .ok (.getfield 39, 3) := by decide +kernel
theorem dX4_odds_17 : decode cX4_odds 17 = .ok (.invokevirtual 173, 3) := by decide +kernel
theorem dX4_odds_20 : decode cX4_odds 20 = .ok (.aload_n 0, 1) := by decide +kernel
theorem dX4_odds_21 : decode cX4_odds 21 = .ok (.getfield 39, 3) := by decide +kernel
theorem dX4_odds_24 : decode cX4_odds 24 = .ok (.invokevirtual 154, 3) := by decide +kernel
theorem dX4_odds_27 : decode cX4_odds 27 = .ok (.invokevirtual 176, 3) := by decide +kernel
theorem dX4_odds_30 : decode cX4_odds 30 = .ok (.istore_n 3, 1) := by decide +kernel
theorem dX4_odds_31 : decode cX4_odds 31 = .ok (.iload_n 1, 1) := by decide +kernel
theorem dX4_odds_32 : decode cX4_odds 32 = .ok (.tableswitch 104 0 2 #[28, 49, 71], 28) := by decide +kernel
theorem dX4_odds_60 : decode cX4_odds 60 = .ok (.aload_n 0, 1) := by decide +kernel
theorem dX4_odds_61 : decode cX4_odds 61 = .ok (.getfield 30, 3) := by decide +kernel
theorem dX4_odds_64 : decode cX4_odds 64 = .ok (.getfield 167, 3) := by decide +kernel
theorem dX4_odds_67 : decode cX4_odds 67 = .ok (.iload_n 3, 1) := by decide +kernel
theorem dX4_odds_68 : decode cX4_odds 68 = .ok (.isub, 1) := by decide +kernel
theorem dX4_odds_69 : decode cX4_odds 69 = .ok (.aload_n 0, 1) := by decide +kernel
theorem dX4_odds_70 : decode cX4_odds 70 = .ok (.getfield 30, 3) := by decide +kernel
theorem dX4_odds_73 : decode cX4_odds 73 = .ok (.getfield 167, 3) := by decide +kernel
theorem dX4_odds_76 : decode cX4_odds 76 = .ok (.iload_n 2, 1) := by decide +kernel
theorem dX4_odds_77 : decode cX4_odds 77 = .ok (.invokestatic 169, 3) := by decide +kernel
theorem dX4_odds_80 : decode cX4_odds 80 = .ok (.ireturn, 1) := by decide +kernel
theorem dX4_odds_81 : decode cX4_odds 81 = .ok (.iload_n 3, 1) := by decide +kernel
theorem dX4_odds_82 : decode cX4_odds 82 = .ok (.ifCond .ne 8, 3) := by decide +kernel
theorem dX4_odds_85 : decode cX4_odds 85 = .ok (.bipush (-9), 2) := by decide +kernel
theorem dX4_odds_87 : decode cX4_odds 87 = .ok (.goto 15, 3) := by decide +kernel
theorem dX4_odds_90 : decode cX4_odds 90 = .ok (.aload_n 0, 1) := by decide +kernel
theorem dX4_odds_91 : decode cX4_odds 91 = .ok (.getfield 30, 3) := by decide +kernel
theorem dX4_odds_94 : decode cX4_odds 94 = .ok (.getfield 167, 3) := by decide +kernel
theorem dX4_odds_97 : decode cX4_odds 97 = .ok (.iload_n 3, 1) := by decide +kernel
theorem dX4_odds_98 : decode cX4_odds 98 = .ok (.iload_n 2, 1) := by decide +kernel
theorem dX4_odds_99 : decode cX4_odds 99 = .ok (.invokestatic 169, 3) := by decide +kernel
theorem dX4_odds_102 : decode cX4_odds 102 = .ok (.ireturn, 1) := by decide +kernel
theorem dX4_odds_103 : decode cX4_odds 103 = .ok (.aload_n 0, 1) := by decide +kernel
theorem dX4_odds_104 : decode cX4_odds 104 = .ok (.getfield 30, 3) := by decide +kernel
theorem dX4_odds_107 : decode cX4_odds 107 = .ok (.aload_n 0, 1) := by decide +kernel
theorem dX4_odds_108 : decode cX4_odds 108 = .ok (.getfield 39, 3) := by decide +kernel
theorem dX4_odds_111 : decode cX4_odds 111 = .ok (.invokevirtual 173, 3) := by decide +kernel
theorem dX4_odds_114 : decode cX4_odds 114 = .ok (.aload_n 0, 1) := by decide +kernel
theorem dX4_odds_115 : decode cX4_odds 115 = .ok (.getfield 39, 3) := by decide +kernel
theorem dX4_odds_118 : decode cX4_odds 118 = .ok (.invokevirtual 154, 3) := by decide +kernel
theorem dX4_odds_121 : decode cX4_odds 121 = .ok (.invokevirtual 179, 3) := by decide +kernel
theorem dX4_odds_124 : decode cX4_odds 124 = .ok (.aload_n 0, 1) := by decide +kernel
theorem dX4_odds_125 : decode cX4_odds 125 = .ok (.getfield 30, 3) := by decide +kernel
theorem dX4_odds_128 : decode cX4_odds 128 = .ok (.getfield 167, 3) := by decide +kernel
theorem dX4_odds_131 : decode cX4_odds 131 = .ok (.iload_n 2, 1) := by decide +kernel
theorem dX4_odds_132 : decode cX4_odds 132 = .ok (.invokestatic 169, 3) := by decide +kernel
theorem dX4_odds_135 : decode cX4_odds 135 = .ok (.ireturn, 1) := by decide +kernel
theorem dX4_odds_136 : decode cX4_odds 136 = .ok (.iconst (-1), 1) := by decide +kernel
theorem dX4_odds_137 : decode cX4_odds 137 = .ok (.ireturn, 1) := by decide +kernel
theorem dX4_wise_0 : decode cX4_wise 0 = .ok (.iload_n 1, 1) := by decide +kernel
theorem dX4_wise_1 : decode cX4_wise 1 = .ok (.invokestatic 161, 3) := by decide +kernel
theorem dX4_wise_4 : decode cX4_wise 4 = .ok (.ifCond .ne 5, 3) := by decide +kernel
theorem dX4_wise_7 : decode cX4_wise 7 = .ok (.iconst (-1), 1) := by decide +kernel
theorem dX4_wise_8 : decode cX4_wise 8 = .ok (.ireturn, 1) := by decide +kernel
theorem dX4_wise_9 : decode cX4_wise 9 = .ok (.aload_n 0, 1) := by decide +kernel
theorem dX4_wise_10 : decode cX4_wise 10 = .ok (.getfield 39, 3) := by decide +kernel
theorem dX4_wise_13 : decode cX4_wise 13 = .ok (.invokevirtual 130, 3) := by decide +kernel
theorem dX4_wise_16 : decode cX4_wise 16 = .ok (.istore_n 2, 1) := by decide +kernel
theorem dX4_wise_17 : decode cX4_wise 17 = .ok (.bipush (-9), 2) := by decide +kernel
theorem dX4_wise_19 : decode cX4_wise 19 = .ok (.istore_n 3, 1) := by decide +kernel
theorem dX4_wise_20 : decode cX4_wise 20 = .ok (.bipush (-9), 2) := by decide +kernel
theorem dX4_wise_22 : decode cX4_wise 22 = .ok (.istore 4, 2) := by decide +kernel
theorem dX4_wise_24 : decode cX4_wise 24 = .ok (.iconst 1, 1) := by decide +kernel
theorem dX4_wise_25 : decode cX4_wise 25 = .ok (.istore 5, 2) := by decide +kernel
theorem dX4_wise_27 : decode cX4_wise 27 = .ok (.iload 5, 2) := by decide +kernel
theorem dX4_wise_29 : decode cX4_wise 29 = .ok (.aload_n 0, 1) := by decide +kernel
theorem dX4_wise_30 : decode cX4_wise 30 = .ok (.getfield 16, 3) := by decide +kernel
theorem dX4_wise_33 : decode cX4_wise 33 = .ok (.getfield 182, 3) := by decide +kernel
theorem dX4_wise_36 : decode cX4_wise 36 = .ok (.if_icmp .gt 69, 3) := by decide +kernel
theorem dX4_wise_39 : decode cX4_wise 39 = .ok (.iload_n 2, 1) := by decide +kernel
theorem dX4_wise_40 : decode cX4_wise 40 = .ok (.iload 5, 2) := by decide +kernel
theorem dX4_wise_42 : decode cX4_wise 42 = .ok (.invokestatic 133, 3) := by decide +kernel
theorem dX4_wise_45 : decode cX4_wise 45 = .ok (.ifCond .eq 54, 3) := by decide +kernel
theorem dX4_wise_48 : decode cX4_wise 48 = .ok (.aload_n 0, 1) := by decide +kernel
theorem dX4_wise_49 : decode cX4_wise 49 = .ok (.getfield 30, 3) := by decide +kernel
theorem dX4_wise_52 : decode cX4_wise 52 = .ok (.aload_n 0, 1) := by decide +kernel
theorem dX4_wise_53 : decode cX4_wise 53 = .ok (.getfield 39, 3) := by decide +kernel
theorem dX4_wise_56 : decode cX4_wise 56 = .ok (.invokevirtual 173, 3) := by decide +kernel
theorem dX4_wise_59 : decode cX4_wise 59 = .ok (.iload 5, 2) := by decide +kernel
theorem dX4_wise_61 : decode cX4_wise 61 = .ok (.invokestatic 185, 3) := by decide +kernel
theorem dX4_wise_64 : decode cX4_wise 64 = .ok (.iconst (-1), 1) := by decide +kernel
theorem dX4_wise_65 : decode cX4_wise 65 = .ok (.ixor, 1) := by decide +kernel
theorem dX4_wise_66 : decode cX4_wise 66 = .ok (.iand, 1) := by decide +kernel
theorem dX4_wise_67 : decode cX4_wise 67 = .ok (.aload_n 0, 1) := by decide +kernel
theorem dX4_wise_68 : decode cX4_wise 68 = .ok (.getfield 39, 3) := by decide +kernel
theorem dX4_wise_71 : decode cX4_wise 71 = .ok (.invokevirtual 154, 3) := by decide +kernel
theorem dX4_wise_74 : decode cX4_wise 74 = .ok (.invokevirtual 176, 3) := by decide +kernel
theorem dX4_wise_77 : decode cX4_wise 77 = .ok (.istore 6, 2) := by decide +kernel
theorem dX4_wise_79 : decode cX4_wise 79 = .ok (.iload_n 3, 1) := by decide +kernel
theorem dX4_wise_80 : decode cX4_wise 80 = .ok (.bipush (-9), 2) := by decide +kernel
theorem dX4_wise_82 : decode cX4_wise 82 = .ok (.if_icmp .eq 10, 3) := by decide +kernel
theorem dX4_wise_85 : decode cX4_wise 85 = .ok (.iload 6, 2) := by decide +kernel
theorem dX4_wise_87 : decode cX4_wise 87 = .ok (.iload 4, 2) := by decide +kernel
theorem dX4_wise_89 : decode cX4_wise 89 = .ok (.if_icmp .ge 10, 3) := by decide +kernel
theorem dX4_wise_92 : decode cX4_wise 92 = .ok (.iload 5, 2) := by decide +kernel
theorem dX4_wise_94 : decode cX4_wise 94 = .ok (.istore_n 3, 1) := by decide +kernel
theorem dX4_wise_95 : decode cX4_wise 95 = .ok (.iload 6, 2) := by decide +kernel
theorem dX4_wise_97 : decode cX4_wise 97 = .ok (.istore 4, 2) := by decide +kernel
theorem dX4_wise_99 : decode cX4_wise 99 = .ok (.iinc 5 1, 3) := by decide +kernel
theorem dX4_wise_102 : decode cX4_wise 102 = .ok (.goto (-75), 3) := by decide +kernel
theorem dX4_wise_105 : decode cX4_wise 105 = .ok (.iload_n 1, 1) := by decide +kernel
theorem dX4_wise_106 : decode cX4_wise 106 = .ok (.ifCond .ne 7, 3) := by decide +kernel
theorem dX4_wise_109 : decode cX4_wise 109 = .ok (.iload_n 3, 1) := by decide +kernel
theorem dX4_wise_110 : decode cX4_wise 110 = .ok (.goto 5, 3) := by decide +kernel
theorem dX4_wise_113 : decode cX4_wise 113 = .ok (.iload 4, 2) := by decide +kernel
theorem dX4_wise_115 : decode cX4_wise 115 = .ok (.ireturn, 1) := by decide +kernel
theorem dX4_cheap_0 : decode cX4_cheap 0 = .ok (.aload_n 0, 1) := by decide +kernel
theorem dX4_cheap_1 : decode cX4_cheap 1 = .ok (.getfield 39, 3) := by decide +kernel
theorem dX4_cheap_4 : decode cX4_cheap 4 = .ok (.invokevirtual 130, 3) := by decide +kernel
theorem dX4_cheap_7 : decode cX4_cheap 7 = .ok (.istore_n 1, 1) := by decide +kernel
theorem dX4_cheap_8 : decode cX4_cheap 8 = .ok (.bipush (-9), 2) := by decide +kernel
theorem dX4_cheap_10 : decode cX4_cheap 10 = .ok (.istore_n 2, 1) := by decide +kernel
theorem dX4_cheap_11 : decode cX4_cheap 11 = .ok (.iconst 1, 1) := by decide +kernel
theorem dX4_cheap_12 : decode cX4_cheap 12 = .ok (.istore_n 3, 1) := by decide +kernel
theorem dX4_cheap_13 : decode cX4_cheap 13 = .ok (.iload_n 3, 1) := by decide +kernel
theorem dX4_cheap_14 : decode cX4_cheap 14 = .ok (.aload_n 0, 1) := by decide +kernel
theorem dX4_cheap_15 : decode cX4_cheap 15 = .ok (.getfield 16, 3) := by decide +kernel
theorem dX4_cheap_18 : decode cX4_cheap 18 = .ok (.getfield 182, 3) := by decide +kernel
theorem dX4_cheap_21 : decode cX4_cheap 21 = .ok (.if_icmp .gt 44, 3) := by decide +kernel
theorem dX4_cheap_24 : decode cX4_cheap 24 = .ok (.iload_n 1, 1) := by decide +kernel
theorem dX4_cheap_25 : decode cX4_cheap 25 = .ok (.iload_n 3, 1) := by decide +kernel
theorem dX4_cheap_26 : decode cX4_cheap 26 = .ok (.invokestatic 133, 3) := by decide +kernel
theorem dX4_cheap_29 : decode cX4_cheap 29 = .ok (.ifCond .eq 30, 3) := by decide +kernel
theorem dX4_cheap_32 : decode cX4_cheap 32 = .ok (.iload_n 2, 1) := by decide +kernel
theorem dX4_cheap_33 : decode cX4_cheap 33 = .ok (.bipush (-9), 2) := by decide +kernel
theorem dX4_cheap_35 : decode cX4_cheap 35 = .ok (.if_icmp .eq 22, 3) := by decide +kernel
theorem dX4_cheap_38 : decode cX4_cheap 38 = .ok (.aload_n 0, 1) := by decide +kernel
theorem dX4_cheap_39 : decode cX4_cheap 39 = .ok (.getfield 39, 3) := by decide +kernel
theorem dX4_cheap_42 : decode cX4_cheap 42 = .ok (.iload_n 3, 1) := by decide +kernel
theorem dX4_cheap_43 : decode cX4_cheap 43 = .ok (.invokevirtual 188, 3) := by decide +kernel
theorem dX4_cheap_46 : decode cX4_cheap 46 = .ok (.aload_n 0, 1) := by decide +kernel
theorem dX4_cheap_47 : decode cX4_cheap 47 = .ok (.getfield 39, 3) := by decide +kernel
theorem dX4_cheap_50 : decode cX4_cheap 50 = .ok (.iload_n 2, 1) := by decide +kernel
theorem dX4_cheap_51 : decode cX4_cheap 51 = .ok (.invokevirtual 188, 3) := by decide +kernel
theorem dX4_cheap_54 : decode cX4_cheap 54 = .ok (.if_icmp .ge 5, 3) := by decide +kernel
theorem dX4_cheap_57 : decode cX4_cheap 57 = .ok (.iload_n 3, 1) := by decide +kernel
theorem dX4_cheap_58 : decode cX4_cheap 58 = .ok (.istore_n 2, 1) := by decide +kernel
theorem dX4_cheap_59 : decode cX4_cheap 59 = .ok (.iinc 3 1, 3) := by decide +kernel
theorem dX4_cheap_62 : decode cX4_cheap 62 = .ok (.goto (-49), 3) := by decide +kernel
theorem dX4_cheap_65 : decode cX4_cheap 65 = .ok (.iload_n 2, 1) := by decide +kernel
theorem dX4_cheap_66 : decode cX4_cheap 66 = .ok (.ireturn, 1) := by decide +kernel
theorem dX4_ever_0 : decode cX4_ever 0 = .ok (.aload_n 0, 1) := by decide +kernel
theorem dX4_ever_1 : decode cX4_ever 1 = .ok (.getfield 30, 3) := by decide +kernel
theorem dX4_ever_4 : decode cX4_ever 4 = .ok (.getfield 191, 3) := by decide +kernel
theorem dX4_ever_7 : decode cX4_ever 7 = .ok (.ireturn, 1) := by decide +kernel
theorem dX4_chalks_0 : decode cX4_chalks 0 = .ok (.aload_n 0, 1) := by decide +kernel
theorem dX4_chalks_1 : decode cX4_chalks 1 = .ok (.iload_n 1, 1) := by decide +kernel
theorem dX4_chalks_2 : decode cX4_chalks 2 = .ok (.invokevirtual 95, 3) := by decide +kernel
theorem dX4_chalks_5 : decode cX4_chalks 5 = .ok (.ifCond .eq 14, 3) := by decide +kernel
theorem dX4_chalks_8 : decode cX4_chalks 8 = .ok (.iload_n 2, 1) := by decide +kernel
theorem dX4_chalks_9 : decode cX4_chalks 9 = .ok (.ifCond .lt 10, 3) := by decide +kernel
theorem dX4_chalks_12 : decode cX4_chalks 12 = .ok (.iload_n 2, 1) := by decide +kernel
theorem dX4_chalks_13 : decode cX4_chalks 13 = .ok (.sipush 216, 3) := by decide +kernel
theorem dX4_chalks_16 : decode cX4_chalks 16 = .ok (.if_icmp .le 5, 3) := by decide +kernel
theorem dX4_chalks_19 : decode cX4_chalks 19 = .ok (.iconst (-1), 1) := by decide +kernel
theorem dX4_chalks_20 : decode cX4_chalks 20 = .ok (.ireturn, 1) := by decide +kernel
theorem dX4_chalks_21 : decode cX4_chalks 21 = .ok (.aload_n 0, 1) := by decide +kernel
theorem dX4_chalks_22 : decode cX4_chalks 22 = .ok (.getfield 81, 3) := by decide +kernel
theorem dX4_chalks_25 : decode cX4_chalks 25 = .ok (.bipush 6, 2) := by decide +kernel
theorem dX4_chalks_27 : decode cX4_chalks 27 = .ok (.if_icmp .lt 6, 3) := by decide +kernel
theorem dX4_chalks_30 : decode cX4_chalks 30 = .ok (.bipush (-3), 2) := by decide +kernel
theorem dX4_chalks_32 : decode cX4_chalks 32 = .ok (.ireturn, 1) := by decide +kernel
theorem dX4_chalks_33 : decode cX4_chalks 33 = .ok (.aload_n 0, 1) := by decide +kernel
theorem dX4_chalks_34 : decode cX4_chalks 34 = .ok (.getfield 51, 3) := by decide +kernel
theorem dX4_chalks_37 : decode cX4_chalks 37 = .ok (.aload_n 0, 1) := by decide +kernel
theorem dX4_chalks_38 : decode cX4_chalks 38 = .ok (.getfield 81, 3) := by decide +kernel
theorem dX4_chalks_41 : decode cX4_chalks 41 = .ok (.iload_n 1, 1) := by decide +kernel
theorem dX4_chalks_42 : decode cX4_chalks 42 = .ok (.iastore, 1) := by decide +kernel
theorem dX4_chalks_43 : decode cX4_chalks 43 = .ok (.aload_n 0, 1) := by decide +kernel
theorem dX4_chalks_44 : decode cX4_chalks 44 = .ok (.getfield 55, 3) := by decide +kernel
theorem dX4_chalks_47 : decode cX4_chalks 47 = .ok (.aload_n 0, 1) := by decide +kernel
theorem dX4_chalks_48 : decode cX4_chalks 48 = .ok (.getfield 81, 3) := by decide +kernel
theorem dX4_chalks_51 : decode cX4_chalks 51 = .ok (.iload_n 2, 1) := by decide +kernel
theorem dX4_chalks_52 : decode cX4_chalks 52 = .ok (.iastore, 1) := by decide +kernel
theorem dX4_chalks_53 : decode cX4_chalks 53 = .ok (.aload_n 0, 1) := by decide +kernel
theorem dX4_chalks_54 : decode cX4_chalks 54 = .ok (.dup, 1) := by decide +kernel
theorem dX4_chalks_55 : decode cX4_chalks 55 = .ok (.getfield 81, 3) := by decide +kernel
theorem dX4_chalks_58 : decode cX4_chalks 58 = .ok (.iconst 1, 1) := by decide +kernel
theorem dX4_chalks_59 : decode cX4_chalks 59 = .ok (.iadd, 1) := by decide +kernel
theorem dX4_chalks_60 : decode cX4_chalks 60 = .ok (.putfield 81, 3) := by decide +kernel
theorem dX4_chalks_63 : decode cX4_chalks 63 = .ok (.aload_n 0, 1) := by decide +kernel
theorem dX4_chalks_64 : decode cX4_chalks 64 = .ok (.getfield 81, 3) := by decide +kernel
theorem dX4_chalks_67 : decode cX4_chalks 67 = .ok (.ireturn, 1) := by decide +kernel
theorem dX4_wipes_0 : decode cX4_wipes 0 = .ok (.aload_n 0, 1) := by decide +kernel
theorem dX4_wipes_1 : decode cX4_wipes 1 = .ok (.getfield 81, 3) := by decide +kernel
theorem dX4_wipes_4 : decode cX4_wipes 4 = .ok (.istore_n 1, 1) := by decide +kernel
theorem dX4_wipes_5 : decode cX4_wipes 5 = .ok (.aload_n 0, 1) := by decide +kernel
theorem dX4_wipes_6 : decode cX4_wipes 6 = .ok (.iconst 0, 1) := by decide +kernel
theorem dX4_wipes_7 : decode cX4_wipes 7 = .ok (.putfield 81, 3) := by decide +kernel
theorem dX4_wipes_10 : decode cX4_wipes 10 = .ok (.iload_n 1, 1) := by decide +kernel
theorem dX4_wipes_11 : decode cX4_wipes 11 = .ok (.ireturn, 1) := by decide +kernel
theorem dX4_wrong_0 : decode cX4_wrong 0 = .ok (.iconst 0, 1) := by decide +kernel
theorem dX4_wrong_1 : decode cX4_wrong 1 = .ok (.istore_n 1, 1) := by decide +kernel
theorem dX4_wrong_2 : decode cX4_wrong 2 = .ok (.iconst 0, 1) := by decide +kernel
theorem dX4_wrong_3 : decode cX4_wrong 3 = .ok (.istore_n 2, 1) := by decide +kernel
theorem dX4_wrong_4 : decode cX4_wrong 4 = .ok (.iload_n 2, 1) := by decide +kernel
theorem dX4_wrong_5 : decode cX4_wrong 5 = .ok (.aload_n 0, 1) := by decide +kernel
theorem dX4_wrong_6 : decode cX4_wrong 6 = .ok (.getfield 81, 3) := by decide +kernel
theorem dX4_wrong_9 : decode cX4_wrong 9 = .ok (.if_icmp .ge 24, 3) := by decide +kernel
theorem dX4_wrong_12 : decode cX4_wrong 12 = .ok (.aload_n 0, 1) := by decide +kernel
theorem dX4_wrong_13 : decode cX4_wrong 13 = .ok (.iload_n 2, 1) := by decide +kernel
theorem dX4_wrong_14 : decode cX4_wrong 14 = .ok (.invokevirtual 194, 3) := by decide +kernel
theorem dX4_wrong_17 : decode cX4_wrong 17 = .ok (.ifCond .eq 10, 3) := by decide +kernel
theorem dX4_wrong_20 : decode cX4_wrong 20 = .ok (.iload_n 1, 1) := by decide +kernel
theorem dX4_wrong_21 : decode cX4_wrong 21 = .ok (.iload_n 2, 1) := by decide +kernel
theorem dX4_wrong_22 : decode cX4_wrong 22 = .ok (.invokestatic 185, 3) := by decide +kernel
theorem dX4_wrong_25 : decode cX4_wrong 25 = .ok (.ior, 1) := by decide +kernel
theorem dX4_wrong_26 : decode cX4_wrong 26 = .ok (.istore_n 1, 1) := by decide +kernel
theorem dX4_wrong_27 : decode cX4_wrong 27 = .ok (.iinc 2 1, 3) := by decide +kernel
theorem dX4_wrong_30 : decode cX4_wrong 30 = .ok (.goto (-26), 3) := by decide +kernel
theorem dX4_wrong_33 : decode cX4_wrong 33 = .ok (.iload_n 1, 1) := by decide +kernel
theorem dX4_wrong_34 : decode cX4_wrong 34 = .ok (.ireturn, 1) := by decide +kernel
theorem dX4_off_0 : decode cX4_off 0 = .ok (.iload_n 1, 1) := by decide +kernel
theorem dX4_off_1 : decode cX4_off 1 = .ok (.ifCond .lt 11, 3) := by decide +kernel
theorem dX4_off_4 : decode cX4_off 4 = .ok (.iload_n 1, 1) := by decide +kernel
theorem dX4_off_5 : decode cX4_off 5 = .ok (.aload_n 0, 1) := by decide +kernel
theorem dX4_off_6 : decode cX4_off 6 = .ok (.getfield 81, 3) := by decide +kernel
theorem dX4_off_9 : decode cX4_off 9 = .ok (.if_icmp .lt 8, 3) := by decide +kernel
theorem dX4_off_12 : decode cX4_off 12 = .ok (.ldc 160, 2) := by decide +kernel
theorem dX4_off_14 : decode cX4_off 14 = .ok (.goto 8, 3) := by decide +kernel
theorem dX4_off_17 : decode cX4_off 17 = .ok (.aload_n 0, 1) := by decide +kernel
theorem dX4_off_18 : decode cX4_off 18 = .ok (.iload_n 1, 1) := by decide +kernel
theorem dX4_off_19 : decode cX4_off 19 = .ok (.invokevirtual 194, 3) := by decide +kernel
theorem dX4_off_22 : decode cX4_off 22 = .ok (.ireturn, 1) := by decide +kernel
theorem dX4_bet_0 : decode cX4_bet 0 = .ok (.bipush (-9), 2) := by decide +kernel
theorem dX4_bet_2 : decode cX4_bet 2 = .ok (.istore_n 1, 1) := by decide +kernel
theorem dX4_bet_3 : decode cX4_bet 3 = .ok (.iconst 0, 1) := by decide +kernel
theorem dX4_bet_4 : decode cX4_bet 4 = .ok (.istore_n 2, 1) := by decide +kernel
theorem dX4_bet_5 : decode cX4_bet 5 = .ok (.iconst 0, 1) := by decide +kernel
theorem dX4_bet_6 : decode cX4_bet 6 = .ok (.istore_n 3, 1) := by decide +kernel
theorem dX4_bet_7 : decode cX4_bet 7 = .ok (.iload_n 3, 1) := by decide +kernel
theorem dX4_bet_8 : decode cX4_bet 8 = .ok (.aload_n 0, 1) := by decide +kernel
theorem dX4_bet_9 : decode cX4_bet 9 = .ok (.getfield 81, 3) := by decide +kernel
theorem dX4_bet_12 : decode cX4_bet 12 = .ok (.if_icmp .ge 30, 3) := by decide +kernel
theorem dX4_bet_15 : decode cX4_bet 15 = .ok (.aload_n 0, 1) := by decide +kernel
theorem dX4_bet_16 : decode cX4_bet 16 = .ok (.iload_n 3, 1) := by decide +kernel
theorem dX4_bet_17 : decode cX4_bet 17 = .ok (.invokevirtual 194, 3) := by decide +kernel
theorem dX4_bet_20 : decode cX4_bet 20 = .ok (.invokestatic 197, 3) := by decide +kernel
theorem dX4_bet_23 : decode cX4_bet 23 = .ok (.istore 4, 2) := by decide +kernel
theorem dX4_bet_25 : decode cX4_bet 25 = .ok (.iload 4, 2) := by decide +kernel
theorem dX4_bet_27 : decode cX4_bet 27 = .ok (.iload_n 2, 1) := by decide +kernel
theorem dX4_bet_28 : decode cX4_bet 28 = .ok (.if_icmp .le 8, 3) := by decide +kernel
theorem dX4_bet_31 : decode cX4_bet 31 = .ok (.iload_n 3, 1) := by decide +kernel
theorem dX4_bet_32 : decode cX4_bet 32 = .ok (.istore_n 1, 1) := by decide +kernel
theorem dX4_bet_33 : decode cX4_bet 33 = .ok (.iload 4, 2) := by decide +kernel
theorem dX4_bet_35 : decode cX4_bet 35 = .ok (.istore_n 2, 1) := by decide +kernel
theorem dX4_bet_36 : decode cX4_bet 36 = .ok (.iinc 3 1, 3) := by decide +kernel
theorem dX4_bet_39 : decode cX4_bet 39 = .ok (.goto (-32), 3) := by decide +kernel
theorem dX4_bet_42 : decode cX4_bet 42 = .ok (.iload_n 1, 1) := by decide +kernel
theorem dX4_bet_43 : decode cX4_bet 43 = .ok (.ireturn, 1) := by decide +kernel
theorem dX4_third_0 : decode cX4_third 0 = .ok (.aload_n 0, 1) := by decide +kernel
theorem dX4_third_1 : decode cX4_third 1 = .ok (.getfield 16, 3) := by decide +kernel
theorem dX4_third_4 : decode cX4_third 4 = .ok (.iconst 0, 1) := by decide +kernel
theorem dX4_third_5 : decode cX4_third 5 = .ok (.iload_n 1, 1) := by decide +kernel
theorem dX4_third_6 : decode cX4_third 6 = .ok (.invokevirtual 114, 3) := by decide +kernel
theorem dX4_third_9 : decode cX4_third 9 = .ok (.ifCond .eq 23, 3) := by decide +kernel
theorem dX4_third_12 : decode cX4_third 12 = .ok (.aload_n 0, 1) := by decide +kernel
theorem dX4_third_13 : decode cX4_third 13 = .ok (.getfield 16, 3) := by decide +kernel
theorem dX4_third_16 : decode cX4_third 16 = .ok (.iconst 1, 1) := by decide +kernel
theorem dX4_third_17 : decode cX4_third 17 = .ok (.iload_n 2, 1) := by decide +kernel
theorem dX4_third_18 : decode cX4_third 18 = .ok (.invokevirtual 114, 3) := by decide +kernel
theorem dX4_third_21 : decode cX4_third 21 = .ok (.ifCond .eq 11, 3) := by decide +kernel
theorem dX4_third_24 : decode cX4_third 24 = .ok (.aload_n 0, 1) := by decide +kernel
theorem dX4_third_25 : decode cX4_third 25 = .ok (.iload_n 3, 1) := by decide +kernel
theorem dX4_third_26 : decode cX4_third 26 = .ok (.invokevirtual 95, 3) := by decide +kernel
theorem dX4_third_29 : decode cX4_third 29 = .ok (.ifCond .ne 5, 3) := by decide +kernel
theorem dX4_third_32 : decode cX4_third 32 = .ok (.iconst (-1), 1) := by decide +kernel
theorem dX4_third_33 : decode cX4_third 33 = .ok (.ireturn, 1) := by decide +kernel
theorem dX4_third_34 : decode cX4_third 34 = .ok (.iconst 0, 1) := by decide +kernel
theorem dX4_third_35 : decode cX4_third 35 = .ok (.istore 4, 2) := by decide +kernel
theorem dX4_third_37 : decode cX4_third 37 = .ok (.iconst 0, 1) := by decide +kernel
theorem dX4_third_38 : decode cX4_third 38 = .ok (.istore 5, 2) := by decide +kernel
theorem dX4_third_40 : decode cX4_third 40 = .ok (.iload 5, 2) := by decide +kernel
theorem dX4_third_42 : decode cX4_third 42 = .ok (.aload_n 0, 1) := by decide +kernel
theorem dX4_third_43 : decode cX4_third 43 = .ok (.getfield 16, 3) := by decide +kernel
theorem dX4_third_46 : decode cX4_third 46 = .ok (.getfield 88, 3) := by decide +kernel
theorem dX4_third_49 : decode cX4_third 49 = .ok (.iconst 2, 1) := by decide +kernel
theorem dX4_third_50 : decode cX4_third 50 = .ok (.iaload, 1) := by decide +kernel
theorem dX4_third_51 : decode cX4_third 51 = .ok (.if_icmp .ge 56, 3) := by decide +kernel
theorem dX4_third_54 : decode cX4_third 54 = .ok (.aload_n 0, 1) := by decide +kernel
theorem dX4_third_55 : decode cX4_third 55 = .ok (.getfield 16, 3) := by decide +kernel
theorem dX4_third_58 : decode cX4_third 58 = .ok (.iconst 2, 1) := by decide +kernel
theorem dX4_third_59 : decode cX4_third 59 = .ok (.iload 5, 2) := by decide +kernel
theorem dX4_third_61 : decode cX4_third 61 = .ok (.invokevirtual 91, 3) := by decide +kernel
theorem dX4_third_64 : decode cX4_third 64 = .ok (.istore 6, 2) := by decide +kernel
theorem dX4_third_66 : decode cX4_third 66 = .ok (.aload_n 0, 1) := by decide +kernel
theorem dX4_third_67 : decode cX4_third 67 = .ok (.getfield 16, 3) := by decide +kernel
theorem dX4_third_70 : decode cX4_third 70 = .ok (.iload_n 1, 1) := by decide +kernel
theorem dX4_third_71 : decode cX4_third 71 = .ok (.iload_n 2, 1) := by decide +kernel
theorem dX4_third_72 : decode cX4_third 72 = .ok (.iload 6, 2) := by decide +kernel
theorem dX4_third_74 : decode cX4_third 74 = .ok (.aload_n 0, 1) := by decide +kernel
theorem dX4_third_75 : decode cX4_third 75 = .ok (.getfield 39, 3) := by decide +kernel
theorem dX4_third_78 : decode cX4_third 78 = .ok (.invokevirtual 154, 3) := by decide +kernel
theorem dX4_third_81 : decode cX4_third 81 = .ok (.invokevirtual 202, 3) := by decide +kernel
theorem dX4_third_84 : decode cX4_third 84 = .ok (.iload_n 3, 1) := by decide +kernel
theorem dX4_third_85 : decode cX4_third 85 = .ok (.invokestatic 133, 3) := by decide +kernel
theorem dX4_third_88 : decode cX4_third 88 = .ok (.ifCond .eq 13, 3) := by decide +kernel
theorem dX4_third_91 : decode cX4_third 91 = .ok (.iload 4, 2) := by decide +kernel
theorem dX4_third_93 : decode cX4_third 93 = .ok (.iload 6, 2) := by decide +kernel
theorem dX4_third_95 : decode cX4_third 95 = .ok (.invokestatic 185, 3) := by decide +kernel
theorem dX4_third_98 : decode cX4_third 98 = .ok (.ior, 1) := by decide +kernel
theorem dX4_third_99 : decode cX4_third 99 = .ok (.istore 4, 2) := by decide +kernel
theorem dX4_third_101 : decode cX4_third 101 = .ok (.iinc 5 1, 3) := by decide +kernel
theorem dX4_third_104 : decode cX4_third 104 = .ok (.goto (-64), 3) := by decide +kernel
theorem dX4_third_107 : decode cX4_third 107 = .ok (.iload 4, 2) := by decide +kernel
theorem dX4_third_109 : decode cX4_third 109 = .ok (.ireturn, 1) := by decide +kernel
theorem dX4_threw_0 : decode cX4_threw 0 = .ok (.aload_n 0, 1) := by decide +kernel
theorem dX4_threw_1 : decode cX4_threw 1 = .ok (.iload_n 1, 1) := by decide +kernel
theorem dX4_threw_2 : decode cX4_threw 2 = .ok (.invokevirtual 95, 3) := by decide +kernel
theorem dX4_threw_5 : decode cX4_threw 5 = .ok (.ifCond .eq 10, 3) := by decide +kernel
theorem dX4_threw_8 : decode cX4_threw 8 = .ok (.iload_n 2, 1) := by decide +kernel
theorem dX4_threw_9 : decode cX4_threw 9 = .ok (.invokestatic 161, 3) := by decide +kernel
theorem dX4_threw_12 : decode cX4_threw 12 = .ok (.ifCond .ne 5, 3) := by decide +kernel
theorem dX4_threw_15 : decode cX4_threw 15 = .ok (.iconst (-1), 1) := by decide +kernel
theorem dX4_threw_16 : decode cX4_threw 16 = .ok (.ireturn, 1) := by decide +kernel
theorem dX4_threw_17 : decode cX4_threw 17 = .ok (.iload_n 2, 1) := by decide +kernel
theorem dX4_threw_18 : decode cX4_threw 18 = .ok (.ifCond .ne 21, 3) := by decide +kernel
theorem dX4_threw_21 : decode cX4_threw 21 = .ok (.aload_n 0, 1) := by decide +kernel
theorem dX4_threw_22 : decode cX4_threw 22 = .ok (.getfield 30, 3) := by decide +kernel
theorem dX4_threw_25 : decode cX4_threw 25 = .ok (.iload_n 1, 1) := by decide +kernel
theorem dX4_threw_26 : decode cX4_threw 26 = .ok (.aload_n 0, 1) := by decide +kernel
theorem dX4_threw_27 : decode cX4_threw 27 = .ok (.getfield 39, 3) := by decide +kernel
theorem dX4_threw_30 : decode cX4_threw 30 = .ok (.invokevirtual 154, 3) := by decide +kernel
theorem dX4_threw_33 : decode cX4_threw 33 = .ok (.invokevirtual 206, 3) := by decide +kernel
theorem dX4_threw_36 : decode cX4_threw 36 = .ok (.goto 18, 3) := by decide +kernel
theorem dX4_threw_39 : decode cX4_threw 39 = .ok (.aload_n 0, 1) := by decide +kernel
theorem dX4_threw_40 : decode cX4_threw 40 = .ok (.getfield 30, 3) := by decide +kernel
theorem dX4_threw_43 : decode cX4_threw 43 = .ok (.iload_n 1, 1) := by decide +kernel
theorem dX4_threw_44 : decode cX4_threw 44 = .ok (.aload_n 0, 1) := by decide +kernel
theorem dX4_threw_45 : decode cX4_threw 45 = .ok (.getfield 39, 3) := by decide +kernel
theorem dX4_threw_48 : decode cX4_threw 48 = .ok (.invokevirtual 154, 3) := by decide +kernel
theorem dX4_threw_51 : decode cX4_threw 51 = .ok (.invokevirtual 209, 3) := by decide +kernel
theorem dX4_threw_54 : decode cX4_threw 54 = .ok (.ireturn, 1) := by decide +kernel
theorem dX4_beats_0 : decode cX4_beats 0 = .ok (.iload_n 1, 1) := by decide +kernel
theorem dX4_beats_1 : decode cX4_beats 1 = .ok (.invokestatic 84, 3) := by decide +kernel
theorem dX4_beats_4 : decode cX4_beats 4 = .ok (.ifCond .eq 22, 3) := by decide +kernel
theorem dX4_beats_7 : decode cX4_beats 7 = .ok (.iload_n 2, 1) := by decide +kernel
theorem dX4_beats_8 : decode cX4_beats 8 = .ok (.invokestatic 84, 3) := by decide +kernel
theorem dX4_beats_11 : decode cX4_beats 11 = .ok (.ifCond .eq 15, 3) := by decide +kernel
theorem dX4_beats_14 : decode cX4_beats 14 = .ok (.iload_n 1, 1) := by decide +kernel
theorem dX4_beats_15 : decode cX4_beats 15 = .ok (.iload_n 2, 1) := by decide +kernel
theorem dX4_beats_16 : decode cX4_beats 16 = .ok (.if_icmp .eq 10, 3) := by decide +kernel
theorem dX4_beats_19 : decode cX4_beats 19 = .ok (.iload_n 3, 1) := by decide +kernel
theorem dX4_beats_20 : decode cX4_beats 20 = .ok (.invokestatic 161, 3) := by decide +kernel
theorem dX4_beats_23 : decode cX4_beats 23 = .ok (.ifCond .ne 5, 3) := by decide +kernel
theorem dX4_beats_26 : decode cX4_beats 26 = .ok (.iconst (-1), 1) := by decide +kernel
theorem dX4_beats_27 : decode cX4_beats 27 = .ok (.ireturn, 1) := by decide +kernel
theorem dX4_beats_28 : decode cX4_beats 28 = .ok (.aload_n 0, 1) := by decide +kernel
theorem dX4_beats_29 : decode cX4_beats 29 = .ok (.getfield 16, 3) := by decide +kernel
theorem dX4_beats_32 : decode cX4_beats 32 = .ok (.iload_n 1, 1) := by decide +kernel
theorem dX4_beats_33 : decode cX4_beats 33 = .ok (.iload_n 2, 1) := by decide +kernel
theorem dX4_beats_34 : decode cX4_beats 34 = .ok (.invokevirtual 212, 3) := by decide +kernel
theorem dX4_beats_37 : decode cX4_beats 37 = .ok (.aload_n 0, 1) := by decide +kernel
theorem dX4_beats_38 : decode cX4_beats 38 = .ok (.getfield 16, 3) := by decide +kernel
theorem dX4_beats_41 : decode cX4_beats 41 = .ok (.iload_n 1, 1) := by decide +kernel
theorem dX4_beats_42 : decode cX4_beats 42 = .ok (.iload_n 2, 1) := by decide +kernel
theorem dX4_beats_43 : decode cX4_beats 43 = .ok (.invokevirtual 215, 3) := by decide +kernel
theorem dX4_beats_46 : decode cX4_beats 46 = .ok (.iload_n 3, 1) := by decide +kernel
theorem dX4_beats_47 : decode cX4_beats 47 = .ok (.invokestatic 169, 3) := by decide +kernel
theorem dX4_beats_50 : decode cX4_beats 50 = .ok (.ireturn, 1) := by decide +kernel
theorem dX4_ring_0 : decode cX4_ring 0 = .ok (.aload_n 0, 1) := by decide +kernel
theorem dX4_ring_1 : decode cX4_ring 1 = .ok (.getfield 16, 3) := by decide +kernel
theorem dX4_ring_4 : decode cX4_ring 4 = .ok (.iconst 0, 1) := by decide +kernel
theorem dX4_ring_5 : decode cX4_ring 5 = .ok (.iconst 1, 1) := by decide +kernel
theorem dX4_ring_6 : decode cX4_ring 6 = .ok (.invokevirtual 218, 3) := by decide +kernel
theorem dX4_ring_9 : decode cX4_ring 9 = .ok (.ifCond .eq 29, 3) := by decide +kernel
theorem dX4_ring_12 : decode cX4_ring 12 = .ok (.aload_n 0, 1) := by decide +kernel
theorem dX4_ring_13 : decode cX4_ring 13 = .ok (.getfield 16, 3) := by decide +kernel
theorem dX4_ring_16 : decode cX4_ring 16 = .ok (.iconst 1, 1) := by decide +kernel
theorem dX4_ring_17 : decode cX4_ring 17 = .ok (.iconst 2, 1) := by decide +kernel
theorem dX4_ring_18 : decode cX4_ring 18 = .ok (.invokevirtual 218, 3) := by decide +kernel
theorem dX4_ring_21 : decode cX4_ring 21 = .ok (.ifCond .eq 17, 3) := by decide +kernel
theorem dX4_ring_24 : decode cX4_ring 24 = .ok (.aload_n 0, 1) := by decide +kernel
theorem dX4_ring_25 : decode cX4_ring 25 = .ok (.getfield 16, 3) := by decide +kernel
theorem dX4_ring_28 : decode cX4_ring 28 = .ok (.iconst 2, 1) := by decide +kernel
theorem dX4_ring_29 : decode cX4_ring 29 = .ok (.iconst 0, 1) := by decide +kernel
theorem dX4_ring_30 : decode cX4_ring 30 = .ok (.invokevirtual 218, 3) := by decide +kernel
theorem dX4_ring_33 : decode cX4_ring 33 = .ok (.ifCond .eq 5, 3) := by decide +kernel
theorem dX4_ring_36 : decode cX4_ring 36 = .ok (.iconst 1, 1) := by decide +kernel
theorem dX4_ring_37 : decode cX4_ring 37 = .ok (.ireturn, 1) := by decide +kernel
theorem dX4_ring_38 : decode cX4_ring 38 = .ok (.aload_n 0, 1) := by decide +kernel
theorem dX4_ring_39 : decode cX4_ring 39 = .ok (.getfield 16, 3) := by decide +kernel
theorem dX4_ring_42 : decode cX4_ring 42 = .ok (.iconst 1, 1) := by decide +kernel
theorem dX4_ring_43 : decode cX4_ring 43 = .ok (.iconst 0, 1) := by decide +kernel
theorem dX4_ring_44 : decode cX4_ring 44 = .ok (.invokevirtual 218, 3) := by decide +kernel
theorem dX4_ring_47 : decode cX4_ring 47 = .ok (.ifCond .eq 29, 3) := by decide +kernel
theorem dX4_ring_50 : decode cX4_ring 50 = .ok (.aload_n 0, 1) := by decide +kernel
theorem dX4_ring_51 : decode cX4_ring 51 = .ok (.getfield 16, 3) := by decide +kernel
theorem dX4_ring_54 : decode cX4_ring 54 = .ok (.iconst 2, 1) := by decide +kernel
theorem dX4_ring_55 : decode cX4_ring 55 = .ok (.iconst 1, 1) := by decide +kernel
theorem dX4_ring_56 : decode cX4_ring 56 = .ok (.invokevirtual 218, 3) := by decide +kernel
theorem dX4_ring_59 : decode cX4_ring 59 = .ok (.ifCond .eq 17, 3) := by decide +kernel
theorem dX4_ring_62 : decode cX4_ring 62 = .ok (.aload_n 0, 1) := by decide +kernel
theorem dX4_ring_63 : decode cX4_ring 63 = .ok (.getfield 16, 3) := by decide +kernel
theorem dX4_ring_66 : decode cX4_ring 66 = .ok (.iconst 0, 1) := by decide +kernel
theorem dX4_ring_67 : decode cX4_ring 67 = .ok (.iconst 2, 1) := by decide +kernel
theorem dX4_ring_68 : decode cX4_ring 68 = .ok (.invokevirtual 218, 3) := by decide +kernel
theorem dX4_ring_71 : decode cX4_ring 71 = .ok (.ifCond .eq 5, 3) := by decide +kernel
theorem dX4_ring_74 : decode cX4_ring 74 = .ok (.iconst 2, 1) := by decide +kernel
theorem dX4_ring_75 : decode cX4_ring 75 = .ok (.ireturn, 1) := by decide +kernel
theorem dX4_ring_76 : decode cX4_ring 76 = .ok (.iconst 0, 1) := by decide +kernel
theorem dX4_ring_77 : decode cX4_ring 77 = .ok (.ireturn, 1) := by decide +kernel
theorem dX4_mark_0 : decode cX4_mark 0 = .ok (.aload_n 0, 1) := by decide +kernel
theorem dX4_mark_1 : decode cX4_mark 1 = .ok (.iload_n 2, 1) := by decide +kernel
theorem dX4_mark_2 : decode cX4_mark 2 = .ok (.invokevirtual 95, 3) := by decide +kernel
theorem dX4_mark_5 : decode cX4_mark 5 = .ok (.ifCond .ne 6, 3) := by decide +kernel
theorem dX4_mark_8 : decode cX4_mark 8 = .ok (.ldc 160, 2) := by decide +kernel
theorem dX4_mark_10 : decode cX4_mark 10 = .ok (.ireturn, 1) := by decide +kernel
theorem dX4_mark_11 : decode cX4_mark 11 = .ok (.iload_n 1, 1) := by decide +kernel
theorem dX4_mark_12 : decode cX4_mark 12 = .ok (.tableswitch 76 0 5 #[40, 46, 52, 58, 64, 70], 40) := by decide +kernel
theorem dX4_mark_52 : decode cX4_mark 52 = .ok (.aload_n 0, 1) := by decide +kernel
theorem dX4_mark_53 : decode cX4_mark 53 = .ok (.iload_n 2, 1) := by decide +kernel
theorem dX4_mark_54 : decode cX4_mark 54 = .ok (.invokevirtual 221, 3) := by decide +kernel
theorem dX4_mark_57 : decode cX4_mark 57 = .ok (.ireturn, 1) := by decide +kernel
theorem dX4_mark_58 : decode cX4_mark 58 = .ok (.aload_n 0, 1) := by decide +kernel
theorem dX4_mark_59 : decode cX4_mark 59 = .ok (.iload_n 2, 1) := by decide +kernel
theorem dX4_mark_60 : decode cX4_mark 60 = .ok (.invokevirtual 224, 3) := by decide +kernel
theorem dX4_mark_63 : decode cX4_mark 63 = .ok (.ireturn, 1) := by decide +kernel
theorem dX4_mark_64 : decode cX4_mark 64 = .ok (.aload_n 0, 1) := by decide +kernel
theorem dX4_mark_65 : decode cX4_mark 65 = .ok (.iload_n 2, 1) := by decide +kernel
theorem dX4_mark_66 : decode cX4_mark 66 = .ok (.invokevirtual 227, 3) := by decide +kernel
theorem dX4_mark_69 : decode cX4_mark 69 = .ok (.ireturn, 1) := by decide +kernel
theorem dX4_mark_70 : decode cX4_mark 70 = .ok (.aload_n 0, 1) := by decide +kernel
theorem dX4_mark_71 : decode cX4_mark 71 = .ok (.iload_n 2, 1) := by decide +kernel
theorem dX4_mark_72 : decode cX4_mark 72 = .ok (.invokevirtual 230, 3) := by decide +kernel
theorem dX4_mark_75 : decode cX4_mark 75 = .ok (.ireturn, 1) := by decide +kernel
theorem dX4_mark_76 : decode cX4_mark 76 = .ok (.aload_n 0, 1) := by decide +kernel
theorem dX4_mark_77 : decode cX4_mark 77 = .ok (.iload_n 2, 1) := by decide +kernel
theorem dX4_mark_78 : decode cX4_mark 78 = .ok (.invokevirtual 233, 3) := by decide +kernel
theorem dX4_mark_81 : decode cX4_mark 81 = .ok (.ireturn, 1) := by decide +kernel
theorem dX4_mark_82 : decode cX4_mark 82 = .ok (.aload_n 0, 1) := by decide +kernel
theorem dX4_mark_83 : decode cX4_mark 83 = .ok (.iload_n 2, 1) := by decide +kernel
theorem dX4_mark_84 : decode cX4_mark 84 = .ok (.invokevirtual 236, 3) := by decide +kernel
theorem dX4_mark_87 : decode cX4_mark 87 = .ok (.ireturn, 1) := by decide +kernel
theorem dX4_mark_88 : decode cX4_mark 88 = .ok (.ldc 160, 2) := by decide +kernel
theorem dX4_mark_90 : decode cX4_mark 90 = .ok (.ireturn, 1) := by decide +kernel
theorem dX4_keep_0 : decode cX4_keep 0 = .ok (.iload_n 1, 1) := by decide +kernel
theorem dX4_keep_1 : decode cX4_keep 1 = .ok (.invokestatic 239, 3) := by decide +kernel
theorem dX4_keep_4 : decode cX4_keep 4 = .ok (.ifCond .ne 5, 3) := by decide +kernel
theorem dX4_keep_7 : decode cX4_keep 7 = .ok (.iconst (-1), 1) := by decide +kernel
theorem dX4_keep_8 : decode cX4_keep 8 = .ok (.ireturn, 1) := by decide +kernel
theorem dX4_keep_9 : decode cX4_keep 9 = .ok (.aload_n 0, 1) := by decide +kernel
theorem dX4_keep_10 : decode cX4_keep 10 = .ok (.getfield 43, 3) := by decide +kernel
theorem dX4_keep_13 : decode cX4_keep 13 = .ok (.iload_n 1, 1) := by decide +kernel
theorem dX4_keep_14 : decode cX4_keep 14 = .ok (.aaload, 1) := by decide +kernel
theorem dX4_keep_15 : decode cX4_keep 15 = .ok (.aload_n 0, 1) := by decide +kernel
theorem dX4_keep_16 : decode cX4_keep 16 = .ok (.getfield 39, 3) := by decide +kernel
theorem dX4_keep_19 : decode cX4_keep 19 = .ok (.invokevirtual 242, 3) := by decide +kernel
theorem dX4_keep_22 : decode cX4_keep 22 = .ok (.aload_n 0, 1) := by decide +kernel
theorem dX4_keep_23 : decode cX4_keep 23 = .ok (.getfield 47, 3) := by decide +kernel
theorem dX4_keep_26 : decode cX4_keep 26 = .ok (.iload_n 1, 1) := by decide +kernel
theorem dX4_keep_27 : decode cX4_keep 27 = .ok (.iconst 1, 1) := by decide +kernel
theorem dX4_keep_28 : decode cX4_keep 28 = .ok (.bastore, 1) := by decide +kernel
theorem dX4_keep_29 : decode cX4_keep 29 = .ok (.aload_n 0, 1) := by decide +kernel
theorem dX4_keep_30 : decode cX4_keep 30 = .ok (.getfield 39, 3) := by decide +kernel
theorem dX4_keep_33 : decode cX4_keep 33 = .ok (.invokevirtual 142, 3) := by decide +kernel
theorem dX4_keep_36 : decode cX4_keep 36 = .ok (.ireturn, 1) := by decide +kernel
theorem dX4_back_0 : decode cX4_back 0 = .ok (.iload_n 1, 1) := by decide +kernel
theorem dX4_back_1 : decode cX4_back 1 = .ok (.invokestatic 239, 3) := by decide +kernel
theorem dX4_back_4 : decode cX4_back 4 = .ok (.ifCond .ne 5, 3) := by decide +kernel
theorem dX4_back_7 : decode cX4_back 7 = .ok (.iconst (-1), 1) := by decide +kernel
theorem dX4_back_8 : decode cX4_back 8 = .ok (.ireturn, 1) := by decide +kernel
theorem dX4_back_9 : decode cX4_back 9 = .ok (.aload_n 0, 1) := by decide +kernel
theorem dX4_back_10 : decode cX4_back 10 = .ok (.getfield 47, 3) := by decide +kernel
theorem dX4_back_13 : decode cX4_back 13 = .ok (.iload_n 1, 1) := by decide +kernel
theorem dX4_back_14 : decode cX4_back 14 = .ok (.baload, 1) := by decide +kernel
theorem dX4_back_15 : decode cX4_back 15 = .ok (.ifCond .ne 6, 3) := by decide +kernel
theorem dX4_back_18 : decode cX4_back 18 = .ok (.bipush (-2), 2) := by decide +kernel
theorem dX4_back_20 : decode cX4_back 20 = .ok (.ireturn, 1) := by decide +kernel
theorem dX4_back_21 : decode cX4_back 21 = .ok (.aload_n 0, 1) := by decide +kernel
theorem dX4_back_22 : decode cX4_back 22 = .ok (.getfield 39, 3) := by decide +kernel
theorem dX4_back_25 : decode cX4_back 25 = .ok (.aload_n 0, 1) := by decide +kernel
theorem dX4_back_26 : decode cX4_back 26 = .ok (.getfield 43, 3) := by decide +kernel
theorem dX4_back_29 : decode cX4_back 29 = .ok (.iload_n 1, 1) := by decide +kernel
theorem dX4_back_30 : decode cX4_back 30 = .ok (.aaload, 1) := by decide +kernel
theorem dX4_back_31 : decode cX4_back 31 = .ok (.invokevirtual 242, 3) := by decide +kernel
theorem dX4_back_34 : decode cX4_back 34 = .ok (.aload_n 0, 1) := by decide +kernel
theorem dX4_back_35 : decode cX4_back 35 = .ok (.getfield 39, 3) := by decide +kernel
theorem dX4_back_38 : decode cX4_back 38 = .ok (.invokevirtual 142, 3) := by decide +kernel
theorem dX4_back_41 : decode cX4_back 41 = .ok (.ireturn, 1) := by decide +kernel
theorem dX4_count_0 : decode cX4_count 0 = .ok (.iload_n 1, 1) := by decide +kernel
theorem dX4_count_1 : decode cX4_count 1 = .ok (.tableswitch 81 0 5 #[39, 47, 55, 63, 68, 76], 39) := by decide +kernel
theorem dX4_count_40 : decode cX4_count 40 = .ok (.aload_n 0, 1) := by decide +kernel
theorem dX4_count_41 : decode cX4_count 41 = .ok (.getfield 16, 3) := by decide +kernel
theorem dX4_count_44 : decode cX4_count 44 = .ok (.getfield 182, 3) := by decide +kernel
theorem dX4_count_47 : decode cX4_count 47 = .ok (.ireturn, 1) := by decide +kernel
theorem dX4_count_48 : decode cX4_count 48 = .ok (.aload_n 0, 1) := by decide +kernel
theorem dX4_count_49 : decode cX4_count 49 = .ok (.getfield 16, 3) := by decide +kernel
theorem dX4_count_52 : decode cX4_count 52 = .ok (.getfield 245, 3) := by decide +kernel
theorem dX4_count_55 : decode cX4_count 55 = .ok (.ireturn, 1) := by decide +kernel
theorem dX4_count_56 : decode cX4_count 56 = .ok (.aload_n 0, 1) := by decide +kernel
theorem dX4_count_57 : decode cX4_count 57 = .ok (.getfield 30, 3) := by decide +kernel
theorem dX4_count_60 : decode cX4_count 60 = .ok (.getfield 167, 3) := by decide +kernel
theorem dX4_count_63 : decode cX4_count 63 = .ok (.ireturn, 1) := by decide +kernel
theorem dX4_count_64 : decode cX4_count 64 = .ok (.aload_n 0, 1) := by decide +kernel
theorem dX4_count_65 : decode cX4_count 65 = .ok (.getfield 81, 3) := by decide +kernel
theorem dX4_count_68 : decode cX4_count 68 = .ok (.ireturn, 1) := by decide +kernel
theorem dX4_count_69 : decode cX4_count 69 = .ok (.aload_n 0, 1) := by decide +kernel
theorem dX4_count_70 : decode cX4_count 70 = .ok (.getfield 39, 3) := by decide +kernel
theorem dX4_count_73 : decode cX4_count 73 = .ok (.getfield 148, 3) := by decide +kernel
theorem dX4_count_76 : decode cX4_count 76 = .ok (.ireturn, 1) := by decide +kernel
theorem dX4_count_77 : decode cX4_count 77 = .ok (.aload_n 0, 1) := by decide +kernel
theorem dX4_count_78 : decode cX4_count 78 = .ok (.getfield 61, 3) := by decide +kernel
theorem dX4_count_81 : decode cX4_count 81 = .ok (.ireturn, 1) := by decide +kernel
theorem dX4_count_82 : decode cX4_count 82 = .ok (.iconst (-1), 1) := by decide +kernel
theorem dX4_count_83 : decode cX4_count 83 = .ok (.ireturn, 1) := by decide +kernel
theorem dX4_trace_0 : decode cX4_trace 0 = .ok (.aload_n 0, 1) := by decide +kernel
theorem dX4_trace_1 : decode cX4_trace 1 = .ok (.getfield 248, 3) := by decide +kernel
theorem dX4_trace_4 : decode cX4_trace 4 = .ok (.lreturn, 1) := by decide +kernel
theorem dX4_isBerth_0 : decode cX4_isBerth 0 = .ok (.iload_n 1, 1) := by decide +kernel
theorem dX4_isBerth_1 : decode cX4_isBerth 1 = .ok (.iconst 1, 1) := by decide +kernel
theorem dX4_isBerth_2 : decode cX4_isBerth 2 = .ok (.if_icmp .lt 18, 3) := by decide +kernel
theorem dX4_isBerth_5 : decode cX4_isBerth 5 = .ok (.iload_n 1, 1) := by decide +kernel
theorem dX4_isBerth_6 : decode cX4_isBerth 6 = .ok (.aload_n 0, 1) := by decide +kernel
theorem dX4_isBerth_7 : decode cX4_isBerth 7 = .ok (.getfield 16, 3) := by decide +kernel
theorem dX4_isBerth_10 : decode cX4_isBerth 10 = .ok (.getfield 182, 3) := by decide +kernel
theorem dX4_isBerth_13 : decode cX4_isBerth 13 = .ok (.if_icmp .gt 7, 3) := by decide +kernel
theorem dX4_isBerth_16 : decode cX4_isBerth 16 = .ok (.iconst 1, 1) := by decide +kernel
theorem dX4_isBerth_17 : decode cX4_isBerth 17 = .ok (.goto 4, 3) := by decide +kernel
theorem dX4_isBerth_20 : decode cX4_isBerth 20 = .ok (.iconst 0, 1) := by decide +kernel
theorem dX4_isBerth_21 : decode cX4_isBerth 21 = .ok (.ireturn, 1) := by decide +kernel
theorem dX4_isDie_0 : decode cX4_isDie 0 = .ok (.iload_n 0, 1) := by decide +kernel
theorem dX4_isDie_1 : decode cX4_isDie 1 = .ok (.ifCond .lt 12, 3) := by decide +kernel
theorem dX4_isDie_4 : decode cX4_isDie 4 = .ok (.iload_n 0, 1) := by decide +kernel
theorem dX4_isDie_5 : decode cX4_isDie 5 = .ok (.iconst 3, 1) := by decide +kernel
theorem dX4_isDie_6 : decode cX4_isDie 6 = .ok (.if_icmp .ge 7, 3) := by decide +kernel
theorem dX4_isDie_9 : decode cX4_isDie 9 = .ok (.iconst 1, 1) := by decide +kernel
theorem dX4_isDie_10 : decode cX4_isDie 10 = .ok (.goto 4, 3) := by decide +kernel
theorem dX4_isDie_13 : decode cX4_isDie 13 = .ok (.iconst 0, 1) := by decide +kernel
theorem dX4_isDie_14 : decode cX4_isDie 14 = .ok (.ireturn, 1) := by decide +kernel
theorem dX4_isImage_0 : decode cX4_isImage 0 = .ok (.iload_n 0, 1) := by decide +kernel
theorem dX4_isImage_1 : decode cX4_isImage 1 = .ok (.ifCond .lt 12, 3) := by decide +kernel
theorem dX4_isImage_4 : decode cX4_isImage 4 = .ok (.iload_n 0, 1) := by decide +kernel
theorem dX4_isImage_5 : decode cX4_isImage 5 = .ok (.iconst 2, 1) := by decide +kernel
theorem dX4_isImage_6 : decode cX4_isImage 6 = .ok (.if_icmp .ge 7, 3) := by decide +kernel
theorem dX4_isImage_9 : decode cX4_isImage 9 = .ok (.iconst 1, 1) := by decide +kernel
theorem dX4_isImage_10 : decode cX4_isImage 10 = .ok (.goto 4, 3) := by decide +kernel
theorem dX4_isImage_13 : decode cX4_isImage 13 = .ok (.iconst 0, 1) := by decide +kernel
theorem dX4_isImage_14 : decode cX4_isImage 14 = .ok (.ireturn, 1) := by decide +kernel
theorem dX4_isPart_0 : decode cX4_isPart 0 = .ok (.iload_n 0, 1) := by decide +kernel
theorem dX4_isPart_1 : decode cX4_isPart 1 = .ok (.ifCond .eq 8, 3) := by decide +kernel
theorem dX4_isPart_4 : decode cX4_isPart 4 = .ok (.iload_n 0, 1) := by decide +kernel
theorem dX4_isPart_5 : decode cX4_isPart 5 = .ok (.iconst 1, 1) := by decide +kernel
theorem dX4_isPart_6 : decode cX4_isPart 6 = .ok (.if_icmp .ne 7, 3) := by decide +kernel
theorem dX4_isPart_9 : decode cX4_isPart 9 = .ok (.iconst 1, 1) := by decide +kernel
theorem dX4_isPart_10 : decode cX4_isPart 10 = .ok (.goto 4, 3) := by decide +kernel
theorem dX4_isPart_13 : decode cX4_isPart 13 = .ok (.iconst 0, 1) := by decide +kernel
theorem dX4_isPart_14 : decode cX4_isPart 14 = .ok (.ireturn, 1) := by decide +kernel
theorem dX4_bit_0 : decode cX4_bit 0 = .ok (.iconst 1, 1) := by decide +kernel
theorem dX4_bit_1 : decode cX4_bit 1 = .ok (.iload_n 0, 1) := by decide +kernel
theorem dX4_bit_2 : decode cX4_bit 2 = .ok (.ishl, 1) := by decide +kernel
theorem dX4_bit_3 : decode cX4_bit 3 = .ok (.ireturn, 1) := by decide +kernel
theorem dX4_hasBit_0 : decode cX4_hasBit 0 = .ok (.iload_n 0, 1) := by decide +kernel
theorem dX4_hasBit_1 : decode cX4_hasBit 1 = .ok (.iload_n 1, 1) := by decide +kernel
theorem dX4_hasBit_2 : decode cX4_hasBit 2 = .ok (.invokestatic 185, 3) := by decide +kernel
theorem dX4_hasBit_5 : decode cX4_hasBit 5 = .ok (.iand, 1) := by decide +kernel
theorem dX4_hasBit_6 : decode cX4_hasBit 6 = .ok (.ifCond .eq 7, 3) := by decide +kernel
theorem dX4_hasBit_9 : decode cX4_hasBit 9 = .ok (.iconst 1, 1) := by decide +kernel
theorem dX4_hasBit_10 : decode cX4_hasBit 10 = .ok (.goto 4, 3) := by decide +kernel
theorem dX4_hasBit_13 : decode cX4_hasBit 13 = .ok (.iconst 0, 1) := by decide +kernel
theorem dX4_hasBit_14 : decode cX4_hasBit 14 = .ok (.ireturn, 1) := by decide +kernel
theorem dX4_partOf_0 : decode cX4_partOf 0 = .ok (.iload_n 0, 1) := by decide +kernel
theorem dX4_partOf_1 : decode cX4_partOf 1 = .ok (.iload_n 1, 1) := by decide +kernel
theorem dX4_partOf_2 : decode cX4_partOf 2 = .ok (.invokestatic 252, 3) := by decide +kernel
theorem dX4_partOf_5 : decode cX4_partOf 5 = .ok (.istore_n 3, 1) := by decide +kernel
theorem dX4_partOf_6 : decode cX4_partOf 6 = .ok (.iload_n 2, 1) := by decide +kernel
theorem dX4_partOf_7 : decode cX4_partOf 7 = .ok (.ifCond .ne 7, 3) := by decide +kernel
theorem dX4_partOf_10 : decode cX4_partOf 10 = .ok (.iload_n 0, 1) := by decide +kernel
theorem dX4_partOf_11 : decode cX4_partOf 11 = .ok (.goto 4, 3) := by decide +kernel
theorem dX4_partOf_14 : decode cX4_partOf 14 = .ok (.iload_n 1, 1) := by decide +kernel
theorem dX4_partOf_15 : decode cX4_partOf 15 = .ok (.istore 4, 2) := by decide +kernel
theorem dX4_partOf_17 : decode cX4_partOf 17 = .ok (.iload_n 3, 1) := by decide +kernel
theorem dX4_partOf_18 : decode cX4_partOf 18 = .ok (.ifCond .ne 8, 3) := by decide +kernel
theorem dX4_partOf_21 : decode cX4_partOf 21 = .ok (.iload 4, 2) := by decide +kernel
theorem dX4_partOf_23 : decode cX4_partOf 23 = .ok (.goto 7, 3) := by decide +kernel
theorem dX4_partOf_26 : decode cX4_partOf 26 = .ok (.iload 4, 2) := by decide +kernel
theorem dX4_partOf_28 : decode cX4_partOf 28 = .ok (.iload_n 3, 1) := by decide +kernel
theorem dX4_partOf_29 : decode cX4_partOf 29 = .ok (.idiv, 1) := by decide +kernel
theorem dX4_partOf_30 : decode cX4_partOf 30 = .ok (.ireturn, 1) := by decide +kernel
theorem dX4_commonOf_0 : decode cX4_commonOf 0 = .ok (.iload_n 0, 1) := by decide +kernel
theorem dX4_commonOf_1 : decode cX4_commonOf 1 = .ok (.istore_n 2, 1) := by decide +kernel
theorem dX4_commonOf_2 : decode cX4_commonOf 2 = .ok (.iload_n 1, 1) := by decide +kernel
theorem dX4_commonOf_3 : decode cX4_commonOf 3 = .ok (.istore_n 3, 1) := by decide +kernel
theorem dX4_commonOf_4 : decode cX4_commonOf 4 = .ok (.iconst 0, 1) := by decide +kernel
theorem dX4_commonOf_5 : decode cX4_commonOf 5 = .ok (.istore 4, 2) := by decide +kernel
theorem dX4_commonOf_7 : decode cX4_commonOf 7 = .ok (.iload 4, 2) := by decide +kernel
theorem dX4_commonOf_9 : decode cX4_commonOf 9 = .ok (.bipush 100, 2) := by decide +kernel
theorem dX4_commonOf_11 : decode cX4_commonOf 11 = .ok (.if_icmp .ge 23, 3) := by decide +kernel
theorem dX4_commonOf_14 : decode cX4_commonOf 14 = .ok (.iload_n 3, 1) := by decide +kernel
theorem dX4_commonOf_15 : decode cX4_commonOf 15 = .ok (.ifCond .eq 19, 3) := by decide +kernel
theorem dX4_commonOf_18 : decode cX4_commonOf 18 = .ok (.iload_n 2, 1) := by decide +kernel
theorem dX4_commonOf_19 : decode cX4_commonOf 19 = .ok (.iload_n 3, 1) := by decide +kernel
theorem dX4_commonOf_20 : decode cX4_commonOf 20 = .ok (.irem, 1) := by decide +kernel
theorem dX4_commonOf_21 : decode cX4_commonOf 21 = .ok (.istore 5, 2) := by decide +kernel
theorem dX4_commonOf_23 : decode cX4_commonOf 23 = .ok (.iload_n 3, 1) := by decide +kernel
theorem dX4_commonOf_24 : decode cX4_commonOf 24 = .ok (.istore_n 2, 1) := by decide +kernel
theorem dX4_commonOf_25 : decode cX4_commonOf 25 = .ok (.iload 5, 2) := by decide +kernel
theorem dX4_commonOf_27 : decode cX4_commonOf 27 = .ok (.istore_n 3, 1) := by decide +kernel
theorem dX4_commonOf_28 : decode cX4_commonOf 28 = .ok (.iinc 4 1, 3) := by decide +kernel
theorem dX4_commonOf_31 : decode cX4_commonOf 31 = .ok (.goto (-24), 3) := by decide +kernel
theorem dX4_commonOf_34 : decode cX4_commonOf 34 = .ok (.iload_n 2, 1) := by decide +kernel
theorem dX4_commonOf_35 : decode cX4_commonOf 35 = .ok (.ireturn, 1) := by decide +kernel
theorem dX4_throwsFor_0 : decode cX4_throwsFor 0 = .ok (.aload_n 0, 1) := by decide +kernel
theorem dX4_throwsFor_1 : decode cX4_throwsFor 1 = .ok (.getfield 30, 3) := by decide +kernel
theorem dX4_throwsFor_4 : decode cX4_throwsFor 4 = .ok (.aload_n 0, 1) := by decide +kernel
theorem dX4_throwsFor_5 : decode cX4_throwsFor 5 = .ok (.getfield 39, 3) := by decide +kernel
theorem dX4_throwsFor_8 : decode cX4_throwsFor 8 = .ok (.invokevirtual 173, 3) := by decide +kernel
theorem dX4_throwsFor_11 : decode cX4_throwsFor 11 = .ok (.iload_n 1, 1) := by decide +kernel
theorem dX4_throwsFor_12 : decode cX4_throwsFor 12 = .ok (.invokestatic 185, 3) := by decide +kernel
theorem dX4_throwsFor_15 : decode cX4_throwsFor 15 = .ok (.iand, 1) := by decide +kernel
theorem dX4_throwsFor_16 : decode cX4_throwsFor 16 = .ok (.aload_n 0, 1) := by decide +kernel
theorem dX4_throwsFor_17 : decode cX4_throwsFor 17 = .ok (.getfield 39, 3) := by decide +kernel
theorem dX4_throwsFor_20 : decode cX4_throwsFor 20 = .ok (.invokevirtual 154, 3) := by decide +kernel
theorem dX4_throwsFor_23 : decode cX4_throwsFor 23 = .ok (.invokevirtual 176, 3) := by decide +kernel
theorem dX4_throwsFor_26 : decode cX4_throwsFor 26 = .ok (.ireturn, 1) := by decide +kernel
theorem dX4_offOf_0 : decode cX4_offOf 0 = .ok (.aload_n 0, 1) := by decide +kernel
theorem dX4_offOf_1 : decode cX4_offOf 1 = .ok (.getfield 55, 3) := by decide +kernel
theorem dX4_offOf_4 : decode cX4_offOf 4 = .ok (.iload_n 1, 1) := by decide +kernel
theorem dX4_offOf_5 : decode cX4_offOf 5 = .ok (.iaload, 1) := by decide +kernel
theorem dX4_offOf_6 : decode cX4_offOf 6 = .ok (.aload_n 0, 1) := by decide +kernel
theorem dX4_offOf_7 : decode cX4_offOf 7 = .ok (.getfield 30, 3) := by decide +kernel
theorem dX4_offOf_10 : decode cX4_offOf 10 = .ok (.getfield 167, 3) := by decide +kernel
theorem dX4_offOf_13 : decode cX4_offOf 13 = .ok (.imul, 1) := by decide +kernel
theorem dX4_offOf_14 : decode cX4_offOf 14 = .ok (.sipush 216, 3) := by decide +kernel
theorem dX4_offOf_17 : decode cX4_offOf 17 = .ok (.aload_n 0, 1) := by decide +kernel
theorem dX4_offOf_18 : decode cX4_offOf 18 = .ok (.aload_n 0, 1) := by decide +kernel
theorem dX4_offOf_19 : decode cX4_offOf 19 = .ok (.getfield 51, 3) := by decide +kernel
theorem dX4_offOf_22 : decode cX4_offOf 22 = .ok (.iload_n 1, 1) := by decide +kernel
theorem dX4_offOf_23 : decode cX4_offOf 23 = .ok (.iaload, 1) := by decide +kernel
theorem dX4_offOf_24 : decode cX4_offOf 24 = .ok (.invokevirtual 164, 3) := by decide +kernel
theorem dX4_offOf_27 : decode cX4_offOf 27 = .ok (.imul, 1) := by decide +kernel
theorem dX4_offOf_28 : decode cX4_offOf 28 = .ok (.isub, 1) := by decide +kernel
theorem dX4_offOf_29 : decode cX4_offOf 29 = .ok (.ireturn, 1) := by decide +kernel
theorem dX4_raceOf_0 : decode cX4_raceOf 0 = .ok (.aload_n 0, 1) := by decide +kernel
theorem dX4_raceOf_1 : decode cX4_raceOf 1 = .ok (.getfield 16, 3) := by decide +kernel
theorem dX4_raceOf_4 : decode cX4_raceOf 4 = .ok (.getfield 245, 3) := by decide +kernel
theorem dX4_raceOf_7 : decode cX4_raceOf 7 = .ok (.aload_n 0, 1) := by decide +kernel
theorem dX4_raceOf_8 : decode cX4_raceOf 8 = .ok (.getfield 39, 3) := by decide +kernel
theorem dX4_raceOf_11 : decode cX4_raceOf 11 = .ok (.iload_n 1, 1) := by decide +kernel
theorem dX4_raceOf_12 : decode cX4_raceOf 12 = .ok (.invokevirtual 102, 3) := by decide +kernel
theorem dX4_raceOf_15 : decode cX4_raceOf 15 = .ok (.invokestatic 255, 3) := by decide +kernel
theorem dX4_raceOf_18 : decode cX4_raceOf 18 = .ok (.isub, 1) := by decide +kernel
theorem dX4_raceOf_19 : decode cX4_raceOf 19 = .ok (.istore_n 2, 1) := by decide +kernel
theorem dX4_raceOf_20 : decode cX4_raceOf 20 = .ok (.iload_n 2, 1) := by decide +kernel
theorem dX4_raceOf_21 : decode cX4_raceOf 21 = .ok (.ifCond .gt 5, 3) := by decide +kernel
theorem dX4_raceOf_24 : decode cX4_raceOf 24 = .ok (.iconst 0, 1) := by decide +kernel
theorem dX4_raceOf_25 : decode cX4_raceOf 25 = .ok (.ireturn, 1) := by decide +kernel
theorem dX4_raceOf_26 : decode cX4_raceOf 26 = .ok (.aload_n 0, 1) := by decide +kernel
theorem dX4_raceOf_27 : decode cX4_raceOf 27 = .ok (.getfield 30, 3) := by decide +kernel
theorem dX4_raceOf_30 : decode cX4_raceOf 30 = .ok (.getfield 191, 3) := by decide +kernel
theorem dX4_raceOf_33 : decode cX4_raceOf 33 = .ok (.aload_n 0, 1) := by decide +kernel
theorem dX4_raceOf_34 : decode cX4_raceOf 34 = .ok (.getfield 39, 3) := by decide +kernel
theorem dX4_raceOf_37 : decode cX4_raceOf 37 = .ok (.invokevirtual 173, 3) := by decide +kernel
theorem dX4_raceOf_40 : decode cX4_raceOf 40 = .ok (.iand, 1) := by decide +kernel
theorem dX4_raceOf_41 : decode cX4_raceOf 41 = .ok (.invokestatic 255, 3) := by decide +kernel
theorem dX4_raceOf_44 : decode cX4_raceOf 44 = .ok (.iload_n 2, 1) := by decide +kernel
theorem dX4_raceOf_45 : decode cX4_raceOf 45 = .ok (.if_icmp .ge 8, 3) := by decide +kernel
theorem dX4_raceOf_48 : decode cX4_raceOf 48 = .ok (.bipush (-9), 2) := by decide +kernel
theorem dX4_raceOf_50 : decode cX4_raceOf 50 = .ok (.goto 4, 3) := by decide +kernel
theorem dX4_raceOf_53 : decode cX4_raceOf 53 = .ok (.iload_n 2, 1) := by decide +kernel
theorem dX4_raceOf_54 : decode cX4_raceOf 54 = .ok (.ireturn, 1) := by decide +kernel
theorem dX4_berthMark_0 : decode cX4_berthMark 0 = .ok (.aload_n 0, 1) := by decide +kernel
theorem dX4_berthMark_1 : decode cX4_berthMark 1 = .ok (.dup, 1) := by decide +kernel
theorem dX4_berthMark_2 : decode cX4_berthMark 2 = .ok (.getfield 248, 3) := by decide +kernel
theorem dX4_berthMark_5 : decode cX4_berthMark 5 = .ok (.lconst 1, 1) := by decide +kernel
theorem dX4_berthMark_6 : decode cX4_berthMark 6 = .ok (.ladd, 1) := by decide +kernel
theorem dX4_berthMark_7 : decode cX4_berthMark 7 = .ok (.putfield 248, 3) := by decide +kernel
theorem dX4_berthMark_10 : decode cX4_berthMark 10 = .ok (.iload_n 1, 1) := by decide +kernel
theorem dX4_berthMark_11 : decode cX4_berthMark 11 = .ok (.ireturn, 1) := by decide +kernel
theorem dX4_shipMark_0 : decode cX4_shipMark 0 = .ok (.aload_n 0, 1) := by decide +kernel
theorem dX4_shipMark_1 : decode cX4_shipMark 1 = .ok (.dup, 1) := by decide +kernel
theorem dX4_shipMark_2 : decode cX4_shipMark 2 = .ok (.getfield 248, 3) := by decide +kernel
theorem dX4_shipMark_5 : decode cX4_shipMark 5 = .ok (.ldc2_w 260, 3) := by decide +kernel
theorem dX4_shipMark_8 : decode cX4_shipMark 8 = .ok (.ladd, 1) := by decide +kernel
theorem dX4_shipMark_9 : decode cX4_shipMark 9 = .ok (.putfield 248, 3) := by decide +kernel
theorem dX4_shipMark_12 : decode cX4_shipMark 12 = .ok (.aload_n 0, 1) := by decide +kernel
theorem dX4_shipMark_13 : decode cX4_shipMark 13 = .ok (.iload_n 1, 1) := by decide +kernel
theorem dX4_shipMark_14 : decode cX4_shipMark 14 = .ok (.invokevirtual 221, 3) := by decide +kernel
theorem dX4_shipMark_17 : decode cX4_shipMark 17 = .ok (.aload_n 0, 1) := by decide +kernel
theorem dX4_shipMark_18 : decode cX4_shipMark 18 = .ok (.iload_n 1, 1) := by decide +kernel
theorem dX4_shipMark_19 : decode cX4_shipMark 19 = .ok (.invokevirtual 164, 3) := by decide +kernel
theorem dX4_shipMark_22 : decode cX4_shipMark 22 = .ok (.iadd, 1) := by decide +kernel
theorem dX4_shipMark_23 : decode cX4_shipMark 23 = .ok (.ireturn, 1) := by decide +kernel
theorem dX4_quayMark_0 : decode cX4_quayMark 0 = .ok (.aload_n 0, 1) := by decide +kernel
theorem dX4_quayMark_1 : decode cX4_quayMark 1 = .ok (.dup, 1) := by decide +kernel
theorem dX4_quayMark_2 : decode cX4_quayMark 2 = .ok (.getfield 248, 3) := by decide +kernel
theorem dX4_quayMark_5 : decode cX4_quayMark 5 = .ok (.ldc2_w 262, 3) := by decide +kernel
theorem dX4_quayMark_8 : decode cX4_quayMark 8 = .ok (.ladd, 1) := by decide +kernel
theorem dX4_quayMark_9 : decode cX4_quayMark 9 = .ok (.putfield 248, 3) := by decide +kernel
theorem dX4_quayMark_12 : decode cX4_quayMark 12 = .ok (.aload_n 0, 1) := by decide +kernel
theorem dX4_quayMark_13 : decode cX4_quayMark 13 = .ok (.iload_n 1, 1) := by decide +kernel
theorem dX4_quayMark_14 : decode cX4_quayMark 14 = .ok (.invokevirtual 221, 3) := by decide +kernel
theorem dX4_quayMark_17 : decode cX4_quayMark 17 = .ok (.aload_n 0, 1) := by decide +kernel
theorem dX4_quayMark_18 : decode cX4_quayMark 18 = .ok (.getfield 39, 3) := by decide +kernel
theorem dX4_quayMark_21 : decode cX4_quayMark 21 = .ok (.invokevirtual 264, 3) := by decide +kernel
theorem dX4_quayMark_24 : decode cX4_quayMark 24 = .ok (.invokestatic 255, 3) := by decide +kernel
theorem dX4_quayMark_27 : decode cX4_quayMark 27 = .ok (.isub, 1) := by decide +kernel
theorem dX4_quayMark_28 : decode cX4_quayMark 28 = .ok (.ireturn, 1) := by decide +kernel
theorem dX4_coalMark_0 : decode cX4_coalMark 0 = .ok (.aload_n 0, 1) := by decide +kernel
theorem dX4_coalMark_1 : decode cX4_coalMark 1 = .ok (.dup, 1) := by decide +kernel
theorem dX4_coalMark_2 : decode cX4_coalMark 2 = .ok (.getfield 248, 3) := by decide +kernel
theorem dX4_coalMark_5 : decode cX4_coalMark 5 = .ok (.ldc2_w 267, 3) := by decide +kernel
theorem dX4_coalMark_8 : decode cX4_coalMark 8 = .ok (.ladd, 1) := by decide +kernel
theorem dX4_coalMark_9 : decode cX4_coalMark 9 = .ok (.putfield 248, 3) := by decide +kernel
theorem dX4_coalMark_12 : decode cX4_coalMark 12 = .ok (.aload_n 0, 1) := by decide +kernel
theorem dX4_coalMark_13 : decode cX4_coalMark 13 = .ok (.iload_n 1, 1) := by decide +kernel
theorem dX4_coalMark_14 : decode cX4_coalMark 14 = .ok (.invokevirtual 224, 3) := by decide +kernel
theorem dX4_coalMark_17 : decode cX4_coalMark 17 = .ok (.iconst 2, 1) := by decide +kernel
theorem dX4_coalMark_18 : decode cX4_coalMark 18 = .ok (.imul, 1) := by decide +kernel
theorem dX4_coalMark_19 : decode cX4_coalMark 19 = .ok (.ireturn, 1) := by decide +kernel
theorem dX4_lentMark_0 : decode cX4_lentMark 0 = .ok (.aload_n 0, 1) := by decide +kernel
theorem dX4_lentMark_1 : decode cX4_lentMark 1 = .ok (.dup, 1) := by decide +kernel
theorem dX4_lentMark_2 : decode cX4_lentMark 2 = .ok (.getfield 248, 3) := by decide +kernel
theorem dX4_lentMark_5 : decode cX4_lentMark 5 = .ok (.ldc2_w 269, 3) := by decide +kernel
theorem dX4_lentMark_8 : decode cX4_lentMark 8 = .ok (.ladd, 1) := by decide +kernel
theorem dX4_lentMark_9 : decode cX4_lentMark 9 = .ok (.putfield 248, 3) := by decide +kernel
theorem dX4_lentMark_12 : decode cX4_lentMark 12 = .ok (.aload_n 0, 1) := by decide +kernel
theorem dX4_lentMark_13 : decode cX4_lentMark 13 = .ok (.iload_n 1, 1) := by decide +kernel
theorem dX4_lentMark_14 : decode cX4_lentMark 14 = .ok (.invokevirtual 227, 3) := by decide +kernel
theorem dX4_lentMark_17 : decode cX4_lentMark 17 = .ok (.aload_n 0, 1) := by decide +kernel
theorem dX4_lentMark_18 : decode cX4_lentMark 18 = .ok (.getfield 39, 3) := by decide +kernel
theorem dX4_lentMark_21 : decode cX4_lentMark 21 = .ok (.invokevirtual 154, 3) := by decide +kernel
theorem dX4_lentMark_24 : decode cX4_lentMark 24 = .ok (.bipush 7, 2) := by decide +kernel
theorem dX4_lentMark_26 : decode cX4_lentMark 26 = .ok (.imul, 1) := by decide +kernel
theorem dX4_lentMark_27 : decode cX4_lentMark 27 = .ok (.iadd, 1) := by decide +kernel
theorem dX4_lentMark_28 : decode cX4_lentMark 28 = .ok (.ireturn, 1) := by decide +kernel
theorem dX4_pilotMark_0 : decode cX4_pilotMark 0 = .ok (.aload_n 0, 1) := by decide +kernel
theorem dX4_pilotMark_1 : decode cX4_pilotMark 1 = .ok (.dup, 1) := by decide +kernel
theorem dX4_pilotMark_2 : decode cX4_pilotMark 2 = .ok (.getfield 248, 3) := by decide +kernel
theorem dX4_pilotMark_5 : decode cX4_pilotMark 5 = .ok (.ldc2_w 271, 3) := by decide +kernel
theorem dX4_pilotMark_8 : decode cX4_pilotMark 8 = .ok (.ladd, 1) := by decide +kernel
theorem dX4_pilotMark_9 : decode cX4_pilotMark 9 = .ok (.putfield 248, 3) := by decide +kernel
theorem dX4_pilotMark_12 : decode cX4_pilotMark 12 = .ok (.aload_n 0, 1) := by decide +kernel
theorem dX4_pilotMark_13 : decode cX4_pilotMark 13 = .ok (.iload_n 1, 1) := by decide +kernel
theorem dX4_pilotMark_14 : decode cX4_pilotMark 14 = .ok (.invokevirtual 221, 3) := by decide +kernel
theorem dX4_pilotMark_17 : decode cX4_pilotMark 17 = .ok (.aload_n 0, 1) := by decide +kernel
theorem dX4_pilotMark_18 : decode cX4_pilotMark 18 = .ok (.getfield 39, 3) := by decide +kernel
theorem dX4_pilotMark_21 : decode cX4_pilotMark 21 = .ok (.iconst 0, 1) := by decide +kernel
theorem dX4_pilotMark_22 : decode cX4_pilotMark 22 = .ok (.invokevirtual 105, 3) := by decide +kernel
theorem dX4_pilotMark_25 : decode cX4_pilotMark 25 = .ok (.iadd, 1) := by decide +kernel
theorem dX4_pilotMark_26 : decode cX4_pilotMark 26 = .ok (.aload_n 0, 1) := by decide +kernel
theorem dX4_pilotMark_27 : decode cX4_pilotMark 27 = .ok (.getfield 39, 3) := by decide +kernel
theorem dX4_pilotMark_30 : decode cX4_pilotMark 30 = .ok (.iconst 1, 1) := by decide +kernel
theorem dX4_pilotMark_31 : decode cX4_pilotMark 31 = .ok (.invokevirtual 105, 3) := by decide +kernel
theorem dX4_pilotMark_34 : decode cX4_pilotMark 34 = .ok (.iadd, 1) := by decide +kernel
theorem dX4_pilotMark_35 : decode cX4_pilotMark 35 = .ok (.ireturn, 1) := by decide +kernel
