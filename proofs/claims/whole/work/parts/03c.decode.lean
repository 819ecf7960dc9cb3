theorem dX5_init_0 : decode cX5_init 0 = .ok (.aload_n 0, 1) := by decide +kernel
theorem dX5_init_1 : decode cX5_init 1 = .ok (.invokespecial 1, 3) := by decide +kernel
theorem dX5_init_4 : decode cX5_init 4 = .ok (.aload_n 0, 1) := by decide +kernel
theorem dX5_init_5 : decode cX5_init 5 = .ok (.bipush 63, 2) := by decide +kernel
theorem dX5_init_7 : decode cX5_init 7 = .ok (.newarray .int, 2) := by decide +kernel
theorem dX5_init_9 : decode cX5_init 9 = .ok (.putfield 7, 3) := by decide +kernel
theorem dX5_init_12 : decode cX5_init 12 = .ok (.aload_n 0, 1) := by decide +kernel
theorem dX5_init_13 : decode cX5_init 13 = .ok (.bipush 63, 2) := by decide +kernel
theorem dX5_init_15 : decode cX5_init 15 = .ok (.newarray .int, 2) := by decide +kernel
theorem dX5_init_17 : decode cX5_init 17 = .ok (.putfield 13, 3) := by decide +kernel
theorem dX5_init_20 : decode cX5_init 20 = .ok (.aload_n 0, 1) := by decide +kernel
theorem dX5_init_21 : decode cX5_init 21 = .ok (.bipush 63, 2) := by decide +kernel
theorem dX5_init_23 : decode cX5_init 23 = .ok (.newarray .int, 2) := by decide +kernel
theorem dX5_init_25 : decode cX5_init 25 = .ok (.putfield 16, 3) := by decide +kernel
theorem dX5_init_28 : decode cX5_init 28 = .ok (.aload_n 0, 1) := by decide +kernel
theorem dX5_init_29 : decode cX5_init 29 = .ok (.bipush 63, 2) := by decide +kernel
theorem dX5_init_31 : decode cX5_init 31 = .ok (.newarray .int, 2) := by decide +kernel
theorem dX5_init_33 : decode cX5_init 33 = .ok (.putfield 19, 3) := by decide +kernel
theorem dX5_init_36 : decode cX5_init 36 = .ok (.aload_n 0, 1) := by decide +kernel
theorem dX5_init_37 : decode cX5_init 37 = .ok (.bipush 7, 2) := by decide +kernel
theorem dX5_init_39 : decode cX5_init 39 = .ok (.newarray .int, 2) := by decide +kernel
theorem dX5_init_41 : decode cX5_init 41 = .ok (.putfield 22, 3) := by decide +kernel
theorem dX5_init_44 : decode cX5_init 44 = .ok (.aload_n 0, 1) := by decide +kernel
theorem dX5_init_45 : decode cX5_init 45 = .ok (.bipush 120, 2) := by decide +kernel
theorem dX5_init_47 : decode cX5_init 47 = .ok (.newarray .byte, 2) := by decide +kernel
theorem dX5_init_49 : decode cX5_init 49 = .ok (.putfield 25, 3) := by decide +kernel
theorem dX5_init_52 : decode cX5_init 52 = .ok (.aload_n 0, 1) := by decide +kernel
theorem dX5_init_53 : decode cX5_init 53 = .ok (.iconst 4, 1) := by decide +kernel
theorem dX5_init_54 : decode cX5_init 54 = .ok (.newarray .int, 2) := by decide +kernel
theorem dX5_init_56 : decode cX5_init 56 = .ok (.putfield 29, 3) := by decide +kernel
theorem dX5_init_59 : decode cX5_init 59 = .ok (.aload_n 0, 1) := by decide +kernel
theorem dX5_init_60 : decode cX5_init 60 = .ok (.iconst 4, 1) := by decide +kernel
theorem dX5_init_61 : decode cX5_init 61 = .ok (.newarray .int, 2) := by decide +kernel
theorem dX5_init_63 : decode cX5_init 63 = .ok (.putfield 32, 3) := by decide +kernel
theorem dX5_init_66 : decode cX5_init 66 = .ok (.aload_n 0, 1) := by decide +kernel
theorem dX5_init_67 : decode cX5_init 67 = .ok (.sipush 160, 3) := by decide +kernel
theorem dX5_init_70 : decode cX5_init 70 = .ok (.newarray .int, 2) := by decide +kernel
theorem dX5_init_72 : decode cX5_init 72 = .ok (.putfield 35, 3) := by decide +kernel
theorem dX5_init_75 : decode cX5_init 75 = .ok (.aload_n 0, 1) := by decide +kernel
theorem dX5_init_76 : decode cX5_init 76 = .ok (.bipush 40, 2) := by decide +kernel
theorem dX5_init_78 : decode cX5_init 78 = .ok (.newarray .int, 2) := by decide +kernel
theorem dX5_init_80 : decode cX5_init 80 = .ok (.putfield 38, 3) := by decide +kernel
theorem dX5_init_83 : decode cX5_init 83 = .ok (.aload_n 0, 1) := by decide +kernel
theorem dX5_init_84 : decode cX5_init 84 = .ok (.getfield 7, 3) := by decide +kernel
theorem dX5_init_87 : decode cX5_init 87 = .ok (.iconst 2, 1) := by decide +kernel
theorem dX5_init_88 : decode cX5_init 88 = .ok (.iconst 1, 1) := by decide +kernel
theorem dX5_init_89 : decode cX5_init 89 = .ok (.iastore, 1) := by decide +kernel
theorem dX5_init_90 : decode cX5_init 90 = .ok (.aload_n 0, 1) := by decide +kernel
theorem dX5_init_91 : decode cX5_init 91 = .ok (.getfield 7, 3) := by decide +kernel
theorem dX5_init_94 : decode cX5_init 94 = .ok (.iconst 3, 1) := by decide +kernel
theorem dX5_init_95 : decode cX5_init 95 = .ok (.bipush 6, 2) := by decide +kernel
theorem dX5_init_97 : decode cX5_init 97 = .ok (.iastore, 1) := by decide +kernel
theorem dX5_init_98 : decode cX5_init 98 = .ok (.aload_n 0, 1) := by decide +kernel
theorem dX5_init_99 : decode cX5_init 99 = .ok (.getfield 7, 3) := by decide +kernel
theorem dX5_init_102 : decode cX5_init 102 = .ok (.iconst 4, 1) := by decide +kernel
theorem dX5_init_103 : decode cX5_init 103 = .ok (.bipush 11, 2) := by decide +kernel
theorem dX5_init_105 : decode cX5_init 105 = .ok (.iastore, 1) := by decide +kernel
theorem dX5_init_106 : decode cX5_init 106 = .ok (.aload_n 0, 1) := by decide +kernel
theorem dX5_init_107 : decode cX5_init 107 = .ok (.getfield 7, 3) := by decide +kernel
theorem dX5_init_110 : decode cX5_init 110 = .ok (.iconst 5, 1) := by decide +kernel
theorem dX5_init_111 : decode cX5_init 111 = .ok (.iconst 1, 1) := by decide +kernel
theorem dX5_init_112 : decode cX5_init 112 = .ok (.iastore, 1) := by decide +kernel
theorem dX5_init_113 : decode cX5_init 113 = .ok (.aload_n 0, 1) := by decide +kernel
theorem dX5_init_114 : decode cX5_init 114 = .ok (.getfield 7, 3) := by decide +kernel
theorem dX5_init_117 : decode cX5_init 117 = .ok (.bipush 6, 2) := by decide +kernel
theorem dX5_init_119 : decode cX5_init 119 = .ok (.iconst 4, 1) := by decide +kernel
theorem dX5_init_120 : decode cX5_init 120 = .ok (.iastore, 1) := by decide +kernel
theorem dX5_init_121 : decode cX5_init 121 = .ok (.return_, 1) := by decide +kernel
theorem dX5_finds_0 : decode cX5_finds 0 = .ok (.aload_n 0, 1) := by decide +kernel
theorem dX5_finds_1 : decode cX5_finds 1 = .ok (.getfield 22, 3) := by decide +kernel
theorem dX5_finds_4 : decode cX5_finds 4 = .ok (.iload_n 1, 1) := by decide +kernel
theorem dX5_finds_5 : decode cX5_finds 5 = .ok (.dup2, 1) := by decide +kernel
theorem dX5_finds_6 : decode cX5_finds 6 = .ok (.iaload, 1) := by decide +kernel
theorem dX5_finds_7 : decode cX5_finds 7 = .ok (.iconst 1, 1) := by decide +kernel
theorem dX5_finds_8 : decode cX5_finds 8 = .ok (.iadd, 1) := by decide +kernel
theorem dX5_finds_9 : decode cX5_finds 9 = .ok (.iastore, 1) := by decide +kernel
theorem dX5_finds_10 : decode cX5_finds 10 = .ok (.ldc 41, 2) := by decide +kernel
theorem dX5_finds_12 : decode cX5_finds 12 = .ok (.iload_n 1, 1) := by decide +kernel
theorem dX5_finds_13 : decode cX5_finds 13 = .ok (.isub, 1) := by decide +kernel
theorem dX5_finds_14 : decode cX5_finds 14 = .ok (.ireturn, 1) := by decide +kernel
theorem dX5_in_0 : decode cX5_in 0 = .ok (.lload_n 0, 1) := by decide +kernel
theorem dX5_in_1 : decode cX5_in 1 = .ok (.lload_n 2, 1) := by decide +kernel
theorem dX5_in_2 : decode cX5_in 2 = .ok (.lcmp, 1) := by decide +kernel
theorem dX5_in_3 : decode cX5_in 3 = .ok (.ifCond .lt 14, 3) := by decide +kernel
theorem dX5_in_6 : decode cX5_in 6 = .ok (.lload_n 0, 1) := by decide +kernel
theorem dX5_in_7 : decode cX5_in 7 = .ok (.lload 4, 2) := by decide +kernel
theorem dX5_in_9 : decode cX5_in 9 = .ok (.lcmp, 1) := by decide +kernel
theorem dX5_in_10 : decode cX5_in 10 = .ok (.ifCond .gt 7, 3) := by decide +kernel
theorem dX5_in_13 : decode cX5_in 13 = .ok (.iconst 1, 1) := by decide +kernel
theorem dX5_in_14 : decode cX5_in 14 = .ok (.goto 4, 3) := by decide +kernel
theorem dX5_in_17 : decode cX5_in 17 = .ok (.iconst 0, 1) := by decide +kernel
theorem dX5_in_18 : decode cX5_in 18 = .ok (.ireturn, 1) := by decide +kernel
theorem dX5_held_0 : decode cX5_held 0 = .ok (.iload_n 0, 1) := by decide +kernel
theorem dX5_held_1 : decode cX5_held 1 = .ok (.iload_n 1, 1) := by decide +kernel
theorem dX5_held_2 : decode cX5_held 2 = .ok (.if_icmp .ge 7, 3) := by decide +kernel
theorem dX5_held_5 : decode cX5_held 5 = .ok (.iload_n 1, 1) := by decide +kernel
theorem dX5_held_6 : decode cX5_held 6 = .ok (.goto 13, 3) := by decide +kernel
theorem dX5_held_9 : decode cX5_held 9 = .ok (.iload_n 0, 1) := by decide +kernel
theorem dX5_held_10 : decode cX5_held 10 = .ok (.iload_n 2, 1) := by decide +kernel
theorem dX5_held_11 : decode cX5_held 11 = .ok (.if_icmp .le 7, 3) := by decide +kernel
theorem dX5_held_14 : decode cX5_held 14 = .ok (.iload_n 2, 1) := by decide +kernel
theorem dX5_held_15 : decode cX5_held 15 = .ok (.goto 4, 3) := by decide +kernel
theorem dX5_held_18 : decode cX5_held 18 = .ok (.iload_n 0, 1) := by decide +kernel
theorem dX5_held_19 : decode cX5_held 19 = .ok (.ireturn, 1) := by decide +kernel
theorem dX5_copies_0 : decode cX5_copies 0 = .ok (.iconst 0, 1) := by decide +kernel
theorem dX5_copies_1 : decode cX5_copies 1 = .ok (.istore_n 2, 1) := by decide +kernel
theorem dX5_copies_2 : decode cX5_copies 2 = .ok (.iload_n 2, 1) := by decide +kernel
theorem dX5_copies_3 : decode cX5_copies 3 = .ok (.bipush 63, 2) := by decide +kernel
theorem dX5_copies_5 : decode cX5_copies 5 = .ok (.if_icmp .ge 15, 3) := by decide +kernel
theorem dX5_copies_8 : decode cX5_copies 8 = .ok (.aload_n 1, 1) := by decide +kernel
theorem dX5_copies_9 : decode cX5_copies 9 = .ok (.iload_n 2, 1) := by decide +kernel
theorem dX5_copies_10 : decode cX5_copies 10 = .ok (.aload_n 0, 1) := by decide +kernel
theorem dX5_copies_11 : decode cX5_copies 11 = .ok (.iload_n 2, 1) := by decide +kernel
theorem dX5_copies_12 : decode cX5_copies 12 = .ok (.iaload, 1) := by decide +kernel
theorem dX5_copies_13 : decode cX5_copies 13 = .ok (.iastore, 1) := by decide +kernel
theorem dX5_copies_14 : decode cX5_copies 14 = .ok (.iinc 2 1, 3) := by decide +kernel
theorem dX5_copies_17 : decode cX5_copies 17 = .ok (.goto (-15), 3) := by decide +kernel
theorem dX5_copies_20 : decode cX5_copies 20 = .ok (.return_, 1) := by decide +kernel
theorem dX5_isResident_0 : decode cX5_isResident 0 = .ok (.iload_n 1, 1) := by decide +kernel
theorem dX5_isResident_1 : decode cX5_isResident 1 = .ok (.i2l, 1) := by decide +kernel
theorem dX5_isResident_2 : decode cX5_isResident 2 = .ok (.lconst 0, 1) := by decide +kernel
theorem dX5_isResident_3 : decode cX5_isResident 3 = .ok (.aload_n 0, 1) := by decide +kernel
theorem dX5_isResident_4 : decode cX5_isResident 4 = .ok (.getfield 7, 3) := by decide +kernel
theorem dX5_isResident_7 : decode cX5_isResident 7 = .ok (.iconst 0, 1) := by decide +kernel
theorem dX5_isResident_8 : decode cX5_isResident 8 = .ok (.iaload, 1) := by decide +kernel
theorem dX5_isResident_9 : decode cX5_isResident 9 = .ok (.iconst 1, 1) := by decide +kernel
theorem dX5_isResident_10 : decode cX5_isResident 10 = .ok (.isub, 1) := by decide +kernel
theorem dX5_isResident_11 : decode cX5_isResident 11 = .ok (.i2l, 1) := by decide +kernel
theorem dX5_isResident_12 : decode cX5_isResident 12 = .ok (.invokestatic 42, 3) := by decide +kernel
theorem dX5_isResident_15 : decode cX5_isResident 15 = .ok (.ireturn, 1) := by decide +kernel
theorem dX5_its_0 : decode cX5_its 0 = .ok (.aload_n 0, 1) := by decide +kernel
theorem dX5_its_1 : decode cX5_its 1 = .ok (.getfield 7, 3) := by decide +kernel
theorem dX5_its_4 : decode cX5_its 4 = .ok (.bipush 13, 2) := by decide +kernel
theorem dX5_its_6 : decode cX5_its 6 = .ok (.bipush 8, 2) := by decide +kernel
theorem dX5_its_8 : decode cX5_its 8 = .ok (.iload_n 2, 1) := by decide +kernel
theorem dX5_its_9 : decode cX5_its 9 = .ok (.imul, 1) := by decide +kernel
theorem dX5_its_10 : decode cX5_its 10 = .ok (.iadd, 1) := by decide +kernel
theorem dX5_its_11 : decode cX5_its 11 = .ok (.iload_n 1, 1) := by decide +kernel
theorem dX5_its_12 : decode cX5_its 12 = .ok (.iadd, 1) := by decide +kernel
theorem dX5_its_13 : decode cX5_its 13 = .ok (.iaload, 1) := by decide +kernel
theorem dX5_its_14 : decode cX5_its 14 = .ok (.ireturn, 1) := by decide +kernel
theorem dX5_sets_0 : decode cX5_sets 0 = .ok (.aload_n 0, 1) := by decide +kernel
theorem dX5_sets_1 : decode cX5_sets 1 = .ok (.getfield 7, 3) := by decide +kernel
theorem dX5_sets_4 : decode cX5_sets 4 = .ok (.bipush 13, 2) := by decide +kernel
theorem dX5_sets_6 : decode cX5_sets 6 = .ok (.bipush 8, 2) := by decide +kernel
theorem dX5_sets_8 : decode cX5_sets 8 = .ok (.iload_n 2, 1) := by decide +kernel
theorem dX5_sets_9 : decode cX5_sets 9 = .ok (.imul, 1) := by decide +kernel
theorem dX5_sets_10 : decode cX5_sets 10 = .ok (.iadd, 1) := by decide +kernel
theorem dX5_sets_11 : decode cX5_sets 11 = .ok (.iload_n 1, 1) := by decide +kernel
theorem dX5_sets_12 : decode cX5_sets 12 = .ok (.iadd, 1) := by decide +kernel
theorem dX5_sets_13 : decode cX5_sets 13 = .ok (.iload_n 3, 1) := by decide +kernel
theorem dX5_sets_14 : decode cX5_sets 14 = .ok (.iastore, 1) := by decide +kernel
theorem dX5_sets_15 : decode cX5_sets 15 = .ok (.return_, 1) := by decide +kernel
theorem dX5_becomes_0 : decode cX5_becomes 0 = .ok (.aload_n 0, 1) := by decide +kernel
theorem dX5_becomes_1 : decode cX5_becomes 1 = .ok (.getfield 7, 3) := by decide +kernel
theorem dX5_becomes_4 : decode cX5_becomes 4 = .ok (.iload_n 1, 1) := by decide +kernel
theorem dX5_becomes_5 : decode cX5_becomes 5 = .ok (.iaload, 1) := by decide +kernel
theorem dX5_becomes_6 : decode cX5_becomes 6 = .ok (.istore_n 3, 1) := by decide +kernel
theorem dX5_becomes_7 : decode cX5_becomes 7 = .ok (.aload_n 0, 1) := by decide +kernel
theorem dX5_becomes_8 : decode cX5_becomes 8 = .ok (.getfield 7, 3) := by decide +kernel
theorem dX5_becomes_11 : decode cX5_becomes 11 = .ok (.iload_n 1, 1) := by decide +kernel
theorem dX5_becomes_12 : decode cX5_becomes 12 = .ok (.iload_n 2, 1) := by decide +kernel
theorem dX5_becomes_13 : decode cX5_becomes 13 = .ok (.iastore, 1) := by decide +kernel
theorem dX5_becomes_14 : decode cX5_becomes 14 = .ok (.iload_n 3, 1) := by decide +kernel
theorem dX5_becomes_15 : decode cX5_becomes 15 = .ok (.ireturn, 1) := by decide +kernel
theorem dX5_ones_0 : decode cX5_ones 0 = .ok (.iconst 0, 1) := by decide +kernel
theorem dX5_ones_1 : decode cX5_ones 1 = .ok (.istore_n 1, 1) := by decide +kernel
theorem dX5_ones_2 : decode cX5_ones 2 = .ok (.iconst 0, 1) := by decide +kernel
theorem dX5_ones_3 : decode cX5_ones 3 = .ok (.istore_n 2, 1) := by decide +kernel
theorem dX5_ones_4 : decode cX5_ones 4 = .ok (.iload_n 2, 1) := by decide +kernel
theorem dX5_ones_5 : decode cX5_ones 5 = .ok (.bipush 8, 2) := by decide +kernel
theorem dX5_ones_7 : decode cX5_ones 7 = .ok (.if_icmp .ge 17, 3) := by decide +kernel
theorem dX5_ones_10 : decode cX5_ones 10 = .ok (.iload_n 1, 1) := by decide +kernel
theorem dX5_ones_11 : decode cX5_ones 11 = .ok (.iload_n 0, 1) := by decide +kernel
theorem dX5_ones_12 : decode cX5_ones 12 = .ok (.iload_n 2, 1) := by decide +kernel
theorem dX5_ones_13 : decode cX5_ones 13 = .ok (.ishr, 1) := by decide +kernel
theorem dX5_ones_14 : decode cX5_ones 14 = .ok (.iconst 1, 1) := by decide +kernel
theorem dX5_ones_15 : decode cX5_ones 15 = .ok (.iand, 1) := by decide +kernel
theorem dX5_ones_16 : decode cX5_ones 16 = .ok (.iadd, 1) := by decide +kernel
theorem dX5_ones_17 : decode cX5_ones 17 = .ok (.istore_n 1, 1) := by decide +kernel
theorem dX5_ones_18 : decode cX5_ones 18 = .ok (.iinc 2 1, 3) := by decide +kernel
theorem dX5_ones_21 : decode cX5_ones 21 = .ok (.goto (-17), 3) := by decide +kernel
theorem dX5_ones_24 : decode cX5_ones 24 = .ok (.iload_n 1, 1) := by decide +kernel
theorem dX5_ones_25 : decode cX5_ones 25 = .ok (.ireturn, 1) := by decide +kernel
theorem dX5_seats_0 : decode cX5_seats 0 = .ok (.aload_n 0, 1) := by decide +kernel
theorem dX5_seats_1 : decode cX5_seats 1 = .ok (.iload_n 1, 1) := by decide +kernel
theorem dX5_seats_2 : decode cX5_seats 2 = .ok (.iconst 0, 1) := by decide +kernel
theorem dX5_seats_3 : decode cX5_seats 3 = .ok (.invokevirtual 46, 3) := by decide +kernel
theorem dX5_seats_6 : decode cX5_seats 6 = .ok (.tableswitch 44 1 6 #[38, 42, 42, 42, 44, 40], 38) := by decide +kernel
theorem dX5_seats_44 : decode cX5_seats 44 = .ok (.iconst 3, 1) := by decide +kernel
theorem dX5_seats_45 : decode cX5_seats 45 = .ok (.ireturn, 1) := by decide +kernel
theorem dX5_seats_46 : decode cX5_seats 46 = .ok (.iconst 4, 1) := by decide +kernel
theorem dX5_seats_47 : decode cX5_seats 47 = .ok (.ireturn, 1) := by decide +kernel
theorem dX5_seats_48 : decode cX5_seats 48 = .ok (.iconst 1, 1) := by decide +kernel
theorem dX5_seats_49 : decode cX5_seats 49 = .ok (.ireturn, 1) := by decide +kernel
theorem dX5_seats_50 : decode cX5_seats 50 = .ok (.iconst 2, 1) := by decide +kernel
theorem dX5_seats_51 : decode cX5_seats 51 = .ok (.ireturn, 1) := by decide +kernel
theorem dX5_gains_0 : decode cX5_gains 0 = .ok (.iconst 2, 1) := by decide +kernel
theorem dX5_gains_1 : decode cX5_gains 1 = .ok (.aload_n 0, 1) := by decide +kernel
theorem dX5_gains_2 : decode cX5_gains 2 = .ok (.getfield 7, 3) := by decide +kernel
theorem dX5_gains_5 : decode cX5_gains 5 = .ok (.bipush 6, 2) := by decide +kernel
theorem dX5_gains_7 : decode cX5_gains 7 = .ok (.iaload, 1) := by decide +kernel
theorem dX5_gains_8 : decode cX5_gains 8 = .ok (.imul, 1) := by decide +kernel
theorem dX5_gains_9 : decode cX5_gains 9 = .ok (.iconst 0, 1) := by decide +kernel
theorem dX5_gains_10 : decode cX5_gains 10 = .ok (.bipush 12, 2) := by decide +kernel
theorem dX5_gains_12 : decode cX5_gains 12 = .ok (.invokestatic 50, 3) := by decide +kernel
theorem dX5_gains_15 : decode cX5_gains 15 = .ok (.istore_n 2, 1) := by decide +kernel
theorem dX5_gains_16 : decode cX5_gains 16 = .ok (.aload_n 0, 1) := by decide +kernel
theorem dX5_gains_17 : decode cX5_gains 17 = .ok (.iload_n 1, 1) := by decide +kernel
theorem dX5_gains_18 : decode cX5_gains 18 = .ok (.iconst 0, 1) := by decide +kernel
theorem dX5_gains_19 : decode cX5_gains 19 = .ok (.invokevirtual 46, 3) := by decide +kernel
theorem dX5_gains_22 : decode cX5_gains 22 = .ok (.tableswitch 78 1 6 #[38, 48, 52, 52, 58, 38], 38) := by decide +kernel
theorem dX5_gains_60 : decode cX5_gains 60 = .ok (.iload_n 2, 1) := by decide +kernel
theorem dX5_gains_61 : decode cX5_gains 61 = .ok (.aload_n 0, 1) := by decide +kernel
theorem dX5_gains_62 : decode cX5_gains 62 = .ok (.getfield 7, 3) := by decide +kernel
theorem dX5_gains_65 : decode cX5_gains 65 = .ok (.bipush 6, 2) := by decide +kernel
theorem dX5_gains_67 : decode cX5_gains 67 = .ok (.iaload, 1) := by decide +kernel
theorem dX5_gains_68 : decode cX5_gains 68 = .ok (.iadd, 1) := by decide +kernel
theorem dX5_gains_69 : decode cX5_gains 69 = .ok (.ireturn, 1) := by decide +kernel
theorem dX5_gains_70 : decode cX5_gains 70 = .ok (.iload_n 2, 1) := by decide +kernel
theorem dX5_gains_71 : decode cX5_gains 71 = .ok (.iconst 2, 1) := by decide +kernel
theorem dX5_gains_72 : decode cX5_gains 72 = .ok (.idiv, 1) := by decide +kernel
theorem dX5_gains_73 : decode cX5_gains 73 = .ok (.ireturn, 1) := by decide +kernel
theorem dX5_gains_74 : decode cX5_gains 74 = .ok (.iload_n 2, 1) := by decide +kernel
theorem dX5_gains_75 : decode cX5_gains 75 = .ok (.iconst 2, 1) := by decide +kernel
theorem dX5_gains_76 : decode cX5_gains 76 = .ok (.idiv, 1) := by decide +kernel
theorem dX5_gains_77 : decode cX5_gains 77 = .ok (.iconst 5, 1) := by decide +kernel
theorem dX5_gains_78 : decode cX5_gains 78 = .ok (.iadd, 1) := by decide +kernel
theorem dX5_gains_79 : decode cX5_gains 79 = .ok (.ireturn, 1) := by decide +kernel
theorem dX5_gains_80 : decode cX5_gains 80 = .ok (.aload_n 0, 1) := by decide +kernel
theorem dX5_gains_81 : decode cX5_gains 81 = .ok (.getfield 7, 3) := by decide +kernel
theorem dX5_gains_84 : decode cX5_gains 84 = .ok (.bipush 6, 2) := by decide +kernel
theorem dX5_gains_86 : decode cX5_gains 86 = .ok (.iaload, 1) := by decide +kernel
theorem dX5_gains_87 : decode cX5_gains 87 = .ok (.bipush 6, 2) := by decide +kernel
theorem dX5_gains_89 : decode cX5_gains 89 = .ok (.if_icmp .le 9, 3) := by decide +kernel
theorem dX5_gains_92 : decode cX5_gains 92 = .ok (.iload_n 2, 1) := by decide +kernel
theorem dX5_gains_93 : decode cX5_gains 93 = .ok (.iconst 2, 1) := by decide +kernel
theorem dX5_gains_94 : decode cX5_gains 94 = .ok (.isub, 1) := by decide +kernel
theorem dX5_gains_95 : decode cX5_gains 95 = .ok (.goto 4, 3) := by decide +kernel
theorem dX5_gains_98 : decode cX5_gains 98 = .ok (.iload_n 2, 1) := by decide +kernel
theorem dX5_gains_99 : decode cX5_gains 99 = .ok (.ireturn, 1) := by decide +kernel
theorem dX5_gains_100 : decode cX5_gains 100 = .ok (.iload_n 2, 1) := by decide +kernel
theorem dX5_gains_101 : decode cX5_gains 101 = .ok (.ireturn, 1) := by decide +kernel
theorem dX5_loses_0 : decode cX5_loses 0 = .ok (.aload_n 0, 1) := by decide +kernel
theorem dX5_loses_1 : decode cX5_loses 1 = .ok (.iload_n 1, 1) := by decide +kernel
theorem dX5_loses_2 : decode cX5_loses 2 = .ok (.iconst 0, 1) := by decide +kernel
theorem dX5_loses_3 : decode cX5_loses 3 = .ok (.invokevirtual 46, 3) := by decide +kernel
theorem dX5_loses_6 : decode cX5_loses 6 = .ok (.tableswitch 64 1 6 #[38, 40, 42, 58, 60, 38], 38) := by decide +kernel
theorem dX5_loses_44 : decode cX5_loses 44 = .ok (.iconst 2, 1) := by decide +kernel
theorem dX5_loses_45 : decode cX5_loses 45 = .ok (.ireturn, 1) := by decide +kernel
theorem dX5_loses_46 : decode cX5_loses 46 = .ok (.iconst 1, 1) := by decide +kernel
theorem dX5_loses_47 : decode cX5_loses 47 = .ok (.ireturn, 1) := by decide +kernel
theorem dX5_loses_48 : decode cX5_loses 48 = .ok (.aload_n 0, 1) := by decide +kernel
theorem dX5_loses_49 : decode cX5_loses 49 = .ok (.iload_n 1, 1) := by decide +kernel
theorem dX5_loses_50 : decode cX5_loses 50 = .ok (.iconst 3, 1) := by decide +kernel
theorem dX5_loses_51 : decode cX5_loses 51 = .ok (.invokevirtual 46, 3) := by decide +kernel
theorem dX5_loses_54 : decode cX5_loses 54 = .ok (.iconst 4, 1) := by decide +kernel
theorem dX5_loses_55 : decode cX5_loses 55 = .ok (.if_icmp .lt 7, 3) := by decide +kernel
theorem dX5_loses_58 : decode cX5_loses 58 = .ok (.iconst 2, 1) := by decide +kernel
theorem dX5_loses_59 : decode cX5_loses 59 = .ok (.goto 4, 3) := by decide +kernel
theorem dX5_loses_62 : decode cX5_loses 62 = .ok (.iconst 1, 1) := by decide +kernel
theorem dX5_loses_63 : decode cX5_loses 63 = .ok (.ireturn, 1) := by decide +kernel
theorem dX5_loses_64 : decode cX5_loses 64 = .ok (.iconst 0, 1) := by decide +kernel
theorem dX5_loses_65 : decode cX5_loses 65 = .ok (.ireturn, 1) := by decide +kernel
theorem dX5_loses_66 : decode cX5_loses 66 = .ok (.iconst 3, 1) := by decide +kernel
theorem dX5_loses_67 : decode cX5_loses 67 = .ok (.iload_n 2, 1) := by decide +kernel
theorem dX5_loses_68 : decode cX5_loses 68 = .ok (.iadd, 1) := by decide +kernel
theorem dX5_loses_69 : decode cX5_loses 69 = .ok (.ireturn, 1) := by decide +kernel
theorem dX5_loses_70 : decode cX5_loses 70 = .ok (.iconst 3, 1) := by decide +kernel
theorem dX5_loses_71 : decode cX5_loses 71 = .ok (.ireturn, 1) := by decide +kernel
theorem dX5_shares_0 : decode cX5_shares 0 = .ok (.aload_n 0, 1) := by decide +kernel
theorem dX5_shares_1 : decode cX5_shares 1 = .ok (.iload_n 1, 1) := by decide +kernel
theorem dX5_shares_2 : decode cX5_shares 2 = .ok (.iconst 0, 1) := by decide +kernel
theorem dX5_shares_3 : decode cX5_shares 3 = .ok (.invokevirtual 46, 3) := by decide +kernel
theorem dX5_shares_6 : decode cX5_shares 6 = .ok (.istore_n 2, 1) := by decide +kernel
theorem dX5_shares_7 : decode cX5_shares 7 = .ok (.iload_n 2, 1) := by decide +kernel
theorem dX5_shares_8 : decode cX5_shares 8 = .ok (.bipush 6, 2) := by decide +kernel
theorem dX5_shares_10 : decode cX5_shares 10 = .ok (.if_icmp .eq 24, 3) := by decide +kernel
theorem dX5_shares_13 : decode cX5_shares 13 = .ok (.iload_n 2, 1) := by decide +kernel
theorem dX5_shares_14 : decode cX5_shares 14 = .ok (.iconst 3, 1) := by decide +kernel
theorem dX5_shares_15 : decode cX5_shares 15 = .ok (.if_icmp .eq 19, 3) := by decide +kernel
theorem dX5_shares_18 : decode cX5_shares 18 = .ok (.iload_n 2, 1) := by decide +kernel
theorem dX5_shares_19 : decode cX5_shares 19 = .ok (.iconst 4, 1) := by decide +kernel
theorem dX5_shares_20 : decode cX5_shares 20 = .ok (.if_icmp .eq 18, 3) := by decide +kernel
theorem dX5_shares_23 : decode cX5_shares 23 = .ok (.aload_n 0, 1) := by decide +kernel
theorem dX5_shares_24 : decode cX5_shares 24 = .ok (.iload_n 1, 1) := by decide +kernel
theorem dX5_shares_25 : decode cX5_shares 25 = .ok (.iconst 1, 1) := by decide +kernel
theorem dX5_shares_26 : decode cX5_shares 26 = .ok (.invokevirtual 46, 3) := by decide +kernel
theorem dX5_shares_29 : decode cX5_shares 29 = .ok (.bipush 70, 2) := by decide +kernel
theorem dX5_shares_31 : decode cX5_shares 31 = .ok (.if_icmp .lt 7, 3) := by decide +kernel
theorem dX5_shares_34 : decode cX5_shares 34 = .ok (.iconst 1, 1) := by decide +kernel
theorem dX5_shares_35 : decode cX5_shares 35 = .ok (.goto 4, 3) := by decide +kernel
theorem dX5_shares_38 : decode cX5_shares 38 = .ok (.iconst 0, 1) := by decide +kernel
theorem dX5_shares_39 : decode cX5_shares 39 = .ok (.ireturn, 1) := by decide +kernel
theorem dX5_visitedOf_0 : decode cX5_visitedOf 0 = .ok (.aload_n 0, 1) := by decide +kernel
theorem dX5_visitedOf_1 : decode cX5_visitedOf 1 = .ok (.getfield 7, 3) := by decide +kernel
theorem dX5_visitedOf_4 : decode cX5_visitedOf 4 = .ok (.iconst 3, 1) := by decide +kernel
theorem dX5_visitedOf_5 : decode cX5_visitedOf 5 = .ok (.iaload, 1) := by decide +kernel
theorem dX5_visitedOf_6 : decode cX5_visitedOf 6 = .ok (.istore_n 2, 1) := by decide +kernel
theorem dX5_visitedOf_7 : decode cX5_visitedOf 7 = .ok (.iconst 0, 1) := by decide +kernel
theorem dX5_visitedOf_8 : decode cX5_visitedOf 8 = .ok (.istore_n 3, 1) := by decide +kernel
theorem dX5_visitedOf_9 : decode cX5_visitedOf 9 = .ok (.iconst 0, 1) := by decide +kernel
theorem dX5_visitedOf_10 : decode cX5_visitedOf 10 = .ok (.istore 4, 2) := by decide +kernel
theorem dX5_visitedOf_12 : decode cX5_visitedOf 12 = .ok (.iload 4, 2) := by decide +kernel
theorem dX5_visitedOf_14 : decode cX5_visitedOf 14 = .ok (.aload_n 0, 1) := by decide +kernel
theorem dX5_visitedOf_15 : decode cX5_visitedOf 15 = .ok (.getfield 7, 3) := by decide +kernel
theorem dX5_visitedOf_18 : decode cX5_visitedOf 18 = .ok (.iconst 0, 1) := by decide +kernel
theorem dX5_visitedOf_19 : decode cX5_visitedOf 19 = .ok (.iaload, 1) := by decide +kernel
theorem dX5_visitedOf_20 : decode cX5_visitedOf 20 = .ok (.if_icmp .ge 45, 3) := by decide +kernel
theorem dX5_visitedOf_23 : decode cX5_visitedOf 23 = .ok (.iload_n 1, 1) := by decide +kernel
theorem dX5_visitedOf_24 : decode cX5_visitedOf 24 = .ok (.iload 4, 2) := by decide +kernel
theorem dX5_visitedOf_26 : decode cX5_visitedOf 26 = .ok (.ishr, 1) := by decide +kernel
theorem dX5_visitedOf_27 : decode cX5_visitedOf 27 = .ok (.iconst 1, 1) := by decide +kernel
theorem dX5_visitedOf_28 : decode cX5_visitedOf 28 = .ok (.iand, 1) := by decide +kernel
theorem dX5_visitedOf_29 : decode cX5_visitedOf 29 = .ok (.iconst 1, 1) := by decide +kernel
theorem dX5_visitedOf_30 : decode cX5_visitedOf 30 = .ok (.if_icmp .ne 29, 3) := by decide +kernel
theorem dX5_visitedOf_33 : decode cX5_visitedOf 33 = .ok (.aload_n 0, 1) := by decide +kernel
theorem dX5_visitedOf_34 : decode cX5_visitedOf 34 = .ok (.iload 4, 2) := by decide +kernel
theorem dX5_visitedOf_36 : decode cX5_visitedOf 36 = .ok (.invokevirtual 54, 3) := by decide +kernel
theorem dX5_visitedOf_39 : decode cX5_visitedOf 39 = .ok (.iload_n 2, 1) := by decide +kernel
theorem dX5_visitedOf_40 : decode cX5_visitedOf 40 = .ok (.if_icmp .gt 19, 3) := by decide +kernel
theorem dX5_visitedOf_43 : decode cX5_visitedOf 43 = .ok (.iload_n 2, 1) := by decide +kernel
theorem dX5_visitedOf_44 : decode cX5_visitedOf 44 = .ok (.aload_n 0, 1) := by decide +kernel
theorem dX5_visitedOf_45 : decode cX5_visitedOf 45 = .ok (.iload 4, 2) := by decide +kernel
theorem dX5_visitedOf_47 : decode cX5_visitedOf 47 = .ok (.invokevirtual 54, 3) := by decide +kernel
theorem dX5_visitedOf_50 : decode cX5_visitedOf 50 = .ok (.isub, 1) := by decide +kernel
theorem dX5_visitedOf_51 : decode cX5_visitedOf 51 = .ok (.istore_n 2, 1) := by decide +kernel
theorem dX5_visitedOf_52 : decode cX5_visitedOf 52 = .ok (.iload_n 3, 1) := by decide +kernel
theorem dX5_visitedOf_53 : decode cX5_visitedOf 53 = .ok (.iconst 1, 1) := by decide +kernel
theorem dX5_visitedOf_54 : decode cX5_visitedOf 54 = .ok (.iload 4, 2) := by decide +kernel
theorem dX5_visitedOf_56 : decode cX5_visitedOf 56 = .ok (.ishl, 1) := by decide +kernel
theorem dX5_visitedOf_57 : decode cX5_visitedOf 57 = .ok (.ior, 1) := by decide +kernel
theorem dX5_visitedOf_58 : decode cX5_visitedOf 58 = .ok (.istore_n 3, 1) := by decide +kernel
theorem dX5_visitedOf_59 : decode cX5_visitedOf 59 = .ok (.iinc 4 1, 3) := by decide +kernel
theorem dX5_visitedOf_62 : decode cX5_visitedOf 62 = .ok (.goto (-50), 3) := by decide +kernel
theorem dX5_visitedOf_65 : decode cX5_visitedOf 65 = .ok (.iload_n 3, 1) := by decide +kernel
theorem dX5_visitedOf_66 : decode cX5_visitedOf 66 = .ok (.ireturn, 1) := by decide +kernel
theorem dX5_todays_0 : decode cX5_todays 0 = .ok (.aload_n 0, 1) := by decide +kernel
theorem dX5_todays_1 : decode cX5_todays 1 = .ok (.getfield 7, 3) := by decide +kernel
theorem dX5_todays_4 : decode cX5_todays 4 = .ok (.bipush 7, 2) := by decide +kernel
theorem dX5_todays_6 : decode cX5_todays 6 = .ok (.aload_n 0, 1) := by decide +kernel
theorem dX5_todays_7 : decode cX5_todays 7 = .ok (.getfield 7, 3) := by decide +kernel
theorem dX5_todays_10 : decode cX5_todays 10 = .ok (.iconst 1, 1) := by decide +kernel
theorem dX5_todays_11 : decode cX5_todays 11 = .ok (.iaload, 1) := by decide +kernel
theorem dX5_todays_12 : decode cX5_todays 12 = .ok (.bipush 6, 2) := by decide +kernel
theorem dX5_todays_14 : decode cX5_todays 14 = .ok (.irem, 1) := by decide +kernel
theorem dX5_todays_15 : decode cX5_todays 15 = .ok (.iadd, 1) := by decide +kernel
theorem dX5_todays_16 : decode cX5_todays 16 = .ok (.iaload, 1) := by decide +kernel
theorem dX5_todays_17 : decode cX5_todays 17 = .ok (.ireturn, 1) := by decide +kernel
theorem dX5_sharersOf_0 : decode cX5_sharersOf 0 = .ok (.iconst 0, 1) := by decide +kernel
theorem dX5_sharersOf_1 : decode cX5_sharersOf 1 = .ok (.istore_n 2, 1) := by decide +kernel
theorem dX5_sharersOf_2 : decode cX5_sharersOf 2 = .ok (.iconst 0, 1) := by decide +kernel
theorem dX5_sharersOf_3 : decode cX5_sharersOf 3 = .ok (.istore_n 3, 1) := by decide +kernel
theorem dX5_sharersOf_4 : decode cX5_sharersOf 4 = .ok (.iload_n 3, 1) := by decide +kernel
theorem dX5_sharersOf_5 : decode cX5_sharersOf 5 = .ok (.aload_n 0, 1) := by decide +kernel
theorem dX5_sharersOf_6 : decode cX5_sharersOf 6 = .ok (.getfield 7, 3) := by decide +kernel
theorem dX5_sharersOf_9 : decode cX5_sharersOf 9 = .ok (.iconst 0, 1) := by decide +kernel
theorem dX5_sharersOf_10 : decode cX5_sharersOf 10 = .ok (.iaload, 1) := by decide +kernel
theorem dX5_sharersOf_11 : decode cX5_sharersOf 11 = .ok (.if_icmp .ge 70, 3) := by decide +kernel
theorem dX5_sharersOf_14 : decode cX5_sharersOf 14 = .ok (.aload_n 0, 1) := by decide +kernel
theorem dX5_sharersOf_15 : decode cX5_sharersOf 15 = .ok (.iload_n 3, 1) := by decide +kernel
theorem dX5_sharersOf_16 : decode cX5_sharersOf 16 = .ok (.iconst 2, 1) := by decide +kernel
theorem dX5_sharersOf_17 : decode cX5_sharersOf 17 = .ok (.invokevirtual 46, 3) := by decide +kernel
theorem dX5_sharersOf_20 : decode cX5_sharersOf 20 = .ok (.istore 4, 2) := by decide +kernel
theorem dX5_sharersOf_22 : decode cX5_sharersOf 22 = .ok (.iload_n 1, 1) := by decide +kernel
theorem dX5_sharersOf_23 : decode cX5_sharersOf 23 = .ok (.iload_n 3, 1) := by decide +kernel
theorem dX5_sharersOf_24 : decode cX5_sharersOf 24 = .ok (.ishr, 1) := by decide +kernel
theorem dX5_sharersOf_25 : decode cX5_sharersOf 25 = .ok (.iconst 1, 1) := by decide +kernel
theorem dX5_sharersOf_26 : decode cX5_sharersOf 26 = .ok (.iand, 1) := by decide +kernel
theorem dX5_sharersOf_27 : decode cX5_sharersOf 27 = .ok (.ifCond .ne 30, 3) := by decide +kernel
theorem dX5_sharersOf_30 : decode cX5_sharersOf 30 = .ok (.iload 4, 2) := by decide +kernel
theorem dX5_sharersOf_32 : decode cX5_sharersOf 32 = .ok (.ifCond .lt 25, 3) := by decide +kernel
theorem dX5_sharersOf_35 : decode cX5_sharersOf 35 = .ok (.iload_n 1, 1) := by decide +kernel
theorem dX5_sharersOf_36 : decode cX5_sharersOf 36 = .ok (.iload 4, 2) := by decide +kernel
theorem dX5_sharersOf_38 : decode cX5_sharersOf 38 = .ok (.ishr, 1) := by decide +kernel
theorem dX5_sharersOf_39 : decode cX5_sharersOf 39 = .ok (.iconst 1, 1) := by decide +kernel
theorem dX5_sharersOf_40 : decode cX5_sharersOf 40 = .ok (.iand, 1) := by decide +kernel
theorem dX5_sharersOf_41 : decode cX5_sharersOf 41 = .ok (.iconst 1, 1) := by decide +kernel
theorem dX5_sharersOf_42 : decode cX5_sharersOf 42 = .ok (.if_icmp .ne 15, 3) := by decide +kernel
theorem dX5_sharersOf_45 : decode cX5_sharersOf 45 = .ok (.aload_n 0, 1) := by decide +kernel
theorem dX5_sharersOf_46 : decode cX5_sharersOf 46 = .ok (.iload_n 3, 1) := by decide +kernel
theorem dX5_sharersOf_47 : decode cX5_sharersOf 47 = .ok (.invokevirtual 58, 3) := by decide +kernel
theorem dX5_sharersOf_50 : decode cX5_sharersOf 50 = .ok (.ifCond .eq 7, 3) := by decide +kernel
theorem dX5_sharersOf_53 : decode cX5_sharersOf 53 = .ok (.iconst 1, 1) := by decide +kernel
theorem dX5_sharersOf_54 : decode cX5_sharersOf 54 = .ok (.goto 4, 3) := by decide +kernel
theorem dX5_sharersOf_57 : decode cX5_sharersOf 57 = .ok (.iconst 0, 1) := by decide +kernel
theorem dX5_sharersOf_58 : decode cX5_sharersOf 58 = .ok (.istore 5, 2) := by decide +kernel
theorem dX5_sharersOf_60 : decode cX5_sharersOf 60 = .ok (.iload_n 2, 1) := by decide +kernel
theorem dX5_sharersOf_61 : decode cX5_sharersOf 61 = .ok (.iload 5, 2) := by decide +kernel
theorem dX5_sharersOf_63 : decode cX5_sharersOf 63 = .ok (.ifCond .eq 9, 3) := by decide +kernel
theorem dX5_sharersOf_66 : decode cX5_sharersOf 66 = .ok (.iconst 1, 1) := by decide +kernel
theorem dX5_sharersOf_67 : decode cX5_sharersOf 67 = .ok (.iload_n 3, 1) := by decide +kernel
theorem dX5_sharersOf_68 : decode cX5_sharersOf 68 = .ok (.ishl, 1) := by decide +kernel
theorem dX5_sharersOf_69 : decode cX5_sharersOf 69 = .ok (.goto 4, 3) := by decide +kernel
theorem dX5_sharersOf_72 : decode cX5_sharersOf 72 = .ok (.iconst 0, 1) := by decide +kernel
theorem dX5_sharersOf_73 : decode cX5_sharersOf 73 = .ok (.ior, 1) := by decide +kernel
theorem dX5_sharersOf_74 : decode cX5_sharersOf 74 = .ok (.istore_n 2, 1) := by decide +kernel
theorem dX5_sharersOf_75 : decode cX5_sharersOf 75 = .ok (.iinc 3 1, 3) := by decide +kernel
theorem dX5_sharersOf_78 : decode cX5_sharersOf 78 = .ok (.goto (-74), 3) := by decide +kernel
theorem dX5_sharersOf_81 : decode cX5_sharersOf 81 = .ok (.iload_n 2, 1) := by decide +kernel
theorem dX5_sharersOf_82 : decode cX5_sharersOf 82 = .ok (.ireturn, 1) := by decide +kernel
theorem dX5_longest_0 : decode cX5_longest 0 = .ok (.iconst (-1), 1) := by decide +kernel
theorem dX5_longest_1 : decode cX5_longest 1 = .ok (.istore_n 2, 1) := by decide +kernel
theorem dX5_longest_2 : decode cX5_longest 2 = .ok (.iconst 0, 1) := by decide +kernel
theorem dX5_longest_3 : decode cX5_longest 3 = .ok (.istore_n 3, 1) := by decide +kernel
theorem dX5_longest_4 : decode cX5_longest 4 = .ok (.iload_n 3, 1) := by decide +kernel
theorem dX5_longest_5 : decode cX5_longest 5 = .ok (.aload_n 0, 1) := by decide +kernel
theorem dX5_longest_6 : decode cX5_longest 6 = .ok (.getfield 7, 3) := by decide +kernel
theorem dX5_longest_9 : decode cX5_longest 9 = .ok (.iconst 0, 1) := by decide +kernel
theorem dX5_longest_10 : decode cX5_longest 10 = .ok (.iaload, 1) := by decide +kernel
theorem dX5_longest_11 : decode cX5_longest 11 = .ok (.if_icmp .ge 42, 3) := by decide +kernel
theorem dX5_longest_14 : decode cX5_longest 14 = .ok (.iload_n 1, 1) := by decide +kernel
theorem dX5_longest_15 : decode cX5_longest 15 = .ok (.iload_n 3, 1) := by decide +kernel
theorem dX5_longest_16 : decode cX5_longest 16 = .ok (.ishr, 1) := by decide +kernel
theorem dX5_longest_17 : decode cX5_longest 17 = .ok (.iconst 1, 1) := by decide +kernel
theorem dX5_longest_18 : decode cX5_longest 18 = .ok (.iand, 1) := by decide +kernel
theorem dX5_longest_19 : decode cX5_longest 19 = .ok (.ifCond .ne 28, 3) := by decide +kernel
theorem dX5_longest_22 : decode cX5_longest 22 = .ok (.iload_n 2, 1) := by decide +kernel
theorem dX5_longest_23 : decode cX5_longest 23 = .ok (.ifCond .lt 18, 3) := by decide +kernel
theorem dX5_longest_26 : decode cX5_longest 26 = .ok (.aload_n 0, 1) := by decide +kernel
theorem dX5_longest_27 : decode cX5_longest 27 = .ok (.iload_n 3, 1) := by decide +kernel
theorem dX5_longest_28 : decode cX5_longest 28 = .ok (.iconst 3, 1) := by decide +kernel
theorem dX5_longest_29 : decode cX5_longest 29 = .ok (.invokevirtual 46, 3) := by decide +kernel
theorem dX5_longest_32 : decode cX5_longest 32 = .ok (.aload_n 0, 1) := by decide +kernel
theorem dX5_longest_33 : decode cX5_longest 33 = .ok (.iload_n 2, 1) := by decide +kernel
theorem dX5_longest_34 : decode cX5_longest 34 = .ok (.iconst 3, 1) := by decide +kernel
theorem dX5_longest_35 : decode cX5_longest 35 = .ok (.invokevirtual 46, 3) := by decide +kernel
theorem dX5_longest_38 : decode cX5_longest 38 = .ok (.if_icmp .le 7, 3) := by decide +kernel
theorem dX5_longest_41 : decode cX5_longest 41 = .ok (.iload_n 3, 1) := by decide +kernel
theorem dX5_longest_42 : decode cX5_longest 42 = .ok (.goto 4, 3) := by decide +kernel
theorem dX5_longest_45 : decode cX5_longest 45 = .ok (.iload_n 2, 1) := by decide +kernel
theorem dX5_longest_46 : decode cX5_longest 46 = .ok (.istore_n 2, 1) := by decide +kernel
theorem dX5_longest_47 : decode cX5_longest 47 = .ok (.iinc 3 1, 3) := by decide +kernel
theorem dX5_longest_50 : decode cX5_longest 50 = .ok (.goto (-46), 3) := by decide +kernel
theorem dX5_longest_53 : decode cX5_longest 53 = .ok (.iload_n 2, 1) := by decide +kernel
theorem dX5_longest_54 : decode cX5_longest 54 = .ok (.ireturn, 1) := by decide +kernel
theorem dX5_helpedOf_0 : decode cX5_helpedOf 0 = .ok (.iconst 0, 1) := by decide +kernel
theorem dX5_helpedOf_1 : decode cX5_helpedOf 1 = .ok (.istore_n 2, 1) := by decide +kernel
theorem dX5_helpedOf_2 : decode cX5_helpedOf 2 = .ok (.iconst 0, 1) := by decide +kernel
theorem dX5_helpedOf_3 : decode cX5_helpedOf 3 = .ok (.istore_n 3, 1) := by decide +kernel
theorem dX5_helpedOf_4 : decode cX5_helpedOf 4 = .ok (.iload_n 3, 1) := by decide +kernel
theorem dX5_helpedOf_5 : decode cX5_helpedOf 5 = .ok (.aload_n 0, 1) := by decide +kernel
theorem dX5_helpedOf_6 : decode cX5_helpedOf 6 = .ok (.getfield 7, 3) := by decide +kernel
theorem dX5_helpedOf_9 : decode cX5_helpedOf 9 = .ok (.iconst 5, 1) := by decide +kernel
theorem dX5_helpedOf_10 : decode cX5_helpedOf 10 = .ok (.iaload, 1) := by decide +kernel
theorem dX5_helpedOf_11 : decode cX5_helpedOf 11 = .ok (.if_icmp .ge 34, 3) := by decide +kernel
theorem dX5_helpedOf_14 : decode cX5_helpedOf 14 = .ok (.aload_n 0, 1) := by decide +kernel
theorem dX5_helpedOf_15 : decode cX5_helpedOf 15 = .ok (.iload_n 1, 1) := by decide +kernel
theorem dX5_helpedOf_16 : decode cX5_helpedOf 16 = .ok (.iload_n 2, 1) := by decide +kernel
theorem dX5_helpedOf_17 : decode cX5_helpedOf 17 = .ok (.ior, 1) := by decide +kernel
theorem dX5_helpedOf_18 : decode cX5_helpedOf 18 = .ok (.invokevirtual 62, 3) := by decide +kernel
theorem dX5_helpedOf_21 : decode cX5_helpedOf 21 = .ok (.istore 4, 2) := by decide +kernel
theorem dX5_helpedOf_23 : decode cX5_helpedOf 23 = .ok (.iload_n 2, 1) := by decide +kernel
theorem dX5_helpedOf_24 : decode cX5_helpedOf 24 = .ok (.iload 4, 2) := by decide +kernel
theorem dX5_helpedOf_26 : decode cX5_helpedOf 26 = .ok (.ifCond .ge 7, 3) := by decide +kernel
theorem dX5_helpedOf_29 : decode cX5_helpedOf 29 = .ok (.iconst 0, 1) := by decide +kernel
theorem dX5_helpedOf_30 : decode cX5_helpedOf 30 = .ok (.goto 7, 3) := by decide +kernel
theorem dX5_helpedOf_33 : decode cX5_helpedOf 33 = .ok (.iconst 1, 1) := by decide +kernel
theorem dX5_helpedOf_34 : decode cX5_helpedOf 34 = .ok (.iload 4, 2) := by decide +kernel
theorem dX5_helpedOf_36 : decode cX5_helpedOf 36 = .ok (.ishl, 1) := by decide +kernel
theorem dX5_helpedOf_37 : decode cX5_helpedOf 37 = .ok (.ior, 1) := by decide +kernel
theorem dX5_helpedOf_38 : decode cX5_helpedOf 38 = .ok (.istore_n 2, 1) := by decide +kernel
theorem dX5_helpedOf_39 : decode cX5_helpedOf 39 = .ok (.iinc 3 1, 3) := by decide +kernel
theorem dX5_helpedOf_42 : decode cX5_helpedOf 42 = .ok (.goto (-38), 3) := by decide +kernel
theorem dX5_helpedOf_45 : decode cX5_helpedOf 45 = .ok (.iload_n 2, 1) := by decide +kernel
theorem dX5_helpedOf_46 : decode cX5_helpedOf 46 = .ok (.ireturn, 1) := by decide +kernel
theorem dX5_sundayGoes_0 : decode cX5_sundayGoes 0 = .ok (.aload_n 0, 1) := by decide +kernel
theorem dX5_sundayGoes_1 : decode cX5_sundayGoes 1 = .ok (.aload_n 0, 1) := by decide +kernel
theorem dX5_sundayGoes_2 : decode cX5_sundayGoes 2 = .ok (.invokevirtual 65, 3) := by decide +kernel
theorem dX5_sundayGoes_5 : decode cX5_sundayGoes 5 = .ok (.invokevirtual 69, 3) := by decide +kernel
theorem dX5_sundayGoes_8 : decode cX5_sundayGoes 8 = .ok (.istore_n 1, 1) := by decide +kernel
theorem dX5_sundayGoes_9 : decode cX5_sundayGoes 9 = .ok (.aload_n 0, 1) := by decide +kernel
theorem dX5_sundayGoes_10 : decode cX5_sundayGoes 10 = .ok (.iload_n 1, 1) := by decide +kernel
theorem dX5_sundayGoes_11 : decode cX5_sundayGoes 11 = .ok (.invokevirtual 72, 3) := by decide +kernel
theorem dX5_sundayGoes_14 : decode cX5_sundayGoes 14 = .ok (.istore_n 2, 1) := by decide +kernel
theorem dX5_sundayGoes_15 : decode cX5_sundayGoes 15 = .ok (.aload_n 0, 1) := by decide +kernel
theorem dX5_sundayGoes_16 : decode cX5_sundayGoes 16 = .ok (.iload_n 1, 1) := by decide +kernel
theorem dX5_sundayGoes_17 : decode cX5_sundayGoes 17 = .ok (.iload_n 2, 1) := by decide +kernel
theorem dX5_sundayGoes_18 : decode cX5_sundayGoes 18 = .ok (.ior, 1) := by decide +kernel
theorem dX5_sundayGoes_19 : decode cX5_sundayGoes 19 = .ok (.invokevirtual 75, 3) := by decide +kernel
theorem dX5_sundayGoes_22 : decode cX5_sundayGoes 22 = .ok (.istore_n 3, 1) := by decide +kernel
theorem dX5_sundayGoes_23 : decode cX5_sundayGoes 23 = .ok (.aload_n 0, 1) := by decide +kernel
theorem dX5_sundayGoes_24 : decode cX5_sundayGoes 24 = .ok (.getfield 7, 3) := by decide +kernel
theorem dX5_sundayGoes_27 : decode cX5_sundayGoes 27 = .ok (.iconst 4, 1) := by decide +kernel
theorem dX5_sundayGoes_28 : decode cX5_sundayGoes 28 = .ok (.iaload, 1) := by decide +kernel
theorem dX5_sundayGoes_29 : decode cX5_sundayGoes 29 = .ok (.istore 4, 2) := by decide +kernel
theorem dX5_sundayGoes_31 : decode cX5_sundayGoes 31 = .ok (.iload_n 1, 1) := by decide +kernel
theorem dX5_sundayGoes_32 : decode cX5_sundayGoes 32 = .ok (.invokestatic 78, 3) := by decide +kernel
theorem dX5_sundayGoes_35 : decode cX5_sundayGoes 35 = .ok (.istore 5, 2) := by decide +kernel
theorem dX5_sundayGoes_37 : decode cX5_sundayGoes 37 = .ok (.iconst 0, 1) := by decide +kernel
theorem dX5_sundayGoes_38 : decode cX5_sundayGoes 38 = .ok (.istore 6, 2) := by decide +kernel
theorem dX5_sundayGoes_40 : decode cX5_sundayGoes 40 = .ok (.iload 6, 2) := by decide +kernel
theorem dX5_sundayGoes_42 : decode cX5_sundayGoes 42 = .ok (.aload_n 0, 1) := by decide +kernel
theorem dX5_sundayGoes_43 : decode cX5_sundayGoes 43 = .ok (.getfield 7, 3) := by decide +kernel
theorem dX5_sundayGoes_46 : decode cX5_sundayGoes 46 = .ok (.iconst 0, 1) := by decide +kernel
theorem dX5_sundayGoes_47 : decode cX5_sundayGoes 47 = .ok (.iaload, 1) := by decide +kernel
theorem dX5_sundayGoes_48 : decode cX5_sundayGoes 48 = .ok (.if_icmp .ge 190, 3) := by decide +kernel
theorem dX5_sundayGoes_51 : decode cX5_sundayGoes 51 = .ok (.aload_n 0, 1) := by decide +kernel
theorem dX5_sundayGoes_52 : decode cX5_sundayGoes 52 = .ok (.iload 6, 2) := by decide +kernel
theorem dX5_sundayGoes_54 : decode cX5_sundayGoes 54 = .ok (.iload 5, 2) := by decide +kernel
theorem dX5_sundayGoes_56 : decode cX5_sundayGoes 56 = .ok (.invokevirtual 81, 3) := by decide +kernel
theorem dX5_sundayGoes_59 : decode cX5_sundayGoes 59 = .ok (.ineg, 1) := by decide +kernel
theorem dX5_sundayGoes_60 : decode cX5_sundayGoes 60 = .ok (.istore 7, 2) := by decide +kernel
theorem dX5_sundayGoes_62 : decode cX5_sundayGoes 62 = .ok (.iconst 1, 1) := by decide +kernel
theorem dX5_sundayGoes_63 : decode cX5_sundayGoes 63 = .ok (.istore 8, 2) := by decide +kernel
theorem dX5_sundayGoes_65 : decode cX5_sundayGoes 65 = .ok (.iload_n 1, 1) := by decide +kernel
theorem dX5_sundayGoes_66 : decode cX5_sundayGoes 66 = .ok (.iload 6, 2) := by decide +kernel
theorem dX5_sundayGoes_68 : decode cX5_sundayGoes 68 = .ok (.ishr, 1) := by decide +kernel
theorem dX5_sundayGoes_69 : decode cX5_sundayGoes 69 = .ok (.iconst 1, 1) := by decide +kernel
theorem dX5_sundayGoes_70 : decode cX5_sundayGoes 70 = .ok (.iand, 1) := by decide +kernel
theorem dX5_sundayGoes_71 : decode cX5_sundayGoes 71 = .ok (.iconst 1, 1) := by decide +kernel
theorem dX5_sundayGoes_72 : decode cX5_sundayGoes 72 = .ok (.if_icmp .ne 66, 3) := by decide +kernel
theorem dX5_sundayGoes_75 : decode cX5_sundayGoes 75 = .ok (.aload_n 0, 1) := by decide +kernel
theorem dX5_sundayGoes_76 : decode cX5_sundayGoes 76 = .ok (.iload 6, 2) := by decide +kernel
theorem dX5_sundayGoes_78 : decode cX5_sundayGoes 78 = .ok (.invokevirtual 84, 3) := by decide +kernel
theorem dX5_sundayGoes_81 : decode cX5_sundayGoes 81 = .ok (.iload 4, 2) := by decide +kernel
theorem dX5_sundayGoes_83 : decode cX5_sundayGoes 83 = .ok (.ifCond .le 7, 3) := by decide +kernel
theorem dX5_sundayGoes_86 : decode cX5_sundayGoes 86 = .ok (.iconst 1, 1) := by decide +kernel
theorem dX5_sundayGoes_87 : decode cX5_sundayGoes 87 = .ok (.goto 4, 3) := by decide +kernel
theorem dX5_sundayGoes_90 : decode cX5_sundayGoes 90 = .ok (.iconst 0, 1) := by decide +kernel
theorem dX5_sundayGoes_91 : decode cX5_sundayGoes 91 = .ok (.iadd, 1) := by decide +kernel
theorem dX5_sundayGoes_92 : decode cX5_sundayGoes 92 = .ok (.istore 7, 2) := by decide +kernel
theorem dX5_sundayGoes_94 : decode cX5_sundayGoes 94 = .ok (.iload 4, 2) := by decide +kernel
theorem dX5_sundayGoes_96 : decode cX5_sundayGoes 96 = .ok (.iload 4, 2) := by decide +kernel
theorem dX5_sundayGoes_98 : decode cX5_sundayGoes 98 = .ok (.ifCond .le 7, 3) := by decide +kernel
theorem dX5_sundayGoes_101 : decode cX5_sundayGoes 101 = .ok (.iconst 1, 1) := by decide +kernel
theorem dX5_sundayGoes_102 : decode cX5_sundayGoes 102 = .ok (.goto 4, 3) := by decide +kernel
theorem dX5_sundayGoes_105 : decode cX5_sundayGoes 105 = .ok (.iconst 0, 1) := by decide +kernel
theorem dX5_sundayGoes_106 : decode cX5_sundayGoes 106 = .ok (.isub, 1) := by decide +kernel
theorem dX5_sundayGoes_107 : decode cX5_sundayGoes 107 = .ok (.istore 4, 2) := by decide +kernel
theorem dX5_sundayGoes_109 : decode cX5_sundayGoes 109 = .ok (.iconst 0, 1) := by decide +kernel
theorem dX5_sundayGoes_110 : decode cX5_sundayGoes 110 = .ok (.istore 8, 2) := by decide +kernel
theorem dX5_sundayGoes_112 : decode cX5_sundayGoes 112 = .ok (.aload_n 0, 1) := by decide +kernel
theorem dX5_sundayGoes_113 : decode cX5_sundayGoes 113 = .ok (.iload 6, 2) := by decide +kernel
theorem dX5_sundayGoes_115 : decode cX5_sundayGoes 115 = .ok (.iconst 4, 1) := by decide +kernel
theorem dX5_sundayGoes_116 : decode cX5_sundayGoes 116 = .ok (.aload_n 0, 1) := by decide +kernel
theorem dX5_sundayGoes_117 : decode cX5_sundayGoes 117 = .ok (.iload 6, 2) := by decide +kernel
theorem dX5_sundayGoes_119 : decode cX5_sundayGoes 119 = .ok (.iconst 4, 1) := by decide +kernel
theorem dX5_sundayGoes_120 : decode cX5_sundayGoes 120 = .ok (.invokevirtual 46, 3) := by decide +kernel
theorem dX5_sundayGoes_123 : decode cX5_sundayGoes 123 = .ok (.iconst 1, 1) := by decide +kernel
theorem dX5_sundayGoes_124 : decode cX5_sundayGoes 124 = .ok (.iadd, 1) := by decide +kernel
theorem dX5_sundayGoes_125 : decode cX5_sundayGoes 125 = .ok (.iconst 0, 1) := by decide +kernel
theorem dX5_sundayGoes_126 : decode cX5_sundayGoes 126 = .ok (.sipush 9999, 3) := by decide +kernel
theorem dX5_sundayGoes_129 : decode cX5_sundayGoes 129 = .ok (.invokestatic 50, 3) := by decide +kernel
theorem dX5_sundayGoes_132 : decode cX5_sundayGoes 132 = .ok (.invokevirtual 87, 3) := by decide +kernel
theorem dX5_sundayGoes_135 : decode cX5_sundayGoes 135 = .ok (.goto 42, 3) := by decide +kernel
theorem dX5_sundayGoes_138 : decode cX5_sundayGoes 138 = .ok (.iload_n 2, 1) := by decide +kernel
theorem dX5_sundayGoes_139 : decode cX5_sundayGoes 139 = .ok (.iload 6, 2) := by decide +kernel
theorem dX5_sundayGoes_141 : decode cX5_sundayGoes 141 = .ok (.ishr, 1) := by decide +kernel
theorem dX5_sundayGoes_142 : decode cX5_sundayGoes 142 = .ok (.iconst 1, 1) := by decide +kernel
theorem dX5_sundayGoes_143 : decode cX5_sundayGoes 143 = .ok (.iand, 1) := by decide +kernel
theorem dX5_sundayGoes_144 : decode cX5_sundayGoes 144 = .ok (.iconst 1, 1) := by decide +kernel
theorem dX5_sundayGoes_145 : decode cX5_sundayGoes 145 = .ok (.if_icmp .ne 16, 3) := by decide +kernel
theorem dX5_sundayGoes_148 : decode cX5_sundayGoes 148 = .ok (.aload_n 0, 1) := by decide +kernel
theorem dX5_sundayGoes_149 : decode cX5_sundayGoes 149 = .ok (.iload 6, 2) := by decide +kernel
theorem dX5_sundayGoes_151 : decode cX5_sundayGoes 151 = .ok (.invokevirtual 84, 3) := by decide +kernel
theorem dX5_sundayGoes_154 : decode cX5_sundayGoes 154 = .ok (.iconst 2, 1) := by decide +kernel
theorem dX5_sundayGoes_155 : decode cX5_sundayGoes 155 = .ok (.idiv, 1) := by decide +kernel
theorem dX5_sundayGoes_156 : decode cX5_sundayGoes 156 = .ok (.istore 7, 2) := by decide +kernel
theorem dX5_sundayGoes_158 : decode cX5_sundayGoes 158 = .ok (.goto 19, 3) := by decide +kernel
theorem dX5_sundayGoes_161 : decode cX5_sundayGoes 161 = .ok (.iload_n 3, 1) := by decide +kernel
theorem dX5_sundayGoes_162 : decode cX5_sundayGoes 162 = .ok (.iload 6, 2) := by decide +kernel
theorem dX5_sundayGoes_164 : decode cX5_sundayGoes 164 = .ok (.ishr, 1) := by decide +kernel
theorem dX5_sundayGoes_165 : decode cX5_sundayGoes 165 = .ok (.iconst 1, 1) := by decide +kernel
theorem dX5_sundayGoes_166 : decode cX5_sundayGoes 166 = .ok (.iand, 1) := by decide +kernel
theorem dX5_sundayGoes_167 : decode cX5_sundayGoes 167 = .ok (.iconst 1, 1) := by decide +kernel
theorem dX5_sundayGoes_168 : decode cX5_sundayGoes 168 = .ok (.if_icmp .ne 9, 3) := by decide +kernel
theorem dX5_sundayGoes_171 : decode cX5_sundayGoes 171 = .ok (.iconst 4, 1) := by decide +kernel
theorem dX5_sundayGoes_172 : decode cX5_sundayGoes 172 = .ok (.istore 7, 2) := by decide +kernel
theorem dX5_sundayGoes_174 : decode cX5_sundayGoes 174 = .ok (.iconst 0, 1) := by decide +kernel
theorem dX5_sundayGoes_175 : decode cX5_sundayGoes 175 = .ok (.istore 8, 2) := by decide +kernel
theorem dX5_sundayGoes_177 : decode cX5_sundayGoes 177 = .ok (.aload_n 0, 1) := by decide +kernel
theorem dX5_sundayGoes_178 : decode cX5_sundayGoes 178 = .ok (.iload 6, 2) := by decide +kernel
theorem dX5_sundayGoes_180 : decode cX5_sundayGoes 180 = .ok (.iconst 1, 1) := by decide +kernel
theorem dX5_sundayGoes_181 : decode cX5_sundayGoes 181 = .ok (.aload_n 0, 1) := by decide +kernel
theorem dX5_sundayGoes_182 : decode cX5_sundayGoes 182 = .ok (.iload 6, 2) := by decide +kernel
theorem dX5_sundayGoes_184 : decode cX5_sundayGoes 184 = .ok (.iconst 1, 1) := by decide +kernel
theorem dX5_sundayGoes_185 : decode cX5_sundayGoes 185 = .ok (.invokevirtual 46, 3) := by decide +kernel
theorem dX5_sundayGoes_188 : decode cX5_sundayGoes 188 = .ok (.iload 7, 2) := by decide +kernel
theorem dX5_sundayGoes_190 : decode cX5_sundayGoes 190 = .ok (.iadd, 1) := by decide +kernel
theorem dX5_sundayGoes_191 : decode cX5_sundayGoes 191 = .ok (.iconst 0, 1) := by decide +kernel
theorem dX5_sundayGoes_192 : decode cX5_sundayGoes 192 = .ok (.bipush 99, 2) := by decide +kernel
theorem dX5_sundayGoes_194 : decode cX5_sundayGoes 194 = .ok (.invokestatic 50, 3) := by decide +kernel
theorem dX5_sundayGoes_197 : decode cX5_sundayGoes 197 = .ok (.invokevirtual 87, 3) := by decide +kernel
theorem dX5_sundayGoes_200 : decode cX5_sundayGoes 200 = .ok (.aload_n 0, 1) := by decide +kernel
theorem dX5_sundayGoes_201 : decode cX5_sundayGoes 201 = .ok (.iload 6, 2) := by decide +kernel
theorem dX5_sundayGoes_203 : decode cX5_sundayGoes 203 = .ok (.iconst 3, 1) := by decide +kernel
theorem dX5_sundayGoes_204 : decode cX5_sundayGoes 204 = .ok (.iload 8, 2) := by decide +kernel
theorem dX5_sundayGoes_206 : decode cX5_sundayGoes 206 = .ok (.ifCond .eq 22, 3) := by decide +kernel
theorem dX5_sundayGoes_209 : decode cX5_sundayGoes 209 = .ok (.aload_n 0, 1) := by decide +kernel
theorem dX5_sundayGoes_210 : decode cX5_sundayGoes 210 = .ok (.iload 6, 2) := by decide +kernel
theorem dX5_sundayGoes_212 : decode cX5_sundayGoes 212 = .ok (.iconst 3, 1) := by decide +kernel
theorem dX5_sundayGoes_213 : decode cX5_sundayGoes 213 = .ok (.invokevirtual 46, 3) := by decide +kernel
theorem dX5_sundayGoes_216 : decode cX5_sundayGoes 216 = .ok (.iconst 1, 1) := by decide +kernel
theorem dX5_sundayGoes_217 : decode cX5_sundayGoes 217 = .ok (.iadd, 1) := by decide +kernel
theorem dX5_sundayGoes_218 : decode cX5_sundayGoes 218 = .ok (.iconst 0, 1) := by decide +kernel
theorem dX5_sundayGoes_219 : decode cX5_sundayGoes 219 = .ok (.sipush 9999, 3) := by decide +kernel
theorem dX5_sundayGoes_222 : decode cX5_sundayGoes 222 = .ok (.invokestatic 50, 3) := by decide +kernel
theorem dX5_sundayGoes_225 : decode cX5_sundayGoes 225 = .ok (.goto 4, 3) := by decide +kernel
theorem dX5_sundayGoes_228 : decode cX5_sundayGoes 228 = .ok (.iconst 0, 1) := by decide +kernel
theorem dX5_sundayGoes_229 : decode cX5_sundayGoes 229 = .ok (.invokevirtual 87, 3) := by decide +kernel
theorem dX5_sundayGoes_232 : decode cX5_sundayGoes 232 = .ok (.iinc 6 1, 3) := by decide +kernel
theorem dX5_sundayGoes_235 : decode cX5_sundayGoes 235 = .ok (.goto (-195), 3) := by decide +kernel
theorem dX5_sundayGoes_238 : decode cX5_sundayGoes 238 = .ok (.aload_n 0, 1) := by decide +kernel
theorem dX5_sundayGoes_239 : decode cX5_sundayGoes 239 = .ok (.getfield 7, 3) := by decide +kernel
theorem dX5_sundayGoes_242 : decode cX5_sundayGoes 242 = .ok (.iconst 1, 1) := by decide +kernel
theorem dX5_sundayGoes_243 : decode cX5_sundayGoes 243 = .ok (.aload_n 0, 1) := by decide +kernel
theorem dX5_sundayGoes_244 : decode cX5_sundayGoes 244 = .ok (.getfield 7, 3) := by decide +kernel
theorem dX5_sundayGoes_247 : decode cX5_sundayGoes 247 = .ok (.iconst 1, 1) := by decide +kernel
theorem dX5_sundayGoes_248 : decode cX5_sundayGoes 248 = .ok (.iaload, 1) := by decide +kernel
theorem dX5_sundayGoes_249 : decode cX5_sundayGoes 249 = .ok (.iconst 1, 1) := by decide +kernel
theorem dX5_sundayGoes_250 : decode cX5_sundayGoes 250 = .ok (.iadd, 1) := by decide +kernel
theorem dX5_sundayGoes_251 : decode cX5_sundayGoes 251 = .ok (.iconst 0, 1) := by decide +kernel
theorem dX5_sundayGoes_252 : decode cX5_sundayGoes 252 = .ok (.ldc 91, 2) := by decide +kernel
theorem dX5_sundayGoes_254 : decode cX5_sundayGoes 254 = .ok (.invokestatic 50, 3) := by decide +kernel
theorem dX5_sundayGoes_257 : decode cX5_sundayGoes 257 = .ok (.iastore, 1) := by decide +kernel
theorem dX5_sundayGoes_258 : decode cX5_sundayGoes 258 = .ok (.return_, 1) := by decide +kernel
theorem dX5_sundaysGo_0 : decode cX5_sundaysGo 0 = .ok (.iconst 0, 1) := by decide +kernel
theorem dX5_sundaysGo_1 : decode cX5_sundaysGo 1 = .ok (.istore_n 2, 1) := by decide +kernel
theorem dX5_sundaysGo_2 : decode cX5_sundaysGo 2 = .ok (.iload_n 2, 1) := by decide +kernel
theorem dX5_sundaysGo_3 : decode cX5_sundaysGo 3 = .ok (.iload_n 1, 1) := by decide +kernel
theorem dX5_sundaysGo_4 : decode cX5_sundaysGo 4 = .ok (.if_icmp .ge 13, 3) := by decide +kernel
theorem dX5_sundaysGo_7 : decode cX5_sundaysGo 7 = .ok (.aload_n 0, 1) := by decide +kernel
theorem dX5_sundaysGo_8 : decode cX5_sundaysGo 8 = .ok (.invokevirtual 92, 3) := by decide +kernel
theorem dX5_sundaysGo_11 : decode cX5_sundaysGo 11 = .ok (.iinc 2 1, 3) := by decide +kernel
theorem dX5_sundaysGo_14 : decode cX5_sundaysGo 14 = .ok (.goto (-12), 3) := by decide +kernel
theorem dX5_sundaysGo_17 : decode cX5_sundaysGo 17 = .ok (.return_, 1) := by decide +kernel
theorem dX5_sumOf_0 : decode cX5_sumOf 0 = .ok (.iconst 0, 1) := by decide +kernel
theorem dX5_sumOf_1 : decode cX5_sumOf 1 = .ok (.istore_n 2, 1) := by decide +kernel
theorem dX5_sumOf_2 : decode cX5_sumOf 2 = .ok (.iconst 0, 1) := by decide +kernel
theorem dX5_sumOf_3 : decode cX5_sumOf 3 = .ok (.istore_n 3, 1) := by decide +kernel
theorem dX5_sumOf_4 : decode cX5_sumOf 4 = .ok (.iload_n 3, 1) := by decide +kernel
theorem dX5_sumOf_5 : decode cX5_sumOf 5 = .ok (.aload_n 0, 1) := by decide +kernel
theorem dX5_sumOf_6 : decode cX5_sumOf 6 = .ok (.getfield 7, 3) := by decide +kernel
theorem dX5_sumOf_9 : decode cX5_sumOf 9 = .ok (.iconst 0, 1) := by decide +kernel
theorem dX5_sumOf_10 : decode cX5_sumOf 10 = .ok (.iaload, 1) := by decide +kernel
theorem dX5_sumOf_11 : decode cX5_sumOf 11 = .ok (.if_icmp .ge 18, 3) := by decide +kernel
theorem dX5_sumOf_14 : decode cX5_sumOf 14 = .ok (.iload_n 2, 1) := by decide +kernel
theorem dX5_sumOf_15 : decode cX5_sumOf 15 = .ok (.aload_n 0, 1) := by decide +kernel
theorem dX5_sumOf_16 : decode cX5_sumOf 16 = .ok (.iload_n 3, 1) := by decide +kernel
theorem dX5_sumOf_17 : decode cX5_sumOf 17 = .ok (.iload_n 1, 1) := by decide +kernel
theorem dX5_sumOf_18 : decode cX5_sumOf 18 = .ok (.invokevirtual 46, 3) := by decide +kernel
theorem dX5_sumOf_21 : decode cX5_sumOf 21 = .ok (.iadd, 1) := by decide +kernel
theorem dX5_sumOf_22 : decode cX5_sumOf 22 = .ok (.istore_n 2, 1) := by decide +kernel
theorem dX5_sumOf_23 : decode cX5_sumOf 23 = .ok (.iinc 3 1, 3) := by decide +kernel
theorem dX5_sumOf_26 : decode cX5_sumOf 26 = .ok (.goto (-22), 3) := by decide +kernel
theorem dX5_sumOf_29 : decode cX5_sumOf 29 = .ok (.iload_n 2, 1) := by decide +kernel
theorem dX5_sumOf_30 : decode cX5_sumOf 30 = .ok (.ireturn, 1) := by decide +kernel
theorem dX5_wells_0 : decode cX5_wells 0 = .ok (.iconst 0, 1) := by decide +kernel
theorem dX5_wells_1 : decode cX5_wells 1 = .ok (.istore_n 1, 1) := by decide +kernel
theorem dX5_wells_2 : decode cX5_wells 2 = .ok (.iconst 0, 1) := by decide +kernel
theorem dX5_wells_3 : decode cX5_wells 3 = .ok (.istore_n 2, 1) := by decide +kernel
theorem dX5_wells_4 : decode cX5_wells 4 = .ok (.iload_n 2, 1) := by decide +kernel
theorem dX5_wells_5 : decode cX5_wells 5 = .ok (.aload_n 0, 1) := by decide +kernel
theorem dX5_wells_6 : decode cX5_wells 6 = .ok (.getfield 7, 3) := by decide +kernel
theorem dX5_wells_9 : decode cX5_wells 9 = .ok (.iconst 0, 1) := by decide +kernel
theorem dX5_wells_10 : decode cX5_wells 10 = .ok (.iaload, 1) := by decide +kernel
theorem dX5_wells_11 : decode cX5_wells 11 = .ok (.if_icmp .ge 30, 3) := by decide +kernel
theorem dX5_wells_14 : decode cX5_wells 14 = .ok (.iload_n 1, 1) := by decide +kernel
theorem dX5_wells_15 : decode cX5_wells 15 = .ok (.aload_n 0, 1) := by decide +kernel
theorem dX5_wells_16 : decode cX5_wells 16 = .ok (.iload_n 2, 1) := by decide +kernel
theorem dX5_wells_17 : decode cX5_wells 17 = .ok (.iconst 1, 1) := by decide +kernel
theorem dX5_wells_18 : decode cX5_wells 18 = .ok (.invokevirtual 46, 3) := by decide +kernel
theorem dX5_wells_21 : decode cX5_wells 21 = .ok (.bipush 60, 2) := by decide +kernel
theorem dX5_wells_23 : decode cX5_wells 23 = .ok (.if_icmp .lt 9, 3) := by decide +kernel
theorem dX5_wells_26 : decode cX5_wells 26 = .ok (.iconst 1, 1) := by decide +kernel
theorem dX5_wells_27 : decode cX5_wells 27 = .ok (.iload_n 2, 1) := by decide +kernel
theorem dX5_wells_28 : decode cX5_wells 28 = .ok (.ishl, 1) := by decide +kernel
theorem dX5_wells_29 : decode cX5_wells 29 = .ok (.goto 4, 3) := by decide +kernel
theorem dX5_wells_32 : decode cX5_wells 32 = .ok (.iconst 0, 1) := by decide +kernel
theorem dX5_wells_33 : decode cX5_wells 33 = .ok (.ior, 1) := by decide +kernel
theorem dX5_wells_34 : decode cX5_wells 34 = .ok (.istore_n 1, 1) := by decide +kernel
theorem dX5_wells_35 : decode cX5_wells 35 = .ok (.iinc 2 1, 3) := by decide +kernel
theorem dX5_wells_38 : decode cX5_wells 38 = .ok (.goto (-34), 3) := by decide +kernel
theorem dX5_wells_41 : decode cX5_wells 41 = .ok (.iload_n 1, 1) := by decide +kernel
theorem dX5_wells_42 : decode cX5_wells 42 = .ok (.ireturn, 1) := by decide +kernel
theorem dX5_isSet_0 : decode cX5_isSet 0 = .ok (.iload_n 0, 1) := by decide +kernel
theorem dX5_isSet_1 : decode cX5_isSet 1 = .ok (.ifCond .eq 8, 3) := by decide +kernel
theorem dX5_isSet_4 : decode cX5_isSet 4 = .ok (.iload_n 0, 1) := by decide +kernel
theorem dX5_isSet_5 : decode cX5_isSet 5 = .ok (.iconst 1, 1) := by decide +kernel
theorem dX5_isSet_6 : decode cX5_isSet 6 = .ok (.if_icmp .ne 15, 3) := by decide +kernel
theorem dX5_isSet_9 : decode cX5_isSet 9 = .ok (.iload_n 1, 1) := by decide +kernel
theorem dX5_isSet_10 : decode cX5_isSet 10 = .ok (.i2l, 1) := by decide +kernel
theorem dX5_isSet_11 : decode cX5_isSet 11 = .ok (.lconst 0, 1) := by decide +kernel
theorem dX5_isSet_12 : decode cX5_isSet 12 = .ok (.ldc2_w 95, 3) := by decide +kernel
theorem dX5_isSet_15 : decode cX5_isSet 15 = .ok (.invokestatic 42, 3) := by decide +kernel
theorem dX5_isSet_18 : decode cX5_isSet 18 = .ok (.goto 42, 3) := by decide +kernel
theorem dX5_isSet_21 : decode cX5_isSet 21 = .ok (.iload_n 0, 1) := by decide +kernel
theorem dX5_isSet_22 : decode cX5_isSet 22 = .ok (.iconst 2, 1) := by decide +kernel
theorem dX5_isSet_23 : decode cX5_isSet 23 = .ok (.if_icmp .ne 15, 3) := by decide +kernel
theorem dX5_isSet_26 : decode cX5_isSet 26 = .ok (.iload_n 1, 1) := by decide +kernel
theorem dX5_isSet_27 : decode cX5_isSet 27 = .ok (.i2l, 1) := by decide +kernel
theorem dX5_isSet_28 : decode cX5_isSet 28 = .ok (.lconst 0, 1) := by decide +kernel
theorem dX5_isSet_29 : decode cX5_isSet 29 = .ok (.ldc2_w 97, 3) := by decide +kernel
theorem dX5_isSet_32 : decode cX5_isSet 32 = .ok (.invokestatic 42, 3) := by decide +kernel
theorem dX5_isSet_35 : decode cX5_isSet 35 = .ok (.goto 25, 3) := by decide +kernel
theorem dX5_isSet_38 : decode cX5_isSet 38 = .ok (.iload_n 0, 1) := by decide +kernel
theorem dX5_isSet_39 : decode cX5_isSet 39 = .ok (.iconst 3, 1) := by decide +kernel
theorem dX5_isSet_40 : decode cX5_isSet 40 = .ok (.if_icmp .ne 19, 3) := by decide +kernel
theorem dX5_isSet_43 : decode cX5_isSet 43 = .ok (.iload_n 1, 1) := by decide +kernel
theorem dX5_isSet_44 : decode cX5_isSet 44 = .ok (.i2l, 1) := by decide +kernel
theorem dX5_isSet_45 : decode cX5_isSet 45 = .ok (.lconst 1, 1) := by decide +kernel
theorem dX5_isSet_46 : decode cX5_isSet 46 = .ok (.ldc2_w 99, 3) := by decide +kernel
theorem dX5_isSet_49 : decode cX5_isSet 49 = .ok (.invokestatic 42, 3) := by decide +kernel
theorem dX5_isSet_52 : decode cX5_isSet 52 = .ok (.ifCond .eq 7, 3) := by decide +kernel
theorem dX5_isSet_55 : decode cX5_isSet 55 = .ok (.iconst 1, 1) := by decide +kernel
theorem dX5_isSet_56 : decode cX5_isSet 56 = .ok (.goto 4, 3) := by decide +kernel
theorem dX5_isSet_59 : decode cX5_isSet 59 = .ok (.iconst 0, 1) := by decide +kernel
theorem dX5_isSet_60 : decode cX5_isSet 60 = .ok (.ireturn, 1) := by decide +kernel
theorem dX5_set_0 : decode cX5_set 0 = .ok (.iload_n 1, 1) := by decide +kernel
theorem dX5_set_1 : decode cX5_set 1 = .ok (.iload_n 2, 1) := by decide +kernel
theorem dX5_set_2 : decode cX5_set 2 = .ok (.invokestatic 101, 3) := by decide +kernel
theorem dX5_set_5 : decode cX5_set 5 = .ok (.ifCond .eq 14, 3) := by decide +kernel
theorem dX5_set_8 : decode cX5_set 8 = .ok (.aload_n 0, 1) := by decide +kernel
theorem dX5_set_9 : decode cX5_set 9 = .ok (.iconst 3, 1) := by decide +kernel
theorem dX5_set_10 : decode cX5_set 10 = .ok (.iload_n 1, 1) := by decide +kernel
theorem dX5_set_11 : decode cX5_set 11 = .ok (.iadd, 1) := by decide +kernel
theorem dX5_set_12 : decode cX5_set 12 = .ok (.iload_n 2, 1) := by decide +kernel
theorem dX5_set_13 : decode cX5_set 13 = .ok (.invokevirtual 105, 3) := by decide +kernel
theorem dX5_set_16 : decode cX5_set 16 = .ok (.goto 8, 3) := by decide +kernel
theorem dX5_set_19 : decode cX5_set 19 = .ok (.aload_n 0, 1) := by decide +kernel
theorem dX5_set_20 : decode cX5_set 20 = .ok (.iconst 0, 1) := by decide +kernel
theorem dX5_set_21 : decode cX5_set 21 = .ok (.invokevirtual 108, 3) := by decide +kernel
theorem dX5_set_24 : decode cX5_set 24 = .ok (.ireturn, 1) := by decide +kernel
theorem dX5_home_0 : decode cX5_home 0 = .ok (.iload_n 1, 1) := by decide +kernel
theorem dX5_home_1 : decode cX5_home 1 = .ok (.i2l, 1) := by decide +kernel
theorem dX5_home_2 : decode cX5_home 2 = .ok (.lconst 0, 1) := by decide +kernel
theorem dX5_home_3 : decode cX5_home 3 = .ok (.ldc2_w 111, 3) := by decide +kernel
theorem dX5_home_6 : decode cX5_home 6 = .ok (.invokestatic 42, 3) := by decide +kernel
theorem dX5_home_9 : decode cX5_home 9 = .ok (.ifCond .eq 14, 3) := by decide +kernel
theorem dX5_home_12 : decode cX5_home 12 = .ok (.aload_n 0, 1) := by decide +kernel
theorem dX5_home_13 : decode cX5_home 13 = .ok (.getfield 7, 3) := by decide +kernel
theorem dX5_home_16 : decode cX5_home 16 = .ok (.iconst 3, 1) := by decide +kernel
theorem dX5_home_17 : decode cX5_home 17 = .ok (.iload_n 1, 1) := by decide +kernel
theorem dX5_home_18 : decode cX5_home 18 = .ok (.iadd, 1) := by decide +kernel
theorem dX5_home_19 : decode cX5_home 19 = .ok (.iaload, 1) := by decide +kernel
theorem dX5_home_20 : decode cX5_home 20 = .ok (.goto 8, 3) := by decide +kernel
theorem dX5_home_23 : decode cX5_home 23 = .ok (.aload_n 0, 1) := by decide +kernel
theorem dX5_home_24 : decode cX5_home 24 = .ok (.iconst 0, 1) := by decide +kernel
theorem dX5_home_25 : decode cX5_home 25 = .ok (.invokevirtual 108, 3) := by decide +kernel
theorem dX5_home_28 : decode cX5_home 28 = .ok (.ireturn, 1) := by decide +kernel
theorem dX5_isPlace_0 : decode cX5_isPlace 0 = .ok (.iload_n 0, 1) := by decide +kernel
theorem dX5_isPlace_1 : decode cX5_isPlace 1 = .ok (.i2l, 1) := by decide +kernel
theorem dX5_isPlace_2 : decode cX5_isPlace 2 = .ok (.lconst 0, 1) := by decide +kernel
theorem dX5_isPlace_3 : decode cX5_isPlace 3 = .ok (.ldc2_w 113, 3) := by decide +kernel
theorem dX5_isPlace_6 : decode cX5_isPlace 6 = .ok (.invokestatic 42, 3) := by decide +kernel
theorem dX5_isPlace_9 : decode cX5_isPlace 9 = .ok (.ireturn, 1) := by decide +kernel
theorem dX5_visit_0 : decode cX5_visit 0 = .ok (.iload_n 1, 1) := by decide +kernel
theorem dX5_visit_1 : decode cX5_visit 1 = .ok (.invokestatic 115, 3) := by decide +kernel
theorem dX5_visit_4 : decode cX5_visit 4 = .ok (.ifCond .eq 27, 3) := by decide +kernel
theorem dX5_visit_7 : decode cX5_visit 7 = .ok (.iload_n 2, 1) := by decide +kernel
theorem dX5_visit_8 : decode cX5_visit 8 = .ok (.i2l, 1) := by decide +kernel
theorem dX5_visit_9 : decode cX5_visit 9 = .ok (.lconst 0, 1) := by decide +kernel
theorem dX5_visit_10 : decode cX5_visit 10 = .ok (.ldc2_w 118, 3) := by decide +kernel
theorem dX5_visit_13 : decode cX5_visit 13 = .ok (.invokestatic 42, 3) := by decide +kernel
theorem dX5_visit_16 : decode cX5_visit 16 = .ok (.ifCond .eq 15, 3) := by decide +kernel
theorem dX5_visit_19 : decode cX5_visit 19 = .ok (.aload_n 0, 1) := by decide +kernel
theorem dX5_visit_20 : decode cX5_visit 20 = .ok (.bipush 7, 2) := by decide +kernel
theorem dX5_visit_22 : decode cX5_visit 22 = .ok (.iload_n 1, 1) := by decide +kernel
theorem dX5_visit_23 : decode cX5_visit 23 = .ok (.iadd, 1) := by decide +kernel
theorem dX5_visit_24 : decode cX5_visit 24 = .ok (.iload_n 2, 1) := by decide +kernel
theorem dX5_visit_25 : decode cX5_visit 25 = .ok (.invokevirtual 105, 3) := by decide +kernel
theorem dX5_visit_28 : decode cX5_visit 28 = .ok (.goto 8, 3) := by decide +kernel
theorem dX5_visit_31 : decode cX5_visit 31 = .ok (.aload_n 0, 1) := by decide +kernel
theorem dX5_visit_32 : decode cX5_visit 32 = .ok (.iconst 0, 1) := by decide +kernel
theorem dX5_visit_33 : decode cX5_visit 33 = .ok (.invokevirtual 108, 3) := by decide +kernel
theorem dX5_visit_36 : decode cX5_visit 36 = .ok (.ireturn, 1) := by decide +kernel
theorem dX5_visits_0 : decode cX5_visits 0 = .ok (.iload_n 1, 1) := by decide +kernel
theorem dX5_visits_1 : decode cX5_visits 1 = .ok (.invokestatic 115, 3) := by decide +kernel
theorem dX5_visits_4 : decode cX5_visits 4 = .ok (.ifCond .eq 15, 3) := by decide +kernel
theorem dX5_visits_7 : decode cX5_visits 7 = .ok (.aload_n 0, 1) := by decide +kernel
theorem dX5_visits_8 : decode cX5_visits 8 = .ok (.getfield 7, 3) := by decide +kernel
theorem dX5_visits_11 : decode cX5_visits 11 = .ok (.bipush 7, 2) := by decide +kernel
theorem dX5_visits_13 : decode cX5_visits 13 = .ok (.iload_n 1, 1) := by decide +kernel
theorem dX5_visits_14 : decode cX5_visits 14 = .ok (.iadd, 1) := by decide +kernel
theorem dX5_visits_15 : decode cX5_visits 15 = .ok (.iaload, 1) := by decide +kernel
theorem dX5_visits_16 : decode cX5_visits 16 = .ok (.goto 8, 3) := by decide +kernel
theorem dX5_visits_19 : decode cX5_visits 19 = .ok (.aload_n 0, 1) := by decide +kernel
theorem dX5_visits_20 : decode cX5_visits 20 = .ok (.iconst 0, 1) := by decide +kernel
theorem dX5_visits_21 : decode cX5_visits 21 = .ok (.invokevirtual 108, 3) := by decide +kernel
theorem dX5_visits_24 : decode cX5_visits 24 = .ok (.ireturn, 1) := by decide +kernel
theorem dX5_comes_0 : decode cX5_comes 0 = .ok (.aload_n 0, 1) := by decide +kernel
theorem dX5_comes_1 : decode cX5_comes 1 = .ok (.getfield 7, 3) := by decide +kernel
theorem dX5_comes_4 : decode cX5_comes 4 = .ok (.iconst 0, 1) := by decide +kernel
theorem dX5_comes_5 : decode cX5_comes 5 = .ok (.iaload, 1) := by decide +kernel
theorem dX5_comes_6 : decode cX5_comes 6 = .ok (.istore_n 2, 1) := by decide +kernel
theorem dX5_comes_7 : decode cX5_comes 7 = .ok (.aload_n 0, 1) := by decide +kernel
theorem dX5_comes_8 : decode cX5_comes 8 = .ok (.iload_n 2, 1) := by decide +kernel
theorem dX5_comes_9 : decode cX5_comes 9 = .ok (.iconst 0, 1) := by decide +kernel
theorem dX5_comes_10 : decode cX5_comes 10 = .ok (.iload_n 1, 1) := by decide +kernel
theorem dX5_comes_11 : decode cX5_comes 11 = .ok (.invokevirtual 87, 3) := by decide +kernel
theorem dX5_comes_14 : decode cX5_comes 14 = .ok (.aload_n 0, 1) := by decide +kernel
theorem dX5_comes_15 : decode cX5_comes 15 = .ok (.iload_n 2, 1) := by decide +kernel
theorem dX5_comes_16 : decode cX5_comes 16 = .ok (.iconst 1, 1) := by decide +kernel
theorem dX5_comes_17 : decode cX5_comes 17 = .ok (.bipush 50, 2) := by decide +kernel
theorem dX5_comes_19 : decode cX5_comes 19 = .ok (.invokevirtual 87, 3) := by decide +kernel
theorem dX5_comes_22 : decode cX5_comes 22 = .ok (.aload_n 0, 1) := by decide +kernel
theorem dX5_comes_23 : decode cX5_comes 23 = .ok (.iload_n 2, 1) := by decide +kernel
theorem dX5_comes_24 : decode cX5_comes 24 = .ok (.iconst 2, 1) := by decide +kernel
theorem dX5_comes_25 : decode cX5_comes 25 = .ok (.iconst (-1), 1) := by decide +kernel
theorem dX5_comes_26 : decode cX5_comes 26 = .ok (.invokevirtual 87, 3) := by decide +kernel
theorem dX5_comes_29 : decode cX5_comes 29 = .ok (.aload_n 0, 1) := by decide +kernel
theorem dX5_comes_30 : decode cX5_comes 30 = .ok (.iload_n 2, 1) := by decide +kernel
theorem dX5_comes_31 : decode cX5_comes 31 = .ok (.iconst 3, 1) := by decide +kernel
theorem dX5_comes_32 : decode cX5_comes 32 = .ok (.iconst 0, 1) := by decide +kernel
theorem dX5_comes_33 : decode cX5_comes 33 = .ok (.invokevirtual 87, 3) := by decide +kernel
theorem dX5_comes_36 : decode cX5_comes 36 = .ok (.aload_n 0, 1) := by decide +kernel
theorem dX5_comes_37 : decode cX5_comes 37 = .ok (.iload_n 2, 1) := by decide +kernel
theorem dX5_comes_38 : decode cX5_comes 38 = .ok (.iconst 4, 1) := by decide +kernel
theorem dX5_comes_39 : decode cX5_comes 39 = .ok (.iconst 0, 1) := by decide +kernel
theorem dX5_comes_40 : decode cX5_comes 40 = .ok (.invokevirtual 87, 3) := by decide +kernel
theorem dX5_comes_43 : decode cX5_comes 43 = .ok (.aload_n 0, 1) := by decide +kernel
theorem dX5_comes_44 : decode cX5_comes 44 = .ok (.getfield 7, 3) := by decide +kernel
theorem dX5_comes_47 : decode cX5_comes 47 = .ok (.iconst 0, 1) := by decide +kernel
theorem dX5_comes_48 : decode cX5_comes 48 = .ok (.dup2, 1) := by decide +kernel
theorem dX5_comes_49 : decode cX5_comes 49 = .ok (.iaload, 1) := by decide +kernel
theorem dX5_comes_50 : decode cX5_comes 50 = .ok (.iconst 1, 1) := by decide +kernel
theorem dX5_comes_51 : decode cX5_comes 51 = .ok (.iadd, 1) := by decide +kernel
theorem dX5_comes_52 : decode cX5_comes 52 = .ok (.iastore, 1) := by decide +kernel
theorem dX5_comes_53 : decode cX5_comes 53 = .ok (.iload_n 2, 1) := by decide +kernel
theorem dX5_comes_54 : decode cX5_comes 54 = .ok (.ireturn, 1) := by decide +kernel
theorem dX5_resident_0 : decode cX5_resident 0 = .ok (.iload_n 1, 1) := by decide +kernel
theorem dX5_resident_1 : decode cX5_resident 1 = .ok (.i2l, 1) := by decide +kernel
theorem dX5_resident_2 : decode cX5_resident 2 = .ok (.lconst 0, 1) := by decide +kernel
theorem dX5_resident_3 : decode cX5_resident 3 = .ok (.ldc2_w 120, 3) := by decide +kernel
theorem dX5_resident_6 : decode cX5_resident 6 = .ok (.invokestatic 42, 3) := by decide +kernel
theorem dX5_resident_9 : decode cX5_resident 9 = .ok (.ifCond .ne 9, 3) := by decide +kernel
theorem dX5_resident_12 : decode cX5_resident 12 = .ok (.aload_n 0, 1) := by decide +kernel
theorem dX5_resident_13 : decode cX5_resident 13 = .ok (.iconst 0, 1) := by decide +kernel
theorem dX5_resident_14 : decode cX5_resident 14 = .ok (.invokevirtual 108, 3) := by decide +kernel
theorem dX5_resident_17 : decode cX5_resident 17 = .ok (.ireturn, 1) := by decide +kernel
theorem dX5_resident_18 : decode cX5_resident 18 = .ok (.aload_n 0, 1) := by decide +kernel
theorem dX5_resident_19 : decode cX5_resident 19 = .ok (.getfield 7, 3) := by decide +kernel
theorem dX5_resident_22 : decode cX5_resident 22 = .ok (.iconst 0, 1) := by decide +kernel
theorem dX5_resident_23 : decode cX5_resident 23 = .ok (.iaload, 1) := by decide +kernel
theorem dX5_resident_24 : decode cX5_resident 24 = .ok (.bipush 8, 2) := by decide +kernel
theorem dX5_resident_26 : decode cX5_resident 26 = .ok (.if_icmp .ne 11, 3) := by decide +kernel
theorem dX5_resident_29 : decode cX5_resident 29 = .ok (.aload_n 0, 1) := by decide +kernel
theorem dX5_resident_30 : decode cX5_resident 30 = .ok (.iconst 1, 1) := by decide +kernel
theorem dX5_resident_31 : decode cX5_resident 31 = .ok (.invokevirtual 108, 3) := by decide +kernel
theorem dX5_resident_34 : decode cX5_resident 34 = .ok (.goto 8, 3) := by decide +kernel
theorem dX5_resident_37 : decode cX5_resident 37 = .ok (.aload_n 0, 1) := by decide +kernel
theorem dX5_resident_38 : decode cX5_resident 38 = .ok (.iload_n 1, 1) := by decide +kernel
theorem dX5_resident_39 : decode cX5_resident 39 = .ok (.invokevirtual 122, 3) := by decide +kernel
theorem dX5_resident_42 : decode cX5_resident 42 = .ok (.ireturn, 1) := by decide +kernel
theorem dX5_of_0 : decode cX5_of 0 = .ok (.aload_n 0, 1) := by decide +kernel
theorem dX5_of_1 : decode cX5_of 1 = .ok (.iload_n 1, 1) := by decide +kernel
theorem dX5_of_2 : decode cX5_of 2 = .ok (.invokevirtual 125, 3) := by decide +kernel
theorem dX5_of_5 : decode cX5_of 5 = .ok (.ifCond .eq 15, 3) := by decide +kernel
theorem dX5_of_8 : decode cX5_of 8 = .ok (.iload_n 2, 1) := by decide +kernel
theorem dX5_of_9 : decode cX5_of 9 = .ok (.i2l, 1) := by decide +kernel
theorem dX5_of_10 : decode cX5_of 10 = .ok (.lconst 0, 1) := by decide +kernel
theorem dX5_of_11 : decode cX5_of 11 = .ok (.ldc2_w 97, 3) := by decide +kernel
theorem dX5_of_14 : decode cX5_of 14 = .ok (.invokestatic 42, 3) := by decide +kernel
theorem dX5_of_17 : decode cX5_of 17 = .ok (.ifCond .ne 9, 3) := by decide +kernel
theorem dX5_of_20 : decode cX5_of 20 = .ok (.aload_n 0, 1) := by decide +kernel
theorem dX5_of_21 : decode cX5_of 21 = .ok (.iconst 0, 1) := by decide +kernel
theorem dX5_of_22 : decode cX5_of 22 = .ok (.invokevirtual 108, 3) := by decide +kernel
theorem dX5_of_25 : decode cX5_of 25 = .ok (.ireturn, 1) := by decide +kernel
theorem dX5_of_26 : decode cX5_of 26 = .ok (.iload_n 2, 1) := by decide +kernel
theorem dX5_of_27 : decode cX5_of 27 = .ok (.tableswitch 62 5 8 #[29, 35, 41, 48], 29) := by decide +kernel
theorem dX5_of_56 : decode cX5_of 56 = .ok (.aload_n 0, 1) := by decide +kernel
theorem dX5_of_57 : decode cX5_of 57 = .ok (.iload_n 1, 1) := by decide +kernel
theorem dX5_of_58 : decode cX5_of 58 = .ok (.invokevirtual 54, 3) := by decide +kernel
theorem dX5_of_61 : decode cX5_of 61 = .ok (.ireturn, 1) := by decide +kernel
theorem dX5_of_62 : decode cX5_of 62 = .ok (.aload_n 0, 1) := by decide +kernel
theorem dX5_of_63 : decode cX5_of 63 = .ok (.iload_n 1, 1) := by decide +kernel
theorem dX5_of_64 : decode cX5_of 64 = .ok (.invokevirtual 84, 3) := by decide +kernel
theorem dX5_of_67 : decode cX5_of 67 = .ok (.ireturn, 1) := by decide +kernel
theorem dX5_of_68 : decode cX5_of 68 = .ok (.aload_n 0, 1) := by decide +kernel
theorem dX5_of_69 : decode cX5_of 69 = .ok (.iload_n 1, 1) := by decide +kernel
theorem dX5_of_70 : decode cX5_of 70 = .ok (.iconst 0, 1) := by decide +kernel
theorem dX5_of_71 : decode cX5_of 71 = .ok (.invokevirtual 81, 3) := by decide +kernel
theorem dX5_of_74 : decode cX5_of 74 = .ok (.ireturn, 1) := by decide +kernel
theorem dX5_of_75 : decode cX5_of 75 = .ok (.aload_n 0, 1) := by decide +kernel
theorem dX5_of_76 : decode cX5_of 76 = .ok (.iload_n 1, 1) := by decide +kernel
theorem dX5_of_77 : decode cX5_of 77 = .ok (.invokevirtual 58, 3) := by decide +kernel
theorem dX5_of_80 : decode cX5_of 80 = .ok (.ifCond .eq 7, 3) := by decide +kernel
theorem dX5_of_83 : decode cX5_of 83 = .ok (.iconst 1, 1) := by decide +kernel
theorem dX5_of_84 : decode cX5_of 84 = .ok (.goto 4, 3) := by decide +kernel
theorem dX5_of_87 : decode cX5_of 87 = .ok (.iconst 0, 1) := by decide +kernel
theorem dX5_of_88 : decode cX5_of 88 = .ok (.ireturn, 1) := by decide +kernel
theorem dX5_of_89 : decode cX5_of 89 = .ok (.aload_n 0, 1) := by decide +kernel
theorem dX5_of_90 : decode cX5_of 90 = .ok (.iload_n 1, 1) := by decide +kernel
theorem dX5_of_91 : decode cX5_of 91 = .ok (.iload_n 2, 1) := by decide +kernel
theorem dX5_of_92 : decode cX5_of 92 = .ok (.invokevirtual 46, 3) := by decide +kernel
theorem dX5_of_95 : decode cX5_of 95 = .ok (.ireturn, 1) := by decide +kernel
theorem dX5_isIts_0 : decode cX5_isIts 0 = .ok (.iload_n 2, 1) := by decide +kernel
theorem dX5_isIts_1 : decode cX5_isIts 1 = .ok (.ifCond .ne 15, 3) := by decide +kernel
theorem dX5_isIts_4 : decode cX5_isIts 4 = .ok (.iload_n 3, 1) := by decide +kernel
theorem dX5_isIts_5 : decode cX5_isIts 5 = .ok (.i2l, 1) := by decide +kernel
theorem dX5_isIts_6 : decode cX5_isIts 6 = .ok (.lconst 0, 1) := by decide +kernel
theorem dX5_isIts_7 : decode cX5_isIts 7 = .ok (.ldc2_w 120, 3) := by decide +kernel
theorem dX5_isIts_10 : decode cX5_isIts 10 = .ok (.invokestatic 42, 3) := by decide +kernel
theorem dX5_isIts_13 : decode cX5_isIts 13 = .ok (.goto 67, 3) := by decide +kernel
theorem dX5_isIts_16 : decode cX5_isIts 16 = .ok (.iload_n 2, 1) := by decide +kernel
theorem dX5_isIts_17 : decode cX5_isIts 17 = .ok (.iconst 1, 1) := by decide +kernel
theorem dX5_isIts_18 : decode cX5_isIts 18 = .ok (.if_icmp .ne 15, 3) := by decide +kernel
theorem dX5_isIts_21 : decode cX5_isIts 21 = .ok (.iload_n 3, 1) := by decide +kernel
theorem dX5_isIts_22 : decode cX5_isIts 22 = .ok (.i2l, 1) := by decide +kernel
theorem dX5_isIts_23 : decode cX5_isIts 23 = .ok (.lconst 0, 1) := by decide +kernel
theorem dX5_isIts_24 : decode cX5_isIts 24 = .ok (.ldc2_w 128, 3) := by decide +kernel
theorem dX5_isIts_27 : decode cX5_isIts 27 = .ok (.invokestatic 42, 3) := by decide +kernel
theorem dX5_isIts_30 : decode cX5_isIts 30 = .ok (.goto 50, 3) := by decide +kernel
theorem dX5_isIts_33 : decode cX5_isIts 33 = .ok (.iload_n 2, 1) := by decide +kernel
theorem dX5_isIts_34 : decode cX5_isIts 34 = .ok (.iconst 2, 1) := by decide +kernel
theorem dX5_isIts_35 : decode cX5_isIts 35 = .ok (.if_icmp .ne 36, 3) := by decide +kernel
theorem dX5_isIts_38 : decode cX5_isIts 38 = .ok (.iload_n 3, 1) := by decide +kernel
theorem dX5_isIts_39 : decode cX5_isIts 39 = .ok (.i2l, 1) := by decide +kernel
theorem dX5_isIts_40 : decode cX5_isIts 40 = .ok (.ldc2_w 130, 3) := by decide +kernel
theorem dX5_isIts_43 : decode cX5_isIts 43 = .ok (.aload_n 0, 1) := by decide +kernel
theorem dX5_isIts_44 : decode cX5_isIts 44 = .ok (.getfield 7, 3) := by decide +kernel
theorem dX5_isIts_47 : decode cX5_isIts 47 = .ok (.iconst 0, 1) := by decide +kernel
theorem dX5_isIts_48 : decode cX5_isIts 48 = .ok (.iaload, 1) := by decide +kernel
theorem dX5_isIts_49 : decode cX5_isIts 49 = .ok (.iconst 1, 1) := by decide +kernel
theorem dX5_isIts_50 : decode cX5_isIts 50 = .ok (.isub, 1) := by decide +kernel
theorem dX5_isIts_51 : decode cX5_isIts 51 = .ok (.i2l, 1) := by decide +kernel
theorem dX5_isIts_52 : decode cX5_isIts 52 = .ok (.invokestatic 42, 3) := by decide +kernel
theorem dX5_isIts_55 : decode cX5_isIts 55 = .ok (.ifCond .eq 12, 3) := by decide +kernel
theorem dX5_isIts_58 : decode cX5_isIts 58 = .ok (.iload_n 3, 1) := by decide +kernel
theorem dX5_isIts_59 : decode cX5_isIts 59 = .ok (.iload_n 1, 1) := by decide +kernel
theorem dX5_isIts_60 : decode cX5_isIts 60 = .ok (.if_icmp .eq 7, 3) := by decide +kernel
theorem dX5_isIts_63 : decode cX5_isIts 63 = .ok (.iconst 1, 1) := by decide +kernel
theorem dX5_isIts_64 : decode cX5_isIts 64 = .ok (.goto 16, 3) := by decide +kernel
theorem dX5_isIts_67 : decode cX5_isIts 67 = .ok (.iconst 0, 1) := by decide +kernel
theorem dX5_isIts_68 : decode cX5_isIts 68 = .ok (.goto 12, 3) := by decide +kernel
theorem dX5_isIts_71 : decode cX5_isIts 71 = .ok (.iload_n 3, 1) := by decide +kernel
theorem dX5_isIts_72 : decode cX5_isIts 72 = .ok (.i2l, 1) := by decide +kernel
theorem dX5_isIts_73 : decode cX5_isIts 73 = .ok (.lconst 0, 1) := by decide +kernel
theorem dX5_isIts_74 : decode cX5_isIts 74 = .ok (.ldc2_w 132, 3) := by decide +kernel
theorem dX5_isIts_77 : decode cX5_isIts 77 = .ok (.invokestatic 42, 3) := by decide +kernel
theorem dX5_isIts_80 : decode cX5_isIts 80 = .ok (.ireturn, 1) := by decide +kernel
theorem dX5_change_0 : decode cX5_change 0 = .ok (.aload_n 0, 1) := by decide +kernel
theorem dX5_change_1 : decode cX5_change 1 = .ok (.iload_n 1, 1) := by decide +kernel
theorem dX5_change_2 : decode cX5_change 2 = .ok (.invokevirtual 125, 3) := by decide +kernel
theorem dX5_change_5 : decode cX5_change 5 = .ok (.ifCond .eq 42, 3) := by decide +kernel
theorem dX5_change_8 : decode cX5_change 8 = .ok (.iload_n 2, 1) := by decide +kernel
theorem dX5_change_9 : decode cX5_change 9 = .ok (.i2l, 1) := by decide +kernel
theorem dX5_change_10 : decode cX5_change 10 = .ok (.lconst 0, 1) := by decide +kernel
theorem dX5_change_11 : decode cX5_change 11 = .ok (.ldc2_w 134, 3) := by decide +kernel
theorem dX5_change_14 : decode cX5_change 14 = .ok (.invokestatic 42, 3) := by decide +kernel
theorem dX5_change_17 : decode cX5_change 17 = .ok (.ifCond .eq 30, 3) := by decide +kernel
theorem dX5_change_20 : decode cX5_change 20 = .ok (.aload_n 0, 1) := by decide +kernel
theorem dX5_change_21 : decode cX5_change 21 = .ok (.iload_n 1, 1) := by decide +kernel
theorem dX5_change_22 : decode cX5_change 22 = .ok (.iload_n 2, 1) := by decide +kernel
theorem dX5_change_23 : decode cX5_change 23 = .ok (.iload_n 3, 1) := by decide +kernel
theorem dX5_change_24 : decode cX5_change 24 = .ok (.invokevirtual 136, 3) := by decide +kernel
theorem dX5_change_27 : decode cX5_change 27 = .ok (.ifCond .eq 20, 3) := by decide +kernel
theorem dX5_change_30 : decode cX5_change 30 = .ok (.aload_n 0, 1) := by decide +kernel
theorem dX5_change_31 : decode cX5_change 31 = .ok (.bipush 13, 2) := by decide +kernel
theorem dX5_change_33 : decode cX5_change 33 = .ok (.bipush 8, 2) := by decide +kernel
theorem dX5_change_35 : decode cX5_change 35 = .ok (.iload_n 2, 1) := by decide +kernel
theorem dX5_change_36 : decode cX5_change 36 = .ok (.imul, 1) := by decide +kernel
theorem dX5_change_37 : decode cX5_change 37 = .ok (.iadd, 1) := by decide +kernel
theorem dX5_change_38 : decode cX5_change 38 = .ok (.iload_n 1, 1) := by decide +kernel
theorem dX5_change_39 : decode cX5_change 39 = .ok (.iadd, 1) := by decide +kernel
theorem dX5_change_40 : decode cX5_change 40 = .ok (.iload_n 3, 1) := by decide +kernel
theorem dX5_change_41 : decode cX5_change 41 = .ok (.invokevirtual 105, 3) := by decide +kernel
theorem dX5_change_44 : decode cX5_change 44 = .ok (.goto 8, 3) := by decide +kernel
theorem dX5_change_47 : decode cX5_change 47 = .ok (.aload_n 0, 1) := by decide +kernel
theorem dX5_change_48 : decode cX5_change 48 = .ok (.iconst 0, 1) := by decide +kernel
theorem dX5_change_49 : decode cX5_change 49 = .ok (.invokevirtual 108, 3) := by decide +kernel
theorem dX5_change_52 : decode cX5_change 52 = .ok (.ireturn, 1) := by decide +kernel
theorem dX5_go_0 : decode cX5_go 0 = .ok (.iload_n 1, 1) := by decide +kernel
theorem dX5_go_1 : decode cX5_go 1 = .ok (.i2l, 1) := by decide +kernel
theorem dX5_go_2 : decode cX5_go 2 = .ok (.lconst 1, 1) := by decide +kernel
theorem dX5_go_3 : decode cX5_go 3 = .ok (.ldc2_w 140, 3) := by decide +kernel
theorem dX5_go_6 : decode cX5_go 6 = .ok (.invokestatic 42, 3) := by decide +kernel
theorem dX5_go_9 : decode cX5_go 9 = .ok (.ifCond .ne 9, 3) := by decide +kernel
theorem dX5_go_12 : decode cX5_go 12 = .ok (.aload_n 0, 1) := by decide +kernel
theorem dX5_go_13 : decode cX5_go 13 = .ok (.iconst 0, 1) := by decide +kernel
theorem dX5_go_14 : decode cX5_go 14 = .ok (.invokevirtual 108, 3) := by decide +kernel
theorem dX5_go_17 : decode cX5_go 17 = .ok (.ireturn, 1) := by decide +kernel
theorem dX5_go_18 : decode cX5_go 18 = .ok (.aload_n 0, 1) := by decide +kernel
theorem dX5_go_19 : decode cX5_go 19 = .ok (.getfield 7, 3) := by decide +kernel
theorem dX5_go_22 : decode cX5_go 22 = .ok (.iconst 1, 1) := by decide +kernel
theorem dX5_go_23 : decode cX5_go 23 = .ok (.iaload, 1) := by decide +kernel
theorem dX5_go_24 : decode cX5_go 24 = .ok (.iload_n 1, 1) := by decide +kernel
theorem dX5_go_25 : decode cX5_go 25 = .ok (.iadd, 1) := by decide +kernel
theorem dX5_go_26 : decode cX5_go 26 = .ok (.ldc 91, 2) := by decide +kernel
theorem dX5_go_28 : decode cX5_go 28 = .ok (.if_icmp .le 9, 3) := by decide +kernel
theorem dX5_go_31 : decode cX5_go 31 = .ok (.aload_n 0, 1) := by decide +kernel
theorem dX5_go_32 : decode cX5_go 32 = .ok (.iconst 4, 1) := by decide +kernel
theorem dX5_go_33 : decode cX5_go 33 = .ok (.invokevirtual 108, 3) := by decide +kernel
theorem dX5_go_36 : decode cX5_go 36 = .ok (.ireturn, 1) := by decide +kernel
theorem dX5_go_37 : decode cX5_go 37 = .ok (.aload_n 0, 1) := by decide +kernel
theorem dX5_go_38 : decode cX5_go 38 = .ok (.iload_n 1, 1) := by decide +kernel
theorem dX5_go_39 : decode cX5_go 39 = .ok (.invokevirtual 142, 3) := by decide +kernel
theorem dX5_go_42 : decode cX5_go 42 = .ok (.aload_n 0, 1) := by decide +kernel
theorem dX5_go_43 : decode cX5_go 43 = .ok (.iconst 1, 1) := by decide +kernel
theorem dX5_go_44 : decode cX5_go 44 = .ok (.invokevirtual 146, 3) := by decide +kernel
theorem dX5_go_47 : decode cX5_go 47 = .ok (.ireturn, 1) := by decide +kernel
theorem dX5_now_0 : decode cX5_now 0 = .ok (.aload_n 0, 1) := by decide +kernel
theorem dX5_now_1 : decode cX5_now 1 = .ok (.aload_n 0, 1) := by decide +kernel
theorem dX5_now_2 : decode cX5_now 2 = .ok (.invokevirtual 65, 3) := by decide +kernel
theorem dX5_now_5 : decode cX5_now 5 = .ok (.invokevirtual 69, 3) := by decide +kernel
theorem dX5_now_8 : decode cX5_now 8 = .ok (.istore_n 2, 1) := by decide +kernel
theorem dX5_now_9 : decode cX5_now 9 = .ok (.aload_n 0, 1) := by decide +kernel
theorem dX5_now_10 : decode cX5_now 10 = .ok (.iload_n 2, 1) := by decide +kernel
theorem dX5_now_11 : decode cX5_now 11 = .ok (.invokevirtual 72, 3) := by decide +kernel
theorem dX5_now_14 : decode cX5_now 14 = .ok (.istore_n 3, 1) := by decide +kernel
theorem dX5_now_15 : decode cX5_now 15 = .ok (.iload_n 1, 1) := by decide +kernel
theorem dX5_now_16 : decode cX5_now 16 = .ok (.tableswitch 90 0 7 #[48, 55, 61, 66, 68, 70, 78, 84], 48) := by decide +kernel
theorem dX5_now_64 : decode cX5_now 64 = .ok (.aload_n 0, 1) := by decide +kernel
theorem dX5_now_65 : decode cX5_now 65 = .ok (.getfield 7, 3) := by decide +kernel
theorem dX5_now_68 : decode cX5_now 68 = .ok (.iconst 1, 1) := by decide +kernel
theorem dX5_now_69 : decode cX5_now 69 = .ok (.iaload, 1) := by decide +kernel
theorem dX5_now_70 : decode cX5_now 70 = .ok (.ireturn, 1) := by decide +kernel
theorem dX5_now_71 : decode cX5_now 71 = .ok (.aload_n 0, 1) := by decide +kernel
theorem dX5_now_72 : decode cX5_now 72 = .ok (.iconst 1, 1) := by decide +kernel
theorem dX5_now_73 : decode cX5_now 73 = .ok (.invokevirtual 146, 3) := by decide +kernel
theorem dX5_now_76 : decode cX5_now 76 = .ok (.ireturn, 1) := by decide +kernel
theorem dX5_now_77 : decode cX5_now 77 = .ok (.aload_n 0, 1) := by decide +kernel
theorem dX5_now_78 : decode cX5_now 78 = .ok (.invokevirtual 149, 3) := by decide +kernel
theorem dX5_now_81 : decode cX5_now 81 = .ok (.ireturn, 1) := by decide +kernel
theorem dX5_now_82 : decode cX5_now 82 = .ok (.iload_n 2, 1) := by decide +kernel
theorem dX5_now_83 : decode cX5_now 83 = .ok (.ireturn, 1) := by decide +kernel
theorem dX5_now_84 : decode cX5_now 84 = .ok (.iload_n 3, 1) := by decide +kernel
theorem dX5_now_85 : decode cX5_now 85 = .ok (.ireturn, 1) := by decide +kernel
theorem dX5_now_86 : decode cX5_now 86 = .ok (.aload_n 0, 1) := by decide +kernel
theorem dX5_now_87 : decode cX5_now 87 = .ok (.iload_n 2, 1) := by decide +kernel
theorem dX5_now_88 : decode cX5_now 88 = .ok (.iload_n 3, 1) := by decide +kernel
theorem dX5_now_89 : decode cX5_now 89 = .ok (.ior, 1) := by decide +kernel
theorem dX5_now_90 : decode cX5_now 90 = .ok (.invokevirtual 75, 3) := by decide +kernel
theorem dX5_now_93 : decode cX5_now 93 = .ok (.ireturn, 1) := by decide +kernel
theorem dX5_now_94 : decode cX5_now 94 = .ok (.aload_n 0, 1) := by decide +kernel
theorem dX5_now_95 : decode cX5_now 95 = .ok (.iconst 0, 1) := by decide +kernel
theorem dX5_now_96 : decode cX5_now 96 = .ok (.invokevirtual 62, 3) := by decide +kernel
theorem dX5_now_99 : decode cX5_now 99 = .ok (.ireturn, 1) := by decide +kernel
theorem dX5_now_100 : decode cX5_now 100 = .ok (.aload_n 0, 1) := by decide +kernel
theorem dX5_now_101 : decode cX5_now 101 = .ok (.iconst 4, 1) := by decide +kernel
theorem dX5_now_102 : decode cX5_now 102 = .ok (.invokevirtual 146, 3) := by decide +kernel
theorem dX5_now_105 : decode cX5_now 105 = .ok (.ireturn, 1) := by decide +kernel
theorem dX5_now_106 : decode cX5_now 106 = .ok (.aload_n 0, 1) := by decide +kernel
theorem dX5_now_107 : decode cX5_now 107 = .ok (.iconst 0, 1) := by decide +kernel
theorem dX5_now_108 : decode cX5_now 108 = .ok (.invokevirtual 108, 3) := by decide +kernel
theorem dX5_now_111 : decode cX5_now 111 = .ok (.ireturn, 1) := by decide +kernel
theorem dX5_behind_0 : decode cX5_behind 0 = .ok (.aload_n 0, 1) := by decide +kernel
theorem dX5_behind_1 : decode cX5_behind 1 = .ok (.iload_n 1, 1) := by decide +kernel
theorem dX5_behind_2 : decode cX5_behind 2 = .ok (.invokevirtual 142, 3) := by decide +kernel
theorem dX5_behind_5 : decode cX5_behind 5 = .ok (.aload_n 0, 1) := by decide +kernel
theorem dX5_behind_6 : decode cX5_behind 6 = .ok (.getfield 7, 3) := by decide +kernel
theorem dX5_behind_9 : decode cX5_behind 9 = .ok (.iload_n 2, 1) := by decide +kernel
theorem dX5_behind_10 : decode cX5_behind 10 = .ok (.iaload, 1) := by decide +kernel
theorem dX5_behind_11 : decode cX5_behind 11 = .ok (.istore_n 3, 1) := by decide +kernel
theorem dX5_behind_12 : decode cX5_behind 12 = .ok (.aload_n 0, 1) := by decide +kernel
theorem dX5_behind_13 : decode cX5_behind 13 = .ok (.getfield 16, 3) := by decide +kernel
theorem dX5_behind_16 : decode cX5_behind 16 = .ok (.aload_n 0, 1) := by decide +kernel
theorem dX5_behind_17 : decode cX5_behind 17 = .ok (.getfield 7, 3) := by decide +kernel
theorem dX5_behind_20 : decode cX5_behind 20 = .ok (.invokestatic 152, 3) := by decide +kernel
theorem dX5_behind_23 : decode cX5_behind 23 = .ok (.iload_n 3, 1) := by decide +kernel
theorem dX5_behind_24 : decode cX5_behind 24 = .ok (.ireturn, 1) := by decide +kernel
theorem dX5_ahead_0 : decode cX5_ahead 0 = .ok (.aload_n 0, 1) := by decide +kernel
theorem dX5_ahead_1 : decode cX5_ahead 1 = .ok (.iload_n 1, 1) := by decide +kernel
theorem dX5_ahead_2 : decode cX5_ahead 2 = .ok (.invokevirtual 125, 3) := by decide +kernel
theorem dX5_ahead_5 : decode cX5_ahead 5 = .ok (.ifCond .eq 30, 3) := by decide +kernel
theorem dX5_ahead_8 : decode cX5_ahead 8 = .ok (.iload_n 2, 1) := by decide +kernel
theorem dX5_ahead_9 : decode cX5_ahead 9 = .ok (.iconst 1, 1) := by decide +kernel
theorem dX5_ahead_10 : decode cX5_ahead 10 = .ok (.if_icmp .eq 13, 3) := by decide +kernel
theorem dX5_ahead_13 : decode cX5_ahead 13 = .ok (.iload_n 2, 1) := by decide +kernel
theorem dX5_ahead_14 : decode cX5_ahead 14 = .ok (.iconst 3, 1) := by decide +kernel
theorem dX5_ahead_15 : decode cX5_ahead 15 = .ok (.if_icmp .eq 8, 3) := by decide +kernel
theorem dX5_ahead_18 : decode cX5_ahead 18 = .ok (.iload_n 2, 1) := by decide +kernel
theorem dX5_ahead_19 : decode cX5_ahead 19 = .ok (.iconst 4, 1) := by decide +kernel
theorem dX5_ahead_20 : decode cX5_ahead 20 = .ok (.if_icmp .ne 15, 3) := by decide +kernel
theorem dX5_ahead_23 : decode cX5_ahead 23 = .ok (.iload_n 3, 1) := by decide +kernel
theorem dX5_ahead_24 : decode cX5_ahead 24 = .ok (.i2l, 1) := by decide +kernel
theorem dX5_ahead_25 : decode cX5_ahead 25 = .ok (.lconst 0, 1) := by decide +kernel
theorem dX5_ahead_26 : decode cX5_ahead 26 = .ok (.ldc2_w 156, 3) := by decide +kernel
theorem dX5_ahead_29 : decode cX5_ahead 29 = .ok (.invokestatic 42, 3) := by decide +kernel
theorem dX5_ahead_32 : decode cX5_ahead 32 = .ok (.ifCond .ne 9, 3) := by decide +kernel
theorem dX5_ahead_35 : decode cX5_ahead 35 = .ok (.aload_n 0, 1) := by decide +kernel
theorem dX5_ahead_36 : decode cX5_ahead 36 = .ok (.iconst 0, 1) := by decide +kernel
theorem dX5_ahead_37 : decode cX5_ahead 37 = .ok (.invokevirtual 108, 3) := by decide +kernel
theorem dX5_ahead_40 : decode cX5_ahead 40 = .ok (.ireturn, 1) := by decide +kernel
theorem dX5_ahead_41 : decode cX5_ahead 41 = .ok (.aload_n 0, 1) := by decide +kernel
theorem dX5_ahead_42 : decode cX5_ahead 42 = .ok (.getfield 7, 3) := by decide +kernel
theorem dX5_ahead_45 : decode cX5_ahead 45 = .ok (.aload_n 0, 1) := by decide +kernel
theorem dX5_ahead_46 : decode cX5_ahead 46 = .ok (.getfield 16, 3) := by decide +kernel
theorem dX5_ahead_49 : decode cX5_ahead 49 = .ok (.invokestatic 152, 3) := by decide +kernel
theorem dX5_ahead_52 : decode cX5_ahead 52 = .ok (.aload_n 0, 1) := by decide +kernel
theorem dX5_ahead_53 : decode cX5_ahead 53 = .ok (.iload_n 3, 1) := by decide +kernel
theorem dX5_ahead_54 : decode cX5_ahead 54 = .ok (.bipush 13, 2) := by decide +kernel
theorem dX5_ahead_56 : decode cX5_ahead 56 = .ok (.bipush 8, 2) := by decide +kernel
theorem dX5_ahead_58 : decode cX5_ahead 58 = .ok (.iload_n 2, 1) := by decide +kernel
theorem dX5_ahead_59 : decode cX5_ahead 59 = .ok (.imul, 1) := by decide +kernel
theorem dX5_ahead_60 : decode cX5_ahead 60 = .ok (.iadd, 1) := by decide +kernel
theorem dX5_ahead_61 : decode cX5_ahead 61 = .ok (.iload_n 1, 1) := by decide +kernel
theorem dX5_ahead_62 : decode cX5_ahead 62 = .ok (.iadd, 1) := by decide +kernel
theorem dX5_ahead_63 : decode cX5_ahead 63 = .ok (.invokevirtual 158, 3) := by decide +kernel
theorem dX5_ahead_66 : decode cX5_ahead 66 = .ok (.ireturn, 1) := by decide +kernel
theorem dX5_firstOf_0 : decode cX5_firstOf 0 = .ok (.aload_n 0, 1) := by decide +kernel
theorem dX5_firstOf_1 : decode cX5_firstOf 1 = .ok (.getfield 7, 3) := by decide +kernel
theorem dX5_firstOf_4 : decode cX5_firstOf 4 = .ok (.aload_n 0, 1) := by decide +kernel
theorem dX5_firstOf_5 : decode cX5_firstOf 5 = .ok (.getfield 16, 3) := by decide +kernel
theorem dX5_firstOf_8 : decode cX5_firstOf 8 = .ok (.invokestatic 152, 3) := by decide +kernel
theorem dX5_firstOf_11 : decode cX5_firstOf 11 = .ok (.iconst 0, 1) := by decide +kernel
theorem dX5_firstOf_12 : decode cX5_firstOf 12 = .ok (.istore 4, 2) := by decide +kernel
theorem dX5_firstOf_14 : decode cX5_firstOf 14 = .ok (.iload 4, 2) := by decide +kernel
theorem dX5_firstOf_16 : decode cX5_firstOf 16 = .ok (.sipush 200, 3) := by decide +kernel
theorem dX5_firstOf_19 : decode cX5_firstOf 19 = .ok (.if_icmp .ge 30, 3) := by decide +kernel
theorem dX5_firstOf_22 : decode cX5_firstOf 22 = .ok (.aload_n 0, 1) := by decide +kernel
theorem dX5_firstOf_23 : decode cX5_firstOf 23 = .ok (.getfield 7, 3) := by decide +kernel
theorem dX5_firstOf_26 : decode cX5_firstOf 26 = .ok (.iload_n 1, 1) := by decide +kernel
theorem dX5_firstOf_27 : decode cX5_firstOf 27 = .ok (.iaload, 1) := by decide +kernel
theorem dX5_firstOf_28 : decode cX5_firstOf 28 = .ok (.i2l, 1) := by decide +kernel
theorem dX5_firstOf_29 : decode cX5_firstOf 29 = .ok (.iload_n 2, 1) := by decide +kernel
theorem dX5_firstOf_30 : decode cX5_firstOf 30 = .ok (.i2l, 1) := by decide +kernel
theorem dX5_firstOf_31 : decode cX5_firstOf 31 = .ok (.iload_n 3, 1) := by decide +kernel
theorem dX5_firstOf_32 : decode cX5_firstOf 32 = .ok (.i2l, 1) := by decide +kernel
theorem dX5_firstOf_33 : decode cX5_firstOf 33 = .ok (.invokestatic 42, 3) := by decide +kernel
theorem dX5_firstOf_36 : decode cX5_firstOf 36 = .ok (.ifCond .ne 13, 3) := by decide +kernel
theorem dX5_firstOf_39 : decode cX5_firstOf 39 = .ok (.aload_n 0, 1) := by decide +kernel
theorem dX5_firstOf_40 : decode cX5_firstOf 40 = .ok (.invokevirtual 92, 3) := by decide +kernel
theorem dX5_firstOf_43 : decode cX5_firstOf 43 = .ok (.iinc 4 1, 3) := by decide +kernel
theorem dX5_firstOf_46 : decode cX5_firstOf 46 = .ok (.goto (-32), 3) := by decide +kernel
theorem dX5_firstOf_49 : decode cX5_firstOf 49 = .ok (.aload_n 0, 1) := by decide +kernel
theorem dX5_firstOf_50 : decode cX5_firstOf 50 = .ok (.getfield 7, 3) := by decide +kernel
theorem dX5_firstOf_53 : decode cX5_firstOf 53 = .ok (.iload_n 1, 1) := by decide +kernel
theorem dX5_firstOf_54 : decode cX5_firstOf 54 = .ok (.iaload, 1) := by decide +kernel
theorem dX5_firstOf_55 : decode cX5_firstOf 55 = .ok (.i2l, 1) := by decide +kernel
theorem dX5_firstOf_56 : decode cX5_firstOf 56 = .ok (.iload_n 2, 1) := by decide +kernel
theorem dX5_firstOf_57 : decode cX5_firstOf 57 = .ok (.i2l, 1) := by decide +kernel
theorem dX5_firstOf_58 : decode cX5_firstOf 58 = .ok (.iload_n 3, 1) := by decide +kernel
theorem dX5_firstOf_59 : decode cX5_firstOf 59 = .ok (.i2l, 1) := by decide +kernel
theorem dX5_firstOf_60 : decode cX5_firstOf 60 = .ok (.invokestatic 42, 3) := by decide +kernel
theorem dX5_firstOf_63 : decode cX5_firstOf 63 = .ok (.istore 5, 2) := by decide +kernel
theorem dX5_firstOf_65 : decode cX5_firstOf 65 = .ok (.aload_n 0, 1) := by decide +kernel
theorem dX5_firstOf_66 : decode cX5_firstOf 66 = .ok (.getfield 16, 3) := by decide +kernel
theorem dX5_firstOf_69 : decode cX5_firstOf 69 = .ok (.aload_n 0, 1) := by decide +kernel
theorem dX5_firstOf_70 : decode cX5_firstOf 70 = .ok (.getfield 7, 3) := by decide +kernel
theorem dX5_firstOf_73 : decode cX5_firstOf 73 = .ok (.invokestatic 152, 3) := by decide +kernel
theorem dX5_firstOf_76 : decode cX5_firstOf 76 = .ok (.iload 5, 2) := by decide +kernel
theorem dX5_firstOf_78 : decode cX5_firstOf 78 = .ok (.ifCond .eq 8, 3) := by decide +kernel
theorem dX5_firstOf_81 : decode cX5_firstOf 81 = .ok (.iload 4, 2) := by decide +kernel
theorem dX5_firstOf_83 : decode cX5_firstOf 83 = .ok (.goto 8, 3) := by decide +kernel
theorem dX5_firstOf_86 : decode cX5_firstOf 86 = .ok (.aload_n 0, 1) := by decide +kernel
theorem dX5_firstOf_87 : decode cX5_firstOf 87 = .ok (.iconst 3, 1) := by decide +kernel
theorem dX5_firstOf_88 : decode cX5_firstOf 88 = .ok (.invokevirtual 108, 3) := by decide +kernel
theorem dX5_firstOf_91 : decode cX5_firstOf 91 = .ok (.ireturn, 1) := by decide +kernel
theorem dX5_glad_0 : decode cX5_glad 0 = .ok (.aload_n 0, 1) := by decide +kernel
theorem dX5_glad_1 : decode cX5_glad 1 = .ok (.iload_n 1, 1) := by decide +kernel
theorem dX5_glad_2 : decode cX5_glad 2 = .ok (.invokevirtual 125, 3) := by decide +kernel
theorem dX5_glad_5 : decode cX5_glad 5 = .ok (.ifCond .eq 29, 3) := by decide +kernel
theorem dX5_glad_8 : decode cX5_glad 8 = .ok (.iload_n 2, 1) := by decide +kernel
theorem dX5_glad_9 : decode cX5_glad 9 = .ok (.i2l, 1) := by decide +kernel
theorem dX5_glad_10 : decode cX5_glad 10 = .ok (.lconst 0, 1) := by decide +kernel
theorem dX5_glad_11 : decode cX5_glad 11 = .ok (.ldc2_w 128, 3) := by decide +kernel
theorem dX5_glad_14 : decode cX5_glad 14 = .ok (.invokestatic 42, 3) := by decide +kernel
theorem dX5_glad_17 : decode cX5_glad 17 = .ok (.ifCond .eq 17, 3) := by decide +kernel
theorem dX5_glad_20 : decode cX5_glad 20 = .ok (.aload_n 0, 1) := by decide +kernel
theorem dX5_glad_21 : decode cX5_glad 21 = .ok (.bipush 21, 2) := by decide +kernel
theorem dX5_glad_23 : decode cX5_glad 23 = .ok (.iload_n 1, 1) := by decide +kernel
theorem dX5_glad_24 : decode cX5_glad 24 = .ok (.iadd, 1) := by decide +kernel
theorem dX5_glad_25 : decode cX5_glad 25 = .ok (.iload_n 2, 1) := by decide +kernel
theorem dX5_glad_26 : decode cX5_glad 26 = .ok (.bipush 99, 2) := by decide +kernel
theorem dX5_glad_28 : decode cX5_glad 28 = .ok (.invokevirtual 161, 3) := by decide +kernel
theorem dX5_glad_31 : decode cX5_glad 31 = .ok (.goto 8, 3) := by decide +kernel
theorem dX5_glad_34 : decode cX5_glad 34 = .ok (.aload_n 0, 1) := by decide +kernel
theorem dX5_glad_35 : decode cX5_glad 35 = .ok (.iconst 0, 1) := by decide +kernel
theorem dX5_glad_36 : decode cX5_glad 36 = .ok (.invokevirtual 108, 3) := by decide +kernel
theorem dX5_glad_39 : decode cX5_glad 39 = .ok (.ireturn, 1) := by decide +kernel
theorem dX5_sad_0 : decode cX5_sad 0 = .ok (.aload_n 0, 1) := by decide +kernel
theorem dX5_sad_1 : decode cX5_sad 1 = .ok (.iload_n 1, 1) := by decide +kernel
theorem dX5_sad_2 : decode cX5_sad 2 = .ok (.invokevirtual 125, 3) := by decide +kernel
theorem dX5_sad_5 : decode cX5_sad 5 = .ok (.ifCond .eq 28, 3) := by decide +kernel
theorem dX5_sad_8 : decode cX5_sad 8 = .ok (.iload_n 2, 1) := by decide +kernel
theorem dX5_sad_9 : decode cX5_sad 9 = .ok (.i2l, 1) := by decide +kernel
theorem dX5_sad_10 : decode cX5_sad 10 = .ok (.lconst 0, 1) := by decide +kernel
theorem dX5_sad_11 : decode cX5_sad 11 = .ok (.ldc2_w 128, 3) := by decide +kernel
theorem dX5_sad_14 : decode cX5_sad 14 = .ok (.invokestatic 42, 3) := by decide +kernel
theorem dX5_sad_17 : decode cX5_sad 17 = .ok (.ifCond .eq 16, 3) := by decide +kernel
theorem dX5_sad_20 : decode cX5_sad 20 = .ok (.aload_n 0, 1) := by decide +kernel
theorem dX5_sad_21 : decode cX5_sad 21 = .ok (.bipush 21, 2) := by decide +kernel
theorem dX5_sad_23 : decode cX5_sad 23 = .ok (.iload_n 1, 1) := by decide +kernel
theorem dX5_sad_24 : decode cX5_sad 24 = .ok (.iadd, 1) := by decide +kernel
theorem dX5_sad_25 : decode cX5_sad 25 = .ok (.iconst 0, 1) := by decide +kernel
theorem dX5_sad_26 : decode cX5_sad 26 = .ok (.iload_n 2, 1) := by decide +kernel
theorem dX5_sad_27 : decode cX5_sad 27 = .ok (.invokevirtual 161, 3) := by decide +kernel
theorem dX5_sad_30 : decode cX5_sad 30 = .ok (.goto 8, 3) := by decide +kernel
theorem dX5_sad_33 : decode cX5_sad 33 = .ok (.aload_n 0, 1) := by decide +kernel
theorem dX5_sad_34 : decode cX5_sad 34 = .ok (.iconst 0, 1) := by decide +kernel
theorem dX5_sad_35 : decode cX5_sad 35 = .ok (.invokevirtual 108, 3) := by decide +kernel
theorem dX5_sad_38 : decode cX5_sad 38 = .ok (.ireturn, 1) := by decide +kernel
theorem dX5_when_0 : decode cX5_when 0 = .ok (.aload_n 0, 1) := by decide +kernel
theorem dX5_when_1 : decode cX5_when 1 = .ok (.iload_n 1, 1) := by decide +kernel
theorem dX5_when_2 : decode cX5_when 2 = .ok (.invokevirtual 125, 3) := by decide +kernel
theorem dX5_when_5 : decode cX5_when 5 = .ok (.ifCond .eq 30, 3) := by decide +kernel
theorem dX5_when_8 : decode cX5_when 8 = .ok (.iload_n 2, 1) := by decide +kernel
theorem dX5_when_9 : decode cX5_when 9 = .ok (.i2l, 1) := by decide +kernel
theorem dX5_when_10 : decode cX5_when 10 = .ok (.lconst 0, 1) := by decide +kernel
theorem dX5_when_11 : decode cX5_when 11 = .ok (.ldc2_w 132, 3) := by decide +kernel
theorem dX5_when_14 : decode cX5_when 14 = .ok (.invokestatic 42, 3) := by decide +kernel
theorem dX5_when_17 : decode cX5_when 17 = .ok (.ifCond .eq 18, 3) := by decide +kernel
theorem dX5_when_20 : decode cX5_when 20 = .ok (.aload_n 0, 1) := by decide +kernel
theorem dX5_when_21 : decode cX5_when 21 = .ok (.bipush 45, 2) := by decide +kernel
theorem dX5_when_23 : decode cX5_when 23 = .ok (.iload_n 1, 1) := by decide +kernel
theorem dX5_when_24 : decode cX5_when 24 = .ok (.iadd, 1) := by decide +kernel
theorem dX5_when_25 : decode cX5_when 25 = .ok (.iload_n 2, 1) := by decide +kernel
theorem dX5_when_26 : decode cX5_when 26 = .ok (.sipush 9999, 3) := by decide +kernel
theorem dX5_when_29 : decode cX5_when 29 = .ok (.invokevirtual 161, 3) := by decide +kernel
theorem dX5_when_32 : decode cX5_when 32 = .ok (.goto 8, 3) := by decide +kernel
theorem dX5_when_35 : decode cX5_when 35 = .ok (.aload_n 0, 1) := by decide +kernel
theorem dX5_when_36 : decode cX5_when 36 = .ok (.iconst 0, 1) := by decide +kernel
theorem dX5_when_37 : decode cX5_when 37 = .ok (.invokevirtual 108, 3) := by decide +kernel
theorem dX5_when_40 : decode cX5_when 40 = .ok (.ireturn, 1) := by decide +kernel
theorem dX5_areAll_0 : decode cX5_areAll 0 = .ok (.aload_n 0, 1) := by decide +kernel
theorem dX5_areAll_1 : decode cX5_areAll 1 = .ok (.invokevirtual 149, 3) := by decide +kernel
theorem dX5_areAll_4 : decode cX5_areAll 4 = .ok (.iconst 1, 1) := by decide +kernel
theorem dX5_areAll_5 : decode cX5_areAll 5 = .ok (.aload_n 0, 1) := by decide +kernel
theorem dX5_areAll_6 : decode cX5_areAll 6 = .ok (.getfield 7, 3) := by decide +kernel
theorem dX5_areAll_9 : decode cX5_areAll 9 = .ok (.iconst 0, 1) := by decide +kernel
theorem dX5_areAll_10 : decode cX5_areAll 10 = .ok (.iaload, 1) := by decide +kernel
theorem dX5_areAll_11 : decode cX5_areAll 11 = .ok (.ishl, 1) := by decide +kernel
theorem dX5_areAll_12 : decode cX5_areAll 12 = .ok (.iconst 1, 1) := by decide +kernel
theorem dX5_areAll_13 : decode cX5_areAll 13 = .ok (.isub, 1) := by decide +kernel
theorem dX5_areAll_14 : decode cX5_areAll 14 = .ok (.if_icmp .ne 7, 3) := by decide +kernel
theorem dX5_areAll_17 : decode cX5_areAll 17 = .ok (.iconst 1, 1) := by decide +kernel
theorem dX5_areAll_18 : decode cX5_areAll 18 = .ok (.goto 4, 3) := by decide +kernel
theorem dX5_areAll_21 : decode cX5_areAll 21 = .ok (.iconst 0, 1) := by decide +kernel
theorem dX5_areAll_22 : decode cX5_areAll 22 = .ok (.ireturn, 1) := by decide +kernel
theorem dX5_well_0 : decode cX5_well 0 = .ok (.aload_n 0, 1) := by decide +kernel
theorem dX5_well_1 : decode cX5_well 1 = .ok (.getfield 7, 3) := by decide +kernel
theorem dX5_well_4 : decode cX5_well 4 = .ok (.aload_n 0, 1) := by decide +kernel
theorem dX5_well_5 : decode cX5_well 5 = .ok (.getfield 16, 3) := by decide +kernel
theorem dX5_well_8 : decode cX5_well 8 = .ok (.invokestatic 152, 3) := by decide +kernel
theorem dX5_well_11 : decode cX5_well 11 = .ok (.iconst 0, 1) := by decide +kernel
theorem dX5_well_12 : decode cX5_well 12 = .ok (.istore_n 1, 1) := by decide +kernel
theorem dX5_well_13 : decode cX5_well 13 = .ok (.iload_n 1, 1) := by decide +kernel
theorem dX5_well_14 : decode cX5_well 14 = .ok (.sipush 200, 3) := by decide +kernel
theorem dX5_well_17 : decode cX5_well 17 = .ok (.if_icmp .ge 20, 3) := by decide +kernel
theorem dX5_well_20 : decode cX5_well 20 = .ok (.aload_n 0, 1) := by decide +kernel
theorem dX5_well_21 : decode cX5_well 21 = .ok (.invokevirtual 164, 3) := by decide +kernel
theorem dX5_well_24 : decode cX5_well 24 = .ok (.ifCond .ne 13, 3) := by decide +kernel
theorem dX5_well_27 : decode cX5_well 27 = .ok (.aload_n 0, 1) := by decide +kernel
theorem dX5_well_28 : decode cX5_well 28 = .ok (.invokevirtual 92, 3) := by decide +kernel
theorem dX5_well_31 : decode cX5_well 31 = .ok (.iinc 1 1, 3) := by decide +kernel
theorem dX5_well_34 : decode cX5_well 34 = .ok (.goto (-21), 3) := by decide +kernel
theorem dX5_well_37 : decode cX5_well 37 = .ok (.aload_n 0, 1) := by decide +kernel
theorem dX5_well_38 : decode cX5_well 38 = .ok (.invokevirtual 164, 3) := by decide +kernel
theorem dX5_well_41 : decode cX5_well 41 = .ok (.istore_n 2, 1) := by decide +kernel
theorem dX5_well_42 : decode cX5_well 42 = .ok (.aload_n 0, 1) := by decide +kernel
theorem dX5_well_43 : decode cX5_well 43 = .ok (.getfield 16, 3) := by decide +kernel
theorem dX5_well_46 : decode cX5_well 46 = .ok (.aload_n 0, 1) := by decide +kernel
theorem dX5_well_47 : decode cX5_well 47 = .ok (.getfield 7, 3) := by decide +kernel
theorem dX5_well_50 : decode cX5_well 50 = .ok (.invokestatic 152, 3) := by decide +kernel
theorem dX5_well_53 : decode cX5_well 53 = .ok (.iload_n 2, 1) := by decide +kernel
theorem dX5_well_54 : decode cX5_well 54 = .ok (.ifCond .eq 7, 3) := by decide +kernel
theorem dX5_well_57 : decode cX5_well 57 = .ok (.iload_n 1, 1) := by decide +kernel
theorem dX5_well_58 : decode cX5_well 58 = .ok (.goto 8, 3) := by decide +kernel
theorem dX5_well_61 : decode cX5_well 61 = .ok (.aload_n 0, 1) := by decide +kernel
theorem dX5_well_62 : decode cX5_well 62 = .ok (.iconst 3, 1) := by decide +kernel
theorem dX5_well_63 : decode cX5_well 63 = .ok (.invokevirtual 108, 3) := by decide +kernel
theorem dX5_well_66 : decode cX5_well 66 = .ok (.ireturn, 1) := by decide +kernel
theorem dX5_isShort_0 : decode cX5_isShort 0 = .ok (.iload_n 0, 1) := by decide +kernel
theorem dX5_isShort_1 : decode cX5_isShort 1 = .ok (.i2l, 1) := by decide +kernel
theorem dX5_isShort_2 : decode cX5_isShort 2 = .ok (.lconst 0, 1) := by decide +kernel
theorem dX5_isShort_3 : decode cX5_isShort 3 = .ok (.ldc2_w 168, 3) := by decide +kernel
theorem dX5_isShort_6 : decode cX5_isShort 6 = .ok (.invokestatic 42, 3) := by decide +kernel
theorem dX5_isShort_9 : decode cX5_isShort 9 = .ok (.ireturn, 1) := by decide +kernel
theorem dX5_longFor_0 : decode cX5_longFor 0 = .ok (.iload_n 1, 1) := by decide +kernel
theorem dX5_longFor_1 : decode cX5_longFor 1 = .ok (.invokestatic 170, 3) := by decide +kernel
theorem dX5_longFor_4 : decode cX5_longFor 4 = .ok (.ifCond .ne 9, 3) := by decide +kernel
theorem dX5_longFor_7 : decode cX5_longFor 7 = .ok (.aload_n 0, 1) := by decide +kernel
theorem dX5_longFor_8 : decode cX5_longFor 8 = .ok (.iconst 0, 1) := by decide +kernel
theorem dX5_longFor_9 : decode cX5_longFor 9 = .ok (.invokevirtual 108, 3) := by decide +kernel
theorem dX5_longFor_12 : decode cX5_longFor 12 = .ok (.ireturn, 1) := by decide +kernel
theorem dX5_longFor_13 : decode cX5_longFor 13 = .ok (.aload_n 0, 1) := by decide +kernel
theorem dX5_longFor_14 : decode cX5_longFor 14 = .ok (.getfield 7, 3) := by decide +kernel
theorem dX5_longFor_17 : decode cX5_longFor 17 = .ok (.aload_n 0, 1) := by decide +kernel
theorem dX5_longFor_18 : decode cX5_longFor 18 = .ok (.getfield 16, 3) := by decide +kernel
theorem dX5_longFor_21 : decode cX5_longFor 21 = .ok (.invokestatic 152, 3) := by decide +kernel
theorem dX5_longFor_24 : decode cX5_longFor 24 = .ok (.iconst 0, 1) := by decide +kernel
theorem dX5_longFor_25 : decode cX5_longFor 25 = .ok (.istore_n 2, 1) := by decide +kernel
theorem dX5_longFor_26 : decode cX5_longFor 26 = .ok (.iconst (-1), 1) := by decide +kernel
theorem dX5_longFor_27 : decode cX5_longFor 27 = .ok (.istore_n 3, 1) := by decide +kernel
theorem dX5_longFor_28 : decode cX5_longFor 28 = .ok (.iconst 1, 1) := by decide +kernel
theorem dX5_longFor_29 : decode cX5_longFor 29 = .ok (.istore 4, 2) := by decide +kernel
theorem dX5_longFor_31 : decode cX5_longFor 31 = .ok (.iload 4, 2) := by decide +kernel
theorem dX5_longFor_33 : decode cX5_longFor 33 = .ok (.bipush 13, 2) := by decide +kernel
theorem dX5_longFor_35 : decode cX5_longFor 35 = .ok (.if_icmp .ge 53, 3) := by decide +kernel
theorem dX5_longFor_38 : decode cX5_longFor 38 = .ok (.aload_n 0, 1) := by decide +kernel
theorem dX5_longFor_39 : decode cX5_longFor 39 = .ok (.getfield 7, 3) := by decide +kernel
theorem dX5_longFor_42 : decode cX5_longFor 42 = .ok (.bipush 6, 2) := by decide +kernel
theorem dX5_longFor_44 : decode cX5_longFor 44 = .ok (.iload 4, 2) := by decide +kernel
theorem dX5_longFor_46 : decode cX5_longFor 46 = .ok (.iastore, 1) := by decide +kernel
theorem dX5_longFor_47 : decode cX5_longFor 47 = .ok (.aload_n 0, 1) := by decide +kernel
theorem dX5_longFor_48 : decode cX5_longFor 48 = .ok (.iload_n 1, 1) := by decide +kernel
theorem dX5_longFor_49 : decode cX5_longFor 49 = .ok (.invokevirtual 142, 3) := by decide +kernel
theorem dX5_longFor_52 : decode cX5_longFor 52 = .ok (.aload_n 0, 1) := by decide +kernel
theorem dX5_longFor_53 : decode cX5_longFor 53 = .ok (.iconst 1, 1) := by decide +kernel
theorem dX5_longFor_54 : decode cX5_longFor 54 = .ok (.invokevirtual 146, 3) := by decide +kernel
theorem dX5_longFor_57 : decode cX5_longFor 57 = .ok (.istore 5, 2) := by decide +kernel
theorem dX5_longFor_59 : decode cX5_longFor 59 = .ok (.aload_n 0, 1) := by decide +kernel
theorem dX5_longFor_60 : decode cX5_longFor 60 = .ok (.getfield 16, 3) := by decide +kernel
theorem dX5_longFor_63 : decode cX5_longFor 63 = .ok (.aload_n 0, 1) := by decide +kernel
theorem dX5_longFor_64 : decode cX5_longFor 64 = .ok (.getfield 7, 3) := by decide +kernel
theorem dX5_longFor_67 : decode cX5_longFor 67 = .ok (.invokestatic 152, 3) := by decide +kernel
theorem dX5_longFor_70 : decode cX5_longFor 70 = .ok (.iload 5, 2) := by decide +kernel
theorem dX5_longFor_72 : decode cX5_longFor 72 = .ok (.iload_n 3, 1) := by decide +kernel
theorem dX5_longFor_73 : decode cX5_longFor 73 = .ok (.if_icmp .le 9, 3) := by decide +kernel
theorem dX5_longFor_76 : decode cX5_longFor 76 = .ok (.iload 4, 2) := by decide +kernel
theorem dX5_longFor_78 : decode cX5_longFor 78 = .ok (.istore_n 2, 1) := by decide +kernel
theorem dX5_longFor_79 : decode cX5_longFor 79 = .ok (.iload 5, 2) := by decide +kernel
theorem dX5_longFor_81 : decode cX5_longFor 81 = .ok (.istore_n 3, 1) := by decide +kernel
theorem dX5_longFor_82 : decode cX5_longFor 82 = .ok (.iinc 4 1, 3) := by decide +kernel
theorem dX5_longFor_85 : decode cX5_longFor 85 = .ok (.goto (-54), 3) := by decide +kernel
theorem dX5_longFor_88 : decode cX5_longFor 88 = .ok (.iload_n 2, 1) := by decide +kernel
theorem dX5_longFor_89 : decode cX5_longFor 89 = .ok (.ireturn, 1) := by decide +kernel
theorem dX5_chairsFor_0 : decode cX5_chairsFor 0 = .ok (.iload_n 1, 1) := by decide +kernel
theorem dX5_chairsFor_1 : decode cX5_chairsFor 1 = .ok (.i2l, 1) := by decide +kernel
theorem dX5_chairsFor_2 : decode cX5_chairsFor 2 = .ok (.lconst 0, 1) := by decide +kernel
theorem dX5_chairsFor_3 : decode cX5_chairsFor 3 = .ok (.ldc2_w 132, 3) := by decide +kernel
theorem dX5_chairsFor_6 : decode cX5_chairsFor 6 = .ok (.invokestatic 42, 3) := by decide +kernel
theorem dX5_chairsFor_9 : decode cX5_chairsFor 9 = .ok (.ifCond .eq 10, 3) := by decide +kernel
theorem dX5_chairsFor_12 : decode cX5_chairsFor 12 = .ok (.iload_n 2, 1) := by decide +kernel
theorem dX5_chairsFor_13 : decode cX5_chairsFor 13 = .ok (.invokestatic 170, 3) := by decide +kernel
theorem dX5_chairsFor_16 : decode cX5_chairsFor 16 = .ok (.ifCond .ne 9, 3) := by decide +kernel
theorem dX5_chairsFor_19 : decode cX5_chairsFor 19 = .ok (.aload_n 0, 1) := by decide +kernel
theorem dX5_chairsFor_20 : decode cX5_chairsFor 20 = .ok (.iconst 0, 1) := by decide +kernel
theorem dX5_chairsFor_21 : decode cX5_chairsFor 21 = .ok (.invokevirtual 108, 3) := by decide +kernel
theorem dX5_chairsFor_24 : decode cX5_chairsFor 24 = .ok (.ireturn, 1) := by decide +kernel
theorem dX5_chairsFor_25 : decode cX5_chairsFor 25 = .ok (.aload_n 0, 1) := by decide +kernel
theorem dX5_chairsFor_26 : decode cX5_chairsFor 26 = .ok (.getfield 7, 3) := by decide +kernel
theorem dX5_chairsFor_29 : decode cX5_chairsFor 29 = .ok (.aload_n 0, 1) := by decide +kernel
theorem dX5_chairsFor_30 : decode cX5_chairsFor 30 = .ok (.getfield 16, 3) := by decide +kernel
theorem dX5_chairsFor_33 : decode cX5_chairsFor 33 = .ok (.invokestatic 152, 3) := by decide +kernel
theorem dX5_chairsFor_36 : decode cX5_chairsFor 36 = .ok (.iconst 0, 1) := by decide +kernel
theorem dX5_chairsFor_37 : decode cX5_chairsFor 37 = .ok (.istore_n 3, 1) := by decide +kernel
theorem dX5_chairsFor_38 : decode cX5_chairsFor 38 = .ok (.iload_n 3, 1) := by decide +kernel
theorem dX5_chairsFor_39 : decode cX5_chairsFor 39 = .ok (.bipush 21, 2) := by decide +kernel
theorem dX5_chairsFor_41 : decode cX5_chairsFor 41 = .ok (.if_icmp .ge 47, 3) := by decide +kernel
theorem dX5_chairsFor_44 : decode cX5_chairsFor 44 = .ok (.aload_n 0, 1) := by decide +kernel
theorem dX5_chairsFor_45 : decode cX5_chairsFor 45 = .ok (.getfield 7, 3) := by decide +kernel
theorem dX5_chairsFor_48 : decode cX5_chairsFor 48 = .ok (.iconst 3, 1) := by decide +kernel
theorem dX5_chairsFor_49 : decode cX5_chairsFor 49 = .ok (.iload_n 3, 1) := by decide +kernel
theorem dX5_chairsFor_50 : decode cX5_chairsFor 50 = .ok (.iastore, 1) := by decide +kernel
theorem dX5_chairsFor_51 : decode cX5_chairsFor 51 = .ok (.aload_n 0, 1) := by decide +kernel
theorem dX5_chairsFor_52 : decode cX5_chairsFor 52 = .ok (.iload_n 2, 1) := by decide +kernel
theorem dX5_chairsFor_53 : decode cX5_chairsFor 53 = .ok (.invokevirtual 142, 3) := by decide +kernel
theorem dX5_chairsFor_56 : decode cX5_chairsFor 56 = .ok (.aload_n 0, 1) := by decide +kernel
theorem dX5_chairsFor_57 : decode cX5_chairsFor 57 = .ok (.iconst 4, 1) := by decide +kernel
theorem dX5_chairsFor_58 : decode cX5_chairsFor 58 = .ok (.invokevirtual 146, 3) := by decide +kernel
theorem dX5_chairsFor_61 : decode cX5_chairsFor 61 = .ok (.istore 4, 2) := by decide +kernel
theorem dX5_chairsFor_63 : decode cX5_chairsFor 63 = .ok (.aload_n 0, 1) := by decide +kernel
theorem dX5_chairsFor_64 : decode cX5_chairsFor 64 = .ok (.getfield 16, 3) := by decide +kernel
theorem dX5_chairsFor_67 : decode cX5_chairsFor 67 = .ok (.aload_n 0, 1) := by decide +kernel
theorem dX5_chairsFor_68 : decode cX5_chairsFor 68 = .ok (.getfield 7, 3) := by decide +kernel
theorem dX5_chairsFor_71 : decode cX5_chairsFor 71 = .ok (.invokestatic 152, 3) := by decide +kernel
theorem dX5_chairsFor_74 : decode cX5_chairsFor 74 = .ok (.iload 4, 2) := by decide +kernel
theorem dX5_chairsFor_76 : decode cX5_chairsFor 76 = .ok (.iload_n 1, 1) := by decide +kernel
theorem dX5_chairsFor_77 : decode cX5_chairsFor 77 = .ok (.if_icmp .lt 5, 3) := by decide +kernel
theorem dX5_chairsFor_80 : decode cX5_chairsFor 80 = .ok (.iload_n 3, 1) := by decide +kernel
theorem dX5_chairsFor_81 : decode cX5_chairsFor 81 = .ok (.ireturn, 1) := by decide +kernel
theorem dX5_chairsFor_82 : decode cX5_chairsFor 82 = .ok (.iinc 3 1, 3) := by decide +kernel
theorem dX5_chairsFor_85 : decode cX5_chairsFor 85 = .ok (.goto (-47), 3) := by decide +kernel
theorem dX5_chairsFor_88 : decode cX5_chairsFor 88 = .ok (.aload_n 0, 1) := by decide +kernel
theorem dX5_chairsFor_89 : decode cX5_chairsFor 89 = .ok (.iconst 3, 1) := by decide +kernel
theorem dX5_chairsFor_90 : decode cX5_chairsFor 90 = .ok (.invokevirtual 108, 3) := by decide +kernel
theorem dX5_chairsFor_93 : decode cX5_chairsFor 93 = .ok (.ireturn, 1) := by decide +kernel
theorem dX5_volunteersFor_0 : decode cX5_volunteersFor 0 = .ok (.iload_n 1, 1) := by decide +kernel
theorem dX5_volunteersFor_1 : decode cX5_volunteersFor 1 = .ok (.i2l, 1) := by decide +kernel
theorem dX5_volunteersFor_2 : decode cX5_volunteersFor 2 = .ok (.lconst 0, 1) := by decide +kernel
theorem dX5_volunteersFor_3 : decode cX5_volunteersFor 3 = .ok (.ldc2_w 128, 3) := by decide +kernel
theorem dX5_volunteersFor_6 : decode cX5_volunteersFor 6 = .ok (.invokestatic 42, 3) := by decide +kernel
theorem dX5_volunteersFor_9 : decode cX5_volunteersFor 9 = .ok (.ifCond .eq 10, 3) := by decide +kernel
theorem dX5_volunteersFor_12 : decode cX5_volunteersFor 12 = .ok (.iload_n 2, 1) := by decide +kernel
theorem dX5_volunteersFor_13 : decode cX5_volunteersFor 13 = .ok (.invokestatic 170, 3) := by decide +kernel
theorem dX5_volunteersFor_16 : decode cX5_volunteersFor 16 = .ok (.ifCond .ne 9, 3) := by decide +kernel
theorem dX5_volunteersFor_19 : decode cX5_volunteersFor 19 = .ok (.aload_n 0, 1) := by decide +kernel
theorem dX5_volunteersFor_20 : decode cX5_volunteersFor 20 = .ok (.iconst 0, 1) := by decide +kernel
theorem dX5_volunteersFor_21 : decode cX5_volunteersFor 21 = .ok (.invokevirtual 108, 3) := by decide +kernel
theorem dX5_volunteersFor_24 : decode cX5_volunteersFor 24 = .ok (.ireturn, 1) := by decide +kernel
theorem dX5_volunteersFor_25 : decode cX5_volunteersFor 25 = .ok (.aload_n 0, 1) := by decide +kernel
theorem dX5_volunteersFor_26 : decode cX5_volunteersFor 26 = .ok (.getfield 7, 3) := by decide +kernel
theorem dX5_volunteersFor_29 : decode cX5_volunteersFor 29 = .ok (.aload_n 0, 1) := by decide +kernel
theorem dX5_volunteersFor_30 : decode cX5_volunteersFor 30 = .ok (.getfield 16, 3) := by decide +kernel
theorem dX5_volunteersFor_33 : decode cX5_volunteersFor 33 = .ok (.invokestatic 152, 3) := by decide +kernel
theorem dX5_volunteersFor_36 : decode cX5_volunteersFor 36 = .ok (.iconst 0, 1) := by decide +kernel
theorem dX5_volunteersFor_37 : decode cX5_volunteersFor 37 = .ok (.istore_n 3, 1) := by decide +kernel
theorem dX5_volunteersFor_38 : decode cX5_volunteersFor 38 = .ok (.iload_n 3, 1) := by decide +kernel
theorem dX5_volunteersFor_39 : decode cX5_volunteersFor 39 = .ok (.bipush 9, 2) := by decide +kernel
theorem dX5_volunteersFor_41 : decode cX5_volunteersFor 41 = .ok (.if_icmp .ge 85, 3) := by decide +kernel
theorem dX5_volunteersFor_44 : decode cX5_volunteersFor 44 = .ok (.aload_n 0, 1) := by decide +kernel
theorem dX5_volunteersFor_45 : decode cX5_volunteersFor 45 = .ok (.getfield 7, 3) := by decide +kernel
theorem dX5_volunteersFor_48 : decode cX5_volunteersFor 48 = .ok (.iconst 5, 1) := by decide +kernel
theorem dX5_volunteersFor_49 : decode cX5_volunteersFor 49 = .ok (.iload_n 3, 1) := by decide +kernel
theorem dX5_volunteersFor_50 : decode cX5_volunteersFor 50 = .ok (.iastore, 1) := by decide +kernel
theorem dX5_volunteersFor_51 : decode cX5_volunteersFor 51 = .ok (.aload_n 0, 1) := by decide +kernel
theorem dX5_volunteersFor_52 : decode cX5_volunteersFor 52 = .ok (.iload_n 2, 1) := by decide +kernel
theorem dX5_volunteersFor_53 : decode cX5_volunteersFor 53 = .ok (.invokevirtual 142, 3) := by decide +kernel
theorem dX5_volunteersFor_56 : decode cX5_volunteersFor 56 = .ok (.iconst 1, 1) := by decide +kernel
theorem dX5_volunteersFor_57 : decode cX5_volunteersFor 57 = .ok (.istore 4, 2) := by decide +kernel
theorem dX5_volunteersFor_59 : decode cX5_volunteersFor 59 = .ok (.iconst 0, 1) := by decide +kernel
theorem dX5_volunteersFor_60 : decode cX5_volunteersFor 60 = .ok (.istore 5, 2) := by decide +kernel
theorem dX5_volunteersFor_62 : decode cX5_volunteersFor 62 = .ok (.iload 5, 2) := by decide +kernel
theorem dX5_volunteersFor_64 : decode cX5_volunteersFor 64 = .ok (.aload_n 0, 1) := by decide +kernel
theorem dX5_volunteersFor_65 : decode cX5_volunteersFor 65 = .ok (.getfield 7, 3) := by decide +kernel
theorem dX5_volunteersFor_68 : decode cX5_volunteersFor 68 = .ok (.iconst 0, 1) := by decide +kernel
theorem dX5_volunteersFor_69 : decode cX5_volunteersFor 69 = .ok (.iaload, 1) := by decide +kernel
theorem dX5_volunteersFor_70 : decode cX5_volunteersFor 70 = .ok (.if_icmp .ge 32, 3) := by decide +kernel
theorem dX5_volunteersFor_73 : decode cX5_volunteersFor 73 = .ok (.iload 4, 2) := by decide +kernel
theorem dX5_volunteersFor_75 : decode cX5_volunteersFor 75 = .ok (.ifCond .eq 18, 3) := by decide +kernel
theorem dX5_volunteersFor_78 : decode cX5_volunteersFor 78 = .ok (.aload_n 0, 1) := by decide +kernel
theorem dX5_volunteersFor_79 : decode cX5_volunteersFor 79 = .ok (.iload 5, 2) := by decide +kernel
theorem dX5_volunteersFor_81 : decode cX5_volunteersFor 81 = .ok (.iconst 1, 1) := by decide +kernel
theorem dX5_volunteersFor_82 : decode cX5_volunteersFor 82 = .ok (.invokevirtual 46, 3) := by decide +kernel
theorem dX5_volunteersFor_85 : decode cX5_volunteersFor 85 = .ok (.iload_n 1, 1) := by decide +kernel
theorem dX5_volunteersFor_86 : decode cX5_volunteersFor 86 = .ok (.if_icmp .lt 7, 3) := by decide +kernel
theorem dX5_volunteersFor_89 : decode cX5_volunteersFor 89 = .ok (.iconst 1, 1) := by decide +kernel
theorem dX5_volunteersFor_90 : decode cX5_volunteersFor 90 = .ok (.goto 4, 3) := by decide +kernel
theorem dX5_volunteersFor_93 : decode cX5_volunteersFor 93 = .ok (.iconst 0, 1) := by decide +kernel
theorem dX5_volunteersFor_94 : decode cX5_volunteersFor 94 = .ok (.istore 4, 2) := by decide +kernel
theorem dX5_volunteersFor_96 : decode cX5_volunteersFor 96 = .ok (.iinc 5 1, 3) := by decide +kernel
theorem dX5_volunteersFor_99 : decode cX5_volunteersFor 99 = .ok (.goto (-37), 3) := by decide +kernel
theorem dX5_volunteersFor_102 : decode cX5_volunteersFor 102 = .ok (.aload_n 0, 1) := by decide +kernel
theorem dX5_volunteersFor_103 : decode cX5_volunteersFor 103 = .ok (.getfield 16, 3) := by decide +kernel
theorem dX5_volunteersFor_106 : decode cX5_volunteersFor 106 = .ok (.aload_n 0, 1) := by decide +kernel
theorem dX5_volunteersFor_107 : decode cX5_volunteersFor 107 = .ok (.getfield 7, 3) := by decide +kernel
theorem dX5_volunteersFor_110 : decode cX5_volunteersFor 110 = .ok (.invokestatic 152, 3) := by decide +kernel
theorem dX5_volunteersFor_113 : decode cX5_volunteersFor 113 = .ok (.iload 4, 2) := by decide +kernel
theorem dX5_volunteersFor_115 : decode cX5_volunteersFor 115 = .ok (.ifCond .eq 5, 3) := by decide +kernel
theorem dX5_volunteersFor_118 : decode cX5_volunteersFor 118 = .ok (.iload_n 3, 1) := by decide +kernel
theorem dX5_volunteersFor_119 : decode cX5_volunteersFor 119 = .ok (.ireturn, 1) := by decide +kernel
theorem dX5_volunteersFor_120 : decode cX5_volunteersFor 120 = .ok (.iinc 3 1, 3) := by decide +kernel
theorem dX5_volunteersFor_123 : decode cX5_volunteersFor 123 = .ok (.goto (-85), 3) := by decide +kernel
theorem dX5_volunteersFor_126 : decode cX5_volunteersFor 126 = .ok (.aload_n 0, 1) := by decide +kernel
theorem dX5_volunteersFor_127 : decode cX5_volunteersFor 127 = .ok (.iconst 3, 1) := by decide +kernel
theorem dX5_volunteersFor_128 : decode cX5_volunteersFor 128 = .ok (.invokevirtual 108, 3) := by decide +kernel
theorem dX5_volunteersFor_131 : decode cX5_volunteersFor 131 = .ok (.ireturn, 1) := by decide +kernel
theorem dX5_comeOn_0 : decode cX5_comeOn 0 = .ok (.aload_n 0, 1) := by decide +kernel
theorem dX5_comeOn_1 : decode cX5_comeOn 1 = .ok (.iload_n 1, 1) := by decide +kernel
theorem dX5_comeOn_2 : decode cX5_comeOn 2 = .ok (.invokevirtual 125, 3) := by decide +kernel
theorem dX5_comeOn_5 : decode cX5_comeOn 5 = .ok (.ifCond .eq 10, 3) := by decide +kernel
theorem dX5_comeOn_8 : decode cX5_comeOn 8 = .ok (.iload_n 2, 1) := by decide +kernel
theorem dX5_comeOn_9 : decode cX5_comeOn 9 = .ok (.invokestatic 170, 3) := by decide +kernel
theorem dX5_comeOn_12 : decode cX5_comeOn 12 = .ok (.ifCond .ne 9, 3) := by decide +kernel
theorem dX5_comeOn_15 : decode cX5_comeOn 15 = .ok (.aload_n 0, 1) := by decide +kernel
theorem dX5_comeOn_16 : decode cX5_comeOn 16 = .ok (.iconst 0, 1) := by decide +kernel
theorem dX5_comeOn_17 : decode cX5_comeOn 17 = .ok (.invokevirtual 108, 3) := by decide +kernel
theorem dX5_comeOn_20 : decode cX5_comeOn 20 = .ok (.ireturn, 1) := by decide +kernel
theorem dX5_comeOn_21 : decode cX5_comeOn 21 = .ok (.aload_n 0, 1) := by decide +kernel
theorem dX5_comeOn_22 : decode cX5_comeOn 22 = .ok (.getfield 7, 3) := by decide +kernel
theorem dX5_comeOn_25 : decode cX5_comeOn 25 = .ok (.aload_n 0, 1) := by decide +kernel
theorem dX5_comeOn_26 : decode cX5_comeOn 26 = .ok (.getfield 16, 3) := by decide +kernel
theorem dX5_comeOn_29 : decode cX5_comeOn 29 = .ok (.invokestatic 152, 3) := by decide +kernel
theorem dX5_comeOn_32 : decode cX5_comeOn 32 = .ok (.iconst 0, 1) := by decide +kernel
theorem dX5_comeOn_33 : decode cX5_comeOn 33 = .ok (.istore_n 3, 1) := by decide +kernel
theorem dX5_comeOn_34 : decode cX5_comeOn 34 = .ok (.iconst (-1), 1) := by decide +kernel
theorem dX5_comeOn_35 : decode cX5_comeOn 35 = .ok (.istore 4, 2) := by decide +kernel
theorem dX5_comeOn_37 : decode cX5_comeOn 37 = .ok (.iconst 0, 1) := by decide +kernel
theorem dX5_comeOn_38 : decode cX5_comeOn 38 = .ok (.istore 5, 2) := by decide +kernel
theorem dX5_comeOn_40 : decode cX5_comeOn 40 = .ok (.iload 5, 2) := by decide +kernel
theorem dX5_comeOn_42 : decode cX5_comeOn 42 = .ok (.bipush 6, 2) := by decide +kernel
theorem dX5_comeOn_44 : decode cX5_comeOn 44 = .ok (.if_icmp .ge 50, 3) := by decide +kernel
theorem dX5_comeOn_47 : decode cX5_comeOn 47 = .ok (.aload_n 0, 1) := by decide +kernel
theorem dX5_comeOn_48 : decode cX5_comeOn 48 = .ok (.getfield 7, 3) := by decide +kernel
theorem dX5_comeOn_51 : decode cX5_comeOn 51 = .ok (.bipush 7, 2) := by decide +kernel
theorem dX5_comeOn_53 : decode cX5_comeOn 53 = .ok (.iload 5, 2) := by decide +kernel
theorem dX5_comeOn_55 : decode cX5_comeOn 55 = .ok (.iadd, 1) := by decide +kernel
theorem dX5_comeOn_56 : decode cX5_comeOn 56 = .ok (.dup2, 1) := by decide +kernel
theorem dX5_comeOn_57 : decode cX5_comeOn 57 = .ok (.iaload, 1) := by decide +kernel
theorem dX5_comeOn_58 : decode cX5_comeOn 58 = .ok (.iconst 1, 1) := by decide +kernel
theorem dX5_comeOn_59 : decode cX5_comeOn 59 = .ok (.iload_n 1, 1) := by decide +kernel
theorem dX5_comeOn_60 : decode cX5_comeOn 60 = .ok (.ishl, 1) := by decide +kernel
theorem dX5_comeOn_61 : decode cX5_comeOn 61 = .ok (.ior, 1) := by decide +kernel
theorem dX5_comeOn_62 : decode cX5_comeOn 62 = .ok (.iastore, 1) := by decide +kernel
theorem dX5_comeOn_63 : decode cX5_comeOn 63 = .ok (.aload_n 0, 1) := by decide +kernel
theorem dX5_comeOn_64 : decode cX5_comeOn 64 = .ok (.iload_n 2, 1) := by decide +kernel
theorem dX5_comeOn_65 : decode cX5_comeOn 65 = .ok (.bipush 21, 2) := by decide +kernel
theorem dX5_comeOn_67 : decode cX5_comeOn 67 = .ok (.iload_n 1, 1) := by decide +kernel
theorem dX5_comeOn_68 : decode cX5_comeOn 68 = .ok (.iadd, 1) := by decide +kernel
theorem dX5_comeOn_69 : decode cX5_comeOn 69 = .ok (.invokevirtual 158, 3) := by decide +kernel
theorem dX5_comeOn_72 : decode cX5_comeOn 72 = .ok (.istore 6, 2) := by decide +kernel
theorem dX5_comeOn_74 : decode cX5_comeOn 74 = .ok (.iload 6, 2) := by decide +kernel
theorem dX5_comeOn_76 : decode cX5_comeOn 76 = .ok (.iload 4, 2) := by decide +kernel
theorem dX5_comeOn_78 : decode cX5_comeOn 78 = .ok (.if_icmp .le 10, 3) := by decide +kernel
theorem dX5_comeOn_81 : decode cX5_comeOn 81 = .ok (.iload 5, 2) := by decide +kernel
theorem dX5_comeOn_83 : decode cX5_comeOn 83 = .ok (.istore_n 3, 1) := by decide +kernel
theorem dX5_comeOn_84 : decode cX5_comeOn 84 = .ok (.iload 6, 2) := by decide +kernel
theorem dX5_comeOn_86 : decode cX5_comeOn 86 = .ok (.istore 4, 2) := by decide +kernel
theorem dX5_comeOn_88 : decode cX5_comeOn 88 = .ok (.iinc 5 1, 3) := by decide +kernel
theorem dX5_comeOn_91 : decode cX5_comeOn 91 = .ok (.goto (-51), 3) := by decide +kernel
theorem dX5_comeOn_94 : decode cX5_comeOn 94 = .ok (.iload_n 3, 1) := by decide +kernel
theorem dX5_comeOn_95 : decode cX5_comeOn 95 = .ok (.ireturn, 1) := by decide +kernel
theorem dX5_kindFor_0 : decode cX5_kindFor 0 = .ok (.aload_n 0, 1) := by decide +kernel
theorem dX5_kindFor_1 : decode cX5_kindFor 1 = .ok (.iload_n 1, 1) := by decide +kernel
theorem dX5_kindFor_2 : decode cX5_kindFor 2 = .ok (.invokevirtual 125, 3) := by decide +kernel
theorem dX5_kindFor_5 : decode cX5_kindFor 5 = .ok (.ifCond .eq 10, 3) := by decide +kernel
theorem dX5_kindFor_8 : decode cX5_kindFor 8 = .ok (.iload_n 2, 1) := by decide +kernel
theorem dX5_kindFor_9 : decode cX5_kindFor 9 = .ok (.invokestatic 170, 3) := by decide +kernel
theorem dX5_kindFor_12 : decode cX5_kindFor 12 = .ok (.ifCond .ne 9, 3) := by decide +kernel
theorem dX5_kindFor_15 : decode cX5_kindFor 15 = .ok (.aload_n 0, 1) := by decide +kernel
theorem dX5_kindFor_16 : decode cX5_kindFor 16 = .ok (.iconst 0, 1) := by decide +kernel
theorem dX5_kindFor_17 : decode cX5_kindFor 17 = .ok (.invokevirtual 108, 3) := by decide +kernel
theorem dX5_kindFor_20 : decode cX5_kindFor 20 = .ok (.ireturn, 1) := by decide +kernel
theorem dX5_kindFor_21 : decode cX5_kindFor 21 = .ok (.aload_n 0, 1) := by decide +kernel
theorem dX5_kindFor_22 : decode cX5_kindFor 22 = .ok (.getfield 7, 3) := by decide +kernel
theorem dX5_kindFor_25 : decode cX5_kindFor 25 = .ok (.aload_n 0, 1) := by decide +kernel
theorem dX5_kindFor_26 : decode cX5_kindFor 26 = .ok (.getfield 16, 3) := by decide +kernel
theorem dX5_kindFor_29 : decode cX5_kindFor 29 = .ok (.invokestatic 152, 3) := by decide +kernel
theorem dX5_kindFor_32 : decode cX5_kindFor 32 = .ok (.iconst 0, 1) := by decide +kernel
theorem dX5_kindFor_33 : decode cX5_kindFor 33 = .ok (.istore_n 3, 1) := by decide +kernel
theorem dX5_kindFor_34 : decode cX5_kindFor 34 = .ok (.iconst (-1), 1) := by decide +kernel
theorem dX5_kindFor_35 : decode cX5_kindFor 35 = .ok (.istore 4, 2) := by decide +kernel
theorem dX5_kindFor_37 : decode cX5_kindFor 37 = .ok (.iconst 0, 1) := by decide +kernel
theorem dX5_kindFor_38 : decode cX5_kindFor 38 = .ok (.istore 5, 2) := by decide +kernel
theorem dX5_kindFor_40 : decode cX5_kindFor 40 = .ok (.iload 5, 2) := by decide +kernel
theorem dX5_kindFor_42 : decode cX5_kindFor 42 = .ok (.bipush 7, 2) := by decide +kernel
theorem dX5_kindFor_44 : decode cX5_kindFor 44 = .ok (.if_icmp .ge 42, 3) := by decide +kernel
theorem dX5_kindFor_47 : decode cX5_kindFor 47 = .ok (.aload_n 0, 1) := by decide +kernel
theorem dX5_kindFor_48 : decode cX5_kindFor 48 = .ok (.iload_n 1, 1) := by decide +kernel
theorem dX5_kindFor_49 : decode cX5_kindFor 49 = .ok (.iconst 0, 1) := by decide +kernel
theorem dX5_kindFor_50 : decode cX5_kindFor 50 = .ok (.iload 5, 2) := by decide +kernel
theorem dX5_kindFor_52 : decode cX5_kindFor 52 = .ok (.invokevirtual 87, 3) := by decide +kernel
theorem dX5_kindFor_55 : decode cX5_kindFor 55 = .ok (.aload_n 0, 1) := by decide +kernel
theorem dX5_kindFor_56 : decode cX5_kindFor 56 = .ok (.iload_n 2, 1) := by decide +kernel
theorem dX5_kindFor_57 : decode cX5_kindFor 57 = .ok (.bipush 21, 2) := by decide +kernel
theorem dX5_kindFor_59 : decode cX5_kindFor 59 = .ok (.iload_n 1, 1) := by decide +kernel
theorem dX5_kindFor_60 : decode cX5_kindFor 60 = .ok (.iadd, 1) := by decide +kernel
theorem dX5_kindFor_61 : decode cX5_kindFor 61 = .ok (.invokevirtual 158, 3) := by decide +kernel
theorem dX5_kindFor_64 : decode cX5_kindFor 64 = .ok (.istore 6, 2) := by decide +kernel
theorem dX5_kindFor_66 : decode cX5_kindFor 66 = .ok (.iload 6, 2) := by decide +kernel
theorem dX5_kindFor_68 : decode cX5_kindFor 68 = .ok (.iload 4, 2) := by decide +kernel
theorem dX5_kindFor_70 : decode cX5_kindFor 70 = .ok (.if_icmp .le 10, 3) := by decide +kernel
theorem dX5_kindFor_73 : decode cX5_kindFor 73 = .ok (.iload 5, 2) := by decide +kernel
theorem dX5_kindFor_75 : decode cX5_kindFor 75 = .ok (.istore_n 3, 1) := by decide +kernel
theorem dX5_kindFor_76 : decode cX5_kindFor 76 = .ok (.iload 6, 2) := by decide +kernel
theorem dX5_kindFor_78 : decode cX5_kindFor 78 = .ok (.istore 4, 2) := by decide +kernel
theorem dX5_kindFor_80 : decode cX5_kindFor 80 = .ok (.iinc 5 1, 3) := by decide +kernel
theorem dX5_kindFor_83 : decode cX5_kindFor 83 = .ok (.goto (-43), 3) := by decide +kernel
theorem dX5_kindFor_86 : decode cX5_kindFor 86 = .ok (.iload_n 3, 1) := by decide +kernel
theorem dX5_kindFor_87 : decode cX5_kindFor 87 = .ok (.ireturn, 1) := by decide +kernel
theorem dX5_friendFor_0 : decode cX5_friendFor 0 = .ok (.aload_n 0, 1) := by decide +kernel
theorem dX5_friendFor_1 : decode cX5_friendFor 1 = .ok (.iload_n 1, 1) := by decide +kernel
theorem dX5_friendFor_2 : decode cX5_friendFor 2 = .ok (.invokevirtual 125, 3) := by decide +kernel
theorem dX5_friendFor_5 : decode cX5_friendFor 5 = .ok (.ifCond .eq 10, 3) := by decide +kernel
theorem dX5_friendFor_8 : decode cX5_friendFor 8 = .ok (.iload_n 2, 1) := by decide +kernel
theorem dX5_friendFor_9 : decode cX5_friendFor 9 = .ok (.invokestatic 170, 3) := by decide +kernel
theorem dX5_friendFor_12 : decode cX5_friendFor 12 = .ok (.ifCond .ne 9, 3) := by decide +kernel
theorem dX5_friendFor_15 : decode cX5_friendFor 15 = .ok (.aload_n 0, 1) := by decide +kernel
theorem dX5_friendFor_16 : decode cX5_friendFor 16 = .ok (.iconst 0, 1) := by decide +kernel
theorem dX5_friendFor_17 : decode cX5_friendFor 17 = .ok (.invokevirtual 108, 3) := by decide +kernel
theorem dX5_friendFor_20 : decode cX5_friendFor 20 = .ok (.ireturn, 1) := by decide +kernel
theorem dX5_friendFor_21 : decode cX5_friendFor 21 = .ok (.aload_n 0, 1) := by decide +kernel
theorem dX5_friendFor_22 : decode cX5_friendFor 22 = .ok (.getfield 7, 3) := by decide +kernel
theorem dX5_friendFor_25 : decode cX5_friendFor 25 = .ok (.aload_n 0, 1) := by decide +kernel
theorem dX5_friendFor_26 : decode cX5_friendFor 26 = .ok (.getfield 16, 3) := by decide +kernel
theorem dX5_friendFor_29 : decode cX5_friendFor 29 = .ok (.invokestatic 152, 3) := by decide +kernel
theorem dX5_friendFor_32 : decode cX5_friendFor 32 = .ok (.iconst (-1), 1) := by decide +kernel
theorem dX5_friendFor_33 : decode cX5_friendFor 33 = .ok (.istore_n 3, 1) := by decide +kernel
theorem dX5_friendFor_34 : decode cX5_friendFor 34 = .ok (.iconst (-1), 1) := by decide +kernel
theorem dX5_friendFor_35 : decode cX5_friendFor 35 = .ok (.istore 4, 2) := by decide +kernel
theorem dX5_friendFor_37 : decode cX5_friendFor 37 = .ok (.iconst 0, 1) := by decide +kernel
theorem dX5_friendFor_38 : decode cX5_friendFor 38 = .ok (.istore 5, 2) := by decide +kernel
theorem dX5_friendFor_40 : decode cX5_friendFor 40 = .ok (.iload 5, 2) := by decide +kernel
theorem dX5_friendFor_42 : decode cX5_friendFor 42 = .ok (.aload_n 0, 1) := by decide +kernel
theorem dX5_friendFor_43 : decode cX5_friendFor 43 = .ok (.getfield 7, 3) := by decide +kernel
theorem dX5_friendFor_46 : decode cX5_friendFor 46 = .ok (.iconst 0, 1) := by decide +kernel
theorem dX5_friendFor_47 : decode cX5_friendFor 47 = .ok (.iaload, 1) := by decide +kernel
theorem dX5_friendFor_48 : decode cX5_friendFor 48 = .ok (.if_icmp .gt 67, 3) := by decide +kernel
theorem dX5_friendFor_51 : decode cX5_friendFor 51 = .ok (.iload 5, 2) := by decide +kernel
theorem dX5_friendFor_53 : decode cX5_friendFor 53 = .ok (.iload_n 1, 1) := by decide +kernel
theorem dX5_friendFor_54 : decode cX5_friendFor 54 = .ok (.if_icmp .eq 55, 3) := by decide +kernel
theorem dX5_friendFor_57 : decode cX5_friendFor 57 = .ok (.iload 5, 2) := by decide +kernel
theorem dX5_friendFor_59 : decode cX5_friendFor 59 = .ok (.aload_n 0, 1) := by decide +kernel
theorem dX5_friendFor_60 : decode cX5_friendFor 60 = .ok (.getfield 7, 3) := by decide +kernel
theorem dX5_friendFor_63 : decode cX5_friendFor 63 = .ok (.iconst 0, 1) := by decide +kernel
theorem dX5_friendFor_64 : decode cX5_friendFor 64 = .ok (.iaload, 1) := by decide +kernel
theorem dX5_friendFor_65 : decode cX5_friendFor 65 = .ok (.if_icmp .ne 7, 3) := by decide +kernel
theorem dX5_friendFor_68 : decode cX5_friendFor 68 = .ok (.iconst (-1), 1) := by decide +kernel
theorem dX5_friendFor_69 : decode cX5_friendFor 69 = .ok (.goto 5, 3) := by decide +kernel
theorem dX5_friendFor_72 : decode cX5_friendFor 72 = .ok (.iload 5, 2) := by decide +kernel
theorem dX5_friendFor_74 : decode cX5_friendFor 74 = .ok (.istore 6, 2) := by decide +kernel
theorem dX5_friendFor_76 : decode cX5_friendFor 76 = .ok (.aload_n 0, 1) := by decide +kernel
theorem dX5_friendFor_77 : decode cX5_friendFor 77 = .ok (.iload_n 1, 1) := by decide +kernel
theorem dX5_friendFor_78 : decode cX5_friendFor 78 = .ok (.iconst 2, 1) := by decide +kernel
theorem dX5_friendFor_79 : decode cX5_friendFor 79 = .ok (.iload 6, 2) := by decide +kernel
theorem dX5_friendFor_81 : decode cX5_friendFor 81 = .ok (.invokevirtual 87, 3) := by decide +kernel
theorem dX5_friendFor_84 : decode cX5_friendFor 84 = .ok (.aload_n 0, 1) := by decide +kernel
theorem dX5_friendFor_85 : decode cX5_friendFor 85 = .ok (.iload_n 2, 1) := by decide +kernel
theorem dX5_friendFor_86 : decode cX5_friendFor 86 = .ok (.bipush 21, 2) := by decide +kernel
theorem dX5_friendFor_88 : decode cX5_friendFor 88 = .ok (.iload_n 1, 1) := by decide +kernel
theorem dX5_friendFor_89 : decode cX5_friendFor 89 = .ok (.iadd, 1) := by decide +kernel
theorem dX5_friendFor_90 : decode cX5_friendFor 90 = .ok (.invokevirtual 158, 3) := by decide +kernel
theorem dX5_friendFor_93 : decode cX5_friendFor 93 = .ok (.istore 7, 2) := by decide +kernel
theorem dX5_friendFor_95 : decode cX5_friendFor 95 = .ok (.iload 7, 2) := by decide +kernel
theorem dX5_friendFor_97 : decode cX5_friendFor 97 = .ok (.iload 4, 2) := by decide +kernel
theorem dX5_friendFor_99 : decode cX5_friendFor 99 = .ok (.if_icmp .le 10, 3) := by decide +kernel
theorem dX5_friendFor_102 : decode cX5_friendFor 102 = .ok (.iload 6, 2) := by decide +kernel
theorem dX5_friendFor_104 : decode cX5_friendFor 104 = .ok (.istore_n 3, 1) := by decide +kernel
theorem dX5_friendFor_105 : decode cX5_friendFor 105 = .ok (.iload 7, 2) := by decide +kernel
theorem dX5_friendFor_107 : decode cX5_friendFor 107 = .ok (.istore 4, 2) := by decide +kernel
theorem dX5_friendFor_109 : decode cX5_friendFor 109 = .ok (.iinc 5 1, 3) := by decide +kernel
theorem dX5_friendFor_112 : decode cX5_friendFor 112 = .ok (.goto (-72), 3) := by decide +kernel
theorem dX5_friendFor_115 : decode cX5_friendFor 115 = .ok (.iload_n 3, 1) := by decide +kernel
theorem dX5_friendFor_116 : decode cX5_friendFor 116 = .ok (.ireturn, 1) := by decide +kernel
theorem dX5_away_0 : decode cX5_away 0 = .ok (.aload_n 0, 1) := by decide +kernel
theorem dX5_away_1 : decode cX5_away 1 = .ok (.iload_n 1, 1) := by decide +kernel
theorem dX5_away_2 : decode cX5_away 2 = .ok (.invokevirtual 125, 3) := by decide +kernel
theorem dX5_away_5 : decode cX5_away 5 = .ok (.ifCond .eq 15, 3) := by decide +kernel
theorem dX5_away_8 : decode cX5_away 8 = .ok (.iload_n 2, 1) := by decide +kernel
theorem dX5_away_9 : decode cX5_away 9 = .ok (.i2l, 1) := by decide +kernel
theorem dX5_away_10 : decode cX5_away 10 = .ok (.lconst 0, 1) := by decide +kernel
theorem dX5_away_11 : decode cX5_away 11 = .ok (.ldc2_w 95, 3) := by decide +kernel
theorem dX5_away_14 : decode cX5_away 14 = .ok (.invokestatic 42, 3) := by decide +kernel
theorem dX5_away_17 : decode cX5_away 17 = .ok (.ifCond .ne 9, 3) := by decide +kernel
theorem dX5_away_20 : decode cX5_away 20 = .ok (.aload_n 0, 1) := by decide +kernel
theorem dX5_away_21 : decode cX5_away 21 = .ok (.iconst 0, 1) := by decide +kernel
theorem dX5_away_22 : decode cX5_away 22 = .ok (.invokevirtual 108, 3) := by decide +kernel
theorem dX5_away_25 : decode cX5_away 25 = .ok (.ireturn, 1) := by decide +kernel
theorem dX5_away_26 : decode cX5_away 26 = .ok (.aload_n 0, 1) := by decide +kernel
theorem dX5_away_27 : decode cX5_away 27 = .ok (.getfield 7, 3) := by decide +kernel
theorem dX5_away_30 : decode cX5_away 30 = .ok (.aload_n 0, 1) := by decide +kernel
theorem dX5_away_31 : decode cX5_away 31 = .ok (.getfield 16, 3) := by decide +kernel
theorem dX5_away_34 : decode cX5_away 34 = .ok (.invokestatic 152, 3) := by decide +kernel
theorem dX5_away_37 : decode cX5_away 37 = .ok (.iconst (-1), 1) := by decide +kernel
theorem dX5_away_38 : decode cX5_away 38 = .ok (.istore_n 3, 1) := by decide +kernel
theorem dX5_away_39 : decode cX5_away 39 = .ok (.iconst 0, 1) := by decide +kernel
theorem dX5_away_40 : decode cX5_away 40 = .ok (.istore 4, 2) := by decide +kernel
theorem dX5_away_42 : decode cX5_away 42 = .ok (.iload 4, 2) := by decide +kernel
theorem dX5_away_44 : decode cX5_away 44 = .ok (.iconst 1, 1) := by decide +kernel
theorem dX5_away_45 : decode cX5_away 45 = .ok (.aload_n 0, 1) := by decide +kernel
theorem dX5_away_46 : decode cX5_away 46 = .ok (.getfield 7, 3) := by decide +kernel
theorem dX5_away_49 : decode cX5_away 49 = .ok (.iconst 0, 1) := by decide +kernel
theorem dX5_away_50 : decode cX5_away 50 = .ok (.iaload, 1) := by decide +kernel
theorem dX5_away_51 : decode cX5_away 51 = .ok (.ishl, 1) := by decide +kernel
theorem dX5_away_52 : decode cX5_away 52 = .ok (.if_icmp .ge 92, 3) := by decide +kernel
theorem dX5_away_55 : decode cX5_away 55 = .ok (.iload 4, 2) := by decide +kernel
theorem dX5_away_57 : decode cX5_away 57 = .ok (.iload_n 1, 1) := by decide +kernel
theorem dX5_away_58 : decode cX5_away 58 = .ok (.ishr, 1) := by decide +kernel
theorem dX5_away_59 : decode cX5_away 59 = .ok (.iconst 1, 1) := by decide +kernel
theorem dX5_away_60 : decode cX5_away 60 = .ok (.iand, 1) := by decide +kernel
theorem dX5_away_61 : decode cX5_away 61 = .ok (.iconst 1, 1) := by decide +kernel
theorem dX5_away_62 : decode cX5_away 62 = .ok (.if_icmp .eq 76, 3) := by decide +kernel
theorem dX5_away_65 : decode cX5_away 65 = .ok (.iload_n 3, 1) := by decide +kernel
theorem dX5_away_66 : decode cX5_away 66 = .ok (.ifCond .lt 18, 3) := by decide +kernel
theorem dX5_away_69 : decode cX5_away 69 = .ok (.iload 4, 2) := by decide +kernel
theorem dX5_away_71 : decode cX5_away 71 = .ok (.invokestatic 78, 3) := by decide +kernel
theorem dX5_away_74 : decode cX5_away 74 = .ok (.iload_n 3, 1) := by decide +kernel
theorem dX5_away_75 : decode cX5_away 75 = .ok (.invokestatic 78, 3) := by decide +kernel
theorem dX5_away_78 : decode cX5_away 78 = .ok (.if_icmp .lt 6, 3) := by decide +kernel
theorem dX5_away_81 : decode cX5_away 81 = .ok (.goto 57, 3) := by decide +kernel
theorem dX5_away_84 : decode cX5_away 84 = .ok (.iconst 0, 1) := by decide +kernel
theorem dX5_away_85 : decode cX5_away 85 = .ok (.istore 5, 2) := by decide +kernel
theorem dX5_away_87 : decode cX5_away 87 = .ok (.iload 5, 2) := by decide +kernel
theorem dX5_away_89 : decode cX5_away 89 = .ok (.bipush 6, 2) := by decide +kernel
theorem dX5_away_91 : decode cX5_away 91 = .ok (.if_icmp .ge 26, 3) := by decide +kernel
theorem dX5_away_94 : decode cX5_away 94 = .ok (.aload_n 0, 1) := by decide +kernel
theorem dX5_away_95 : decode cX5_away 95 = .ok (.getfield 7, 3) := by decide +kernel
theorem dX5_away_98 : decode cX5_away 98 = .ok (.bipush 7, 2) := by decide +kernel
theorem dX5_away_100 : decode cX5_away 100 = .ok (.iload 5, 2) := by decide +kernel
theorem dX5_away_102 : decode cX5_away 102 = .ok (.iadd, 1) := by decide +kernel
theorem dX5_away_103 : decode cX5_away 103 = .ok (.dup2, 1) := by decide +kernel
theorem dX5_away_104 : decode cX5_away 104 = .ok (.iaload, 1) := by decide +kernel
theorem dX5_away_105 : decode cX5_away 105 = .ok (.iload 4, 2) := by decide +kernel
theorem dX5_away_107 : decode cX5_away 107 = .ok (.iconst (-1), 1) := by decide +kernel
theorem dX5_away_108 : decode cX5_away 108 = .ok (.ixor, 1) := by decide +kernel
theorem dX5_away_109 : decode cX5_away 109 = .ok (.iand, 1) := by decide +kernel
theorem dX5_away_110 : decode cX5_away 110 = .ok (.iastore, 1) := by decide +kernel
theorem dX5_away_111 : decode cX5_away 111 = .ok (.iinc 5 1, 3) := by decide +kernel
theorem dX5_away_114 : decode cX5_away 114 = .ok (.goto (-27), 3) := by decide +kernel
theorem dX5_away_117 : decode cX5_away 117 = .ok (.aload_n 0, 1) := by decide +kernel
theorem dX5_away_118 : decode cX5_away 118 = .ok (.iload_n 2, 1) := by decide +kernel
theorem dX5_away_119 : decode cX5_away 119 = .ok (.bipush 21, 2) := by decide +kernel
theorem dX5_away_121 : decode cX5_away 121 = .ok (.iload_n 1, 1) := by decide +kernel
theorem dX5_away_122 : decode cX5_away 122 = .ok (.iadd, 1) := by decide +kernel
theorem dX5_away_123 : decode cX5_away 123 = .ok (.invokevirtual 158, 3) := by decide +kernel
theorem dX5_away_126 : decode cX5_away 126 = .ok (.bipush 60, 2) := by decide +kernel
theorem dX5_away_128 : decode cX5_away 128 = .ok (.if_icmp .lt 8, 3) := by decide +kernel
theorem dX5_away_131 : decode cX5_away 131 = .ok (.iload 4, 2) := by decide +kernel
theorem dX5_away_133 : decode cX5_away 133 = .ok (.goto 4, 3) := by decide +kernel
theorem dX5_away_136 : decode cX5_away 136 = .ok (.iload_n 3, 1) := by decide +kernel
theorem dX5_away_137 : decode cX5_away 137 = .ok (.istore_n 3, 1) := by decide +kernel
theorem dX5_away_138 : decode cX5_away 138 = .ok (.iinc 4 1, 3) := by decide +kernel
theorem dX5_away_141 : decode cX5_away 141 = .ok (.goto (-99), 3) := by decide +kernel
theorem dX5_away_144 : decode cX5_away 144 = .ok (.iload_n 3, 1) := by decide +kernel
theorem dX5_away_145 : decode cX5_away 145 = .ok (.ifCond .ge 11, 3) := by decide +kernel
theorem dX5_away_148 : decode cX5_away 148 = .ok (.aload_n 0, 1) := by decide +kernel
theorem dX5_away_149 : decode cX5_away 149 = .ok (.iconst 3, 1) := by decide +kernel
theorem dX5_away_150 : decode cX5_away 150 = .ok (.invokevirtual 108, 3) := by decide +kernel
theorem dX5_away_153 : decode cX5_away 153 = .ok (.goto 4, 3) := by decide +kernel
theorem dX5_away_156 : decode cX5_away 156 = .ok (.iload_n 3, 1) := by decide +kernel
theorem dX5_away_157 : decode cX5_away 157 = .ok (.ireturn, 1) := by decide +kernel
theorem dX5_whyNot_0 : decode cX5_whyNot 0 = .ok (.aload_n 0, 1) := by decide +kernel
theorem dX5_whyNot_1 : decode cX5_whyNot 1 = .ok (.iload_n 1, 1) := by decide +kernel
theorem dX5_whyNot_2 : decode cX5_whyNot 2 = .ok (.invokevirtual 173, 3) := by decide +kernel
theorem dX5_whyNot_5 : decode cX5_whyNot 5 = .ok (.istore_n 3, 1) := by decide +kernel
theorem dX5_whyNot_6 : decode cX5_whyNot 6 = .ok (.iload_n 3, 1) := by decide +kernel
theorem dX5_whyNot_7 : decode cX5_whyNot 7 = .ok (.ifCond .lt 7, 3) := by decide +kernel
theorem dX5_whyNot_10 : decode cX5_whyNot 10 = .ok (.iload_n 3, 1) := by decide +kernel
theorem dX5_whyNot_11 : decode cX5_whyNot 11 = .ok (.goto 16, 3) := by decide +kernel
theorem dX5_whyNot_14 : decode cX5_whyNot 14 = .ok (.aload_n 0, 1) := by decide +kernel
theorem dX5_whyNot_15 : decode cX5_whyNot 15 = .ok (.iload_n 2, 1) := by decide +kernel
theorem dX5_whyNot_16 : decode cX5_whyNot 16 = .ok (.invokevirtual 125, 3) := by decide +kernel
theorem dX5_whyNot_19 : decode cX5_whyNot 19 = .ok (.ifCond .eq 7, 3) := by decide +kernel
theorem dX5_whyNot_22 : decode cX5_whyNot 22 = .ok (.iconst (-1), 1) := by decide +kernel
theorem dX5_whyNot_23 : decode cX5_whyNot 23 = .ok (.goto 4, 3) := by decide +kernel
theorem dX5_whyNot_26 : decode cX5_whyNot 26 = .ok (.iconst 0, 1) := by decide +kernel
theorem dX5_whyNot_27 : decode cX5_whyNot 27 = .ok (.ireturn, 1) := by decide +kernel
theorem dX5_isTold_0 : decode cX5_isTold 0 = .ok (.iconst 1, 1) := by decide +kernel
theorem dX5_isTold_1 : decode cX5_isTold 1 = .ok (.istore 4, 2) := by decide +kernel
theorem dX5_isTold_3 : decode cX5_isTold 3 = .ok (.iconst 0, 1) := by decide +kernel
theorem dX5_isTold_4 : decode cX5_isTold 4 = .ok (.istore 5, 2) := by decide +kernel
theorem dX5_isTold_6 : decode cX5_isTold 6 = .ok (.iload 5, 2) := by decide +kernel
theorem dX5_isTold_8 : decode cX5_isTold 8 = .ok (.aload_n 0, 1) := by decide +kernel
theorem dX5_isTold_9 : decode cX5_isTold 9 = .ok (.getfield 32, 3) := by decide +kernel
theorem dX5_isTold_12 : decode cX5_isTold 12 = .ok (.iload_n 1, 1) := by decide +kernel
theorem dX5_isTold_13 : decode cX5_isTold 13 = .ok (.iaload, 1) := by decide +kernel
theorem dX5_isTold_14 : decode cX5_isTold 14 = .ok (.if_icmp .ge 79, 3) := by decide +kernel
theorem dX5_isTold_17 : decode cX5_isTold 17 = .ok (.iload 4, 2) := by decide +kernel
theorem dX5_isTold_19 : decode cX5_isTold 19 = .ok (.ifCond .eq 74, 3) := by decide +kernel
theorem dX5_isTold_22 : decode cX5_isTold 22 = .ok (.aload_n 0, 1) := by decide +kernel
theorem dX5_isTold_23 : decode cX5_isTold 23 = .ok (.getfield 35, 3) := by decide +kernel
theorem dX5_isTold_26 : decode cX5_isTold 26 = .ok (.bipush 40, 2) := by decide +kernel
theorem dX5_isTold_28 : decode cX5_isTold 28 = .ok (.iload_n 1, 1) := by decide +kernel
theorem dX5_isTold_29 : decode cX5_isTold 29 = .ok (.imul, 1) := by decide +kernel
theorem dX5_isTold_30 : decode cX5_isTold 30 = .ok (.iload 5, 2) := by decide +kernel
theorem dX5_isTold_32 : decode cX5_isTold 32 = .ok (.iadd, 1) := by decide +kernel
theorem dX5_isTold_33 : decode cX5_isTold 33 = .ok (.iaload, 1) := by decide +kernel
theorem dX5_isTold_34 : decode cX5_isTold 34 = .ok (.istore 6, 2) := by decide +kernel
theorem dX5_isTold_36 : decode cX5_isTold 36 = .ok (.aload_n 0, 1) := by decide +kernel
theorem dX5_isTold_37 : decode cX5_isTold 37 = .ok (.iload_n 2, 1) := by decide +kernel
theorem dX5_isTold_38 : decode cX5_isTold 38 = .ok (.iconst 1, 1) := by decide +kernel
theorem dX5_isTold_39 : decode cX5_isTold 39 = .ok (.invokevirtual 46, 3) := by decide +kernel
theorem dX5_isTold_42 : decode cX5_isTold 42 = .ok (.istore 7, 2) := by decide +kernel
theorem dX5_isTold_44 : decode cX5_isTold 44 = .ok (.iload 6, 2) := by decide +kernel
theorem dX5_isTold_46 : decode cX5_isTold 46 = .ok (.iconst (-1), 1) := by decide +kernel
theorem dX5_isTold_47 : decode cX5_isTold 47 = .ok (.if_icmp .eq 29, 3) := by decide +kernel
theorem dX5_isTold_50 : decode cX5_isTold 50 = .ok (.iload 6, 2) := by decide +kernel
theorem dX5_isTold_52 : decode cX5_isTold 52 = .ok (.iload_n 3, 1) := by decide +kernel
theorem dX5_isTold_53 : decode cX5_isTold 53 = .ok (.ifCond .eq 18, 3) := by decide +kernel
theorem dX5_isTold_56 : decode cX5_isTold 56 = .ok (.iload 7, 2) := by decide +kernel
theorem dX5_isTold_58 : decode cX5_isTold 58 = .ok (.bipush 60, 2) := by decide +kernel
theorem dX5_isTold_60 : decode cX5_isTold 60 = .ok (.if_icmp .lt 7, 3) := by decide +kernel
theorem dX5_isTold_63 : decode cX5_isTold 63 = .ok (.iconst 1, 1) := by decide +kernel
theorem dX5_isTold_64 : decode cX5_isTold 64 = .ok (.goto 9, 3) := by decide +kernel
theorem dX5_isTold_67 : decode cX5_isTold 67 = .ok (.iconst 0, 1) := by decide +kernel
theorem dX5_isTold_68 : decode cX5_isTold 68 = .ok (.goto 5, 3) := by decide +kernel
theorem dX5_isTold_71 : decode cX5_isTold 71 = .ok (.iload 7, 2) := by decide +kernel
theorem dX5_isTold_73 : decode cX5_isTold 73 = .ok (.if_icmp .ne 7, 3) := by decide +kernel
theorem dX5_isTold_76 : decode cX5_isTold 76 = .ok (.iconst 1, 1) := by decide +kernel
theorem dX5_isTold_77 : decode cX5_isTold 77 = .ok (.goto 4, 3) := by decide +kernel
theorem dX5_isTold_80 : decode cX5_isTold 80 = .ok (.iconst 0, 1) := by decide +kernel
theorem dX5_isTold_81 : decode cX5_isTold 81 = .ok (.istore 4, 2) := by decide +kernel
theorem dX5_isTold_83 : decode cX5_isTold 83 = .ok (.aload_n 0, 1) := by decide +kernel
theorem dX5_isTold_84 : decode cX5_isTold 84 = .ok (.invokevirtual 92, 3) := by decide +kernel
theorem dX5_isTold_87 : decode cX5_isTold 87 = .ok (.iinc 5 1, 3) := by decide +kernel
theorem dX5_isTold_90 : decode cX5_isTold 90 = .ok (.goto (-84), 3) := by decide +kernel
theorem dX5_isTold_93 : decode cX5_isTold 93 = .ok (.aload_n 0, 1) := by decide +kernel
theorem dX5_isTold_94 : decode cX5_isTold 94 = .ok (.getfield 16, 3) := by decide +kernel
theorem dX5_isTold_97 : decode cX5_isTold 97 = .ok (.aload_n 0, 1) := by decide +kernel
theorem dX5_isTold_98 : decode cX5_isTold 98 = .ok (.getfield 7, 3) := by decide +kernel
theorem dX5_isTold_101 : decode cX5_isTold 101 = .ok (.invokestatic 152, 3) := by decide +kernel
theorem dX5_isTold_104 : decode cX5_isTold 104 = .ok (.iload 4, 2) := by decide +kernel
theorem dX5_isTold_106 : decode cX5_isTold 106 = .ok (.ireturn, 1) := by decide +kernel
theorem dX5_fits_0 : decode cX5_fits 0 = .ok (.aload_n 0, 1) := by decide +kernel
theorem dX5_fits_1 : decode cX5_fits 1 = .ok (.iload_n 1, 1) := by decide +kernel
theorem dX5_fits_2 : decode cX5_fits 2 = .ok (.iload_n 2, 1) := by decide +kernel
theorem dX5_fits_3 : decode cX5_fits 3 = .ok (.invokevirtual 176, 3) := by decide +kernel
theorem dX5_fits_6 : decode cX5_fits 6 = .ok (.istore_n 3, 1) := by decide +kernel
theorem dX5_fits_7 : decode cX5_fits 7 = .ok (.iload_n 3, 1) := by decide +kernel
theorem dX5_fits_8 : decode cX5_fits 8 = .ok (.ifCond .lt 9, 3) := by decide +kernel
theorem dX5_fits_11 : decode cX5_fits 11 = .ok (.aload_n 0, 1) := by decide +kernel
theorem dX5_fits_12 : decode cX5_fits 12 = .ok (.iload_n 3, 1) := by decide +kernel
theorem dX5_fits_13 : decode cX5_fits 13 = .ok (.invokevirtual 108, 3) := by decide +kernel
theorem dX5_fits_16 : decode cX5_fits 16 = .ok (.ireturn, 1) := by decide +kernel
theorem dX5_fits_17 : decode cX5_fits 17 = .ok (.aload_n 0, 1) := by decide +kernel
theorem dX5_fits_18 : decode cX5_fits 18 = .ok (.getfield 7, 3) := by decide +kernel
theorem dX5_fits_21 : decode cX5_fits 21 = .ok (.aload_n 0, 1) := by decide +kernel
theorem dX5_fits_22 : decode cX5_fits 22 = .ok (.getfield 16, 3) := by decide +kernel
theorem dX5_fits_25 : decode cX5_fits 25 = .ok (.invokestatic 152, 3) := by decide +kernel
theorem dX5_fits_28 : decode cX5_fits 28 = .ok (.iconst 0, 1) := by decide +kernel
theorem dX5_fits_29 : decode cX5_fits 29 = .ok (.istore 4, 2) := by decide +kernel
theorem dX5_fits_31 : decode cX5_fits 31 = .ok (.iconst 0, 1) := by decide +kernel
theorem dX5_fits_32 : decode cX5_fits 32 = .ok (.istore 5, 2) := by decide +kernel
theorem dX5_fits_34 : decode cX5_fits 34 = .ok (.iload 5, 2) := by decide +kernel
theorem dX5_fits_36 : decode cX5_fits 36 = .ok (.bipush 99, 2) := by decide +kernel
theorem dX5_fits_38 : decode cX5_fits 38 = .ok (.if_icmp .gt 37, 3) := by decide +kernel
theorem dX5_fits_41 : decode cX5_fits 41 = .ok (.aload_n 0, 1) := by decide +kernel
theorem dX5_fits_42 : decode cX5_fits 42 = .ok (.iload_n 2, 1) := by decide +kernel
theorem dX5_fits_43 : decode cX5_fits 43 = .ok (.iconst 1, 1) := by decide +kernel
theorem dX5_fits_44 : decode cX5_fits 44 = .ok (.iload 5, 2) := by decide +kernel
theorem dX5_fits_46 : decode cX5_fits 46 = .ok (.invokevirtual 87, 3) := by decide +kernel
theorem dX5_fits_49 : decode cX5_fits 49 = .ok (.iload 4, 2) := by decide +kernel
theorem dX5_fits_51 : decode cX5_fits 51 = .ok (.aload_n 0, 1) := by decide +kernel
theorem dX5_fits_52 : decode cX5_fits 52 = .ok (.iload_n 1, 1) := by decide +kernel
theorem dX5_fits_53 : decode cX5_fits 53 = .ok (.iload_n 2, 1) := by decide +kernel
theorem dX5_fits_54 : decode cX5_fits 54 = .ok (.iconst 1, 1) := by decide +kernel
theorem dX5_fits_55 : decode cX5_fits 55 = .ok (.invokevirtual 179, 3) := by decide +kernel
theorem dX5_fits_58 : decode cX5_fits 58 = .ok (.ifCond .eq 7, 3) := by decide +kernel
theorem dX5_fits_61 : decode cX5_fits 61 = .ok (.iconst 1, 1) := by decide +kernel
theorem dX5_fits_62 : decode cX5_fits 62 = .ok (.goto 4, 3) := by decide +kernel
theorem dX5_fits_65 : decode cX5_fits 65 = .ok (.iconst 0, 1) := by decide +kernel
theorem dX5_fits_66 : decode cX5_fits 66 = .ok (.iadd, 1) := by decide +kernel
theorem dX5_fits_67 : decode cX5_fits 67 = .ok (.istore 4, 2) := by decide +kernel
theorem dX5_fits_69 : decode cX5_fits 69 = .ok (.iinc 5 1, 3) := by decide +kernel
theorem dX5_fits_72 : decode cX5_fits 72 = .ok (.goto (-38), 3) := by decide +kernel
theorem dX5_fits_75 : decode cX5_fits 75 = .ok (.iload 4, 2) := by decide +kernel
theorem dX5_fits_77 : decode cX5_fits 77 = .ok (.ireturn, 1) := by decide +kernel
theorem dX5_mood_0 : decode cX5_mood 0 = .ok (.aload_n 0, 1) := by decide +kernel
theorem dX5_mood_1 : decode cX5_mood 1 = .ok (.iload_n 1, 1) := by decide +kernel
theorem dX5_mood_2 : decode cX5_mood 2 = .ok (.iload_n 2, 1) := by decide +kernel
theorem dX5_mood_3 : decode cX5_mood 3 = .ok (.invokevirtual 176, 3) := by decide +kernel
theorem dX5_mood_6 : decode cX5_mood 6 = .ok (.istore_n 3, 1) := by decide +kernel
theorem dX5_mood_7 : decode cX5_mood 7 = .ok (.iload_n 3, 1) := by decide +kernel
theorem dX5_mood_8 : decode cX5_mood 8 = .ok (.ifCond .lt 9, 3) := by decide +kernel
theorem dX5_mood_11 : decode cX5_mood 11 = .ok (.aload_n 0, 1) := by decide +kernel
theorem dX5_mood_12 : decode cX5_mood 12 = .ok (.iload_n 3, 1) := by decide +kernel
theorem dX5_mood_13 : decode cX5_mood 13 = .ok (.invokevirtual 108, 3) := by decide +kernel
theorem dX5_mood_16 : decode cX5_mood 16 = .ok (.ireturn, 1) := by decide +kernel
theorem dX5_mood_17 : decode cX5_mood 17 = .ok (.aload_n 0, 1) := by decide +kernel
theorem dX5_mood_18 : decode cX5_mood 18 = .ok (.getfield 7, 3) := by decide +kernel
theorem dX5_mood_21 : decode cX5_mood 21 = .ok (.aload_n 0, 1) := by decide +kernel
theorem dX5_mood_22 : decode cX5_mood 22 = .ok (.getfield 16, 3) := by decide +kernel
theorem dX5_mood_25 : decode cX5_mood 25 = .ok (.invokestatic 152, 3) := by decide +kernel
theorem dX5_mood_28 : decode cX5_mood 28 = .ok (.iconst 0, 1) := by decide +kernel
theorem dX5_mood_29 : decode cX5_mood 29 = .ok (.istore 4, 2) := by decide +kernel
theorem dX5_mood_31 : decode cX5_mood 31 = .ok (.iload 4, 2) := by decide +kernel
theorem dX5_mood_33 : decode cX5_mood 33 = .ok (.bipush 99, 2) := by decide +kernel
theorem dX5_mood_35 : decode cX5_mood 35 = .ok (.if_icmp .gt 30, 3) := by decide +kernel
theorem dX5_mood_38 : decode cX5_mood 38 = .ok (.aload_n 0, 1) := by decide +kernel
theorem dX5_mood_39 : decode cX5_mood 39 = .ok (.iload_n 2, 1) := by decide +kernel
theorem dX5_mood_40 : decode cX5_mood 40 = .ok (.iconst 1, 1) := by decide +kernel
theorem dX5_mood_41 : decode cX5_mood 41 = .ok (.iload 4, 2) := by decide +kernel
theorem dX5_mood_43 : decode cX5_mood 43 = .ok (.invokevirtual 87, 3) := by decide +kernel
theorem dX5_mood_46 : decode cX5_mood 46 = .ok (.aload_n 0, 1) := by decide +kernel
theorem dX5_mood_47 : decode cX5_mood 47 = .ok (.iload_n 1, 1) := by decide +kernel
theorem dX5_mood_48 : decode cX5_mood 48 = .ok (.iload_n 2, 1) := by decide +kernel
theorem dX5_mood_49 : decode cX5_mood 49 = .ok (.iconst 1, 1) := by decide +kernel
theorem dX5_mood_50 : decode cX5_mood 50 = .ok (.invokevirtual 179, 3) := by decide +kernel
theorem dX5_mood_53 : decode cX5_mood 53 = .ok (.ifCond .eq 6, 3) := by decide +kernel
theorem dX5_mood_56 : decode cX5_mood 56 = .ok (.iload 4, 2) := by decide +kernel
theorem dX5_mood_58 : decode cX5_mood 58 = .ok (.ireturn, 1) := by decide +kernel
theorem dX5_mood_59 : decode cX5_mood 59 = .ok (.iinc 4 1, 3) := by decide +kernel
theorem dX5_mood_62 : decode cX5_mood 62 = .ok (.goto (-31), 3) := by decide +kernel
theorem dX5_mood_65 : decode cX5_mood 65 = .ok (.aload_n 0, 1) := by decide +kernel
theorem dX5_mood_66 : decode cX5_mood 66 = .ok (.iconst 3, 1) := by decide +kernel
theorem dX5_mood_67 : decode cX5_mood 67 = .ok (.invokevirtual 108, 3) := by decide +kernel
theorem dX5_mood_70 : decode cX5_mood 70 = .ok (.ireturn, 1) := by decide +kernel
theorem dX5_kinds_0 : decode cX5_kinds 0 = .ok (.aload_n 0, 1) := by decide +kernel
theorem dX5_kinds_1 : decode cX5_kinds 1 = .ok (.iload_n 1, 1) := by decide +kernel
theorem dX5_kinds_2 : decode cX5_kinds 2 = .ok (.iload_n 2, 1) := by decide +kernel
theorem dX5_kinds_3 : decode cX5_kinds 3 = .ok (.invokevirtual 176, 3) := by decide +kernel
theorem dX5_kinds_6 : decode cX5_kinds 6 = .ok (.istore_n 3, 1) := by decide +kernel
theorem dX5_kinds_7 : decode cX5_kinds 7 = .ok (.iload_n 3, 1) := by decide +kernel
theorem dX5_kinds_8 : decode cX5_kinds 8 = .ok (.ifCond .lt 9, 3) := by decide +kernel
theorem dX5_kinds_11 : decode cX5_kinds 11 = .ok (.aload_n 0, 1) := by decide +kernel
theorem dX5_kinds_12 : decode cX5_kinds 12 = .ok (.iload_n 3, 1) := by decide +kernel
theorem dX5_kinds_13 : decode cX5_kinds 13 = .ok (.invokevirtual 108, 3) := by decide +kernel
theorem dX5_kinds_16 : decode cX5_kinds 16 = .ok (.ireturn, 1) := by decide +kernel
theorem dX5_kinds_17 : decode cX5_kinds 17 = .ok (.aload_n 0, 1) := by decide +kernel
theorem dX5_kinds_18 : decode cX5_kinds 18 = .ok (.getfield 7, 3) := by decide +kernel
theorem dX5_kinds_21 : decode cX5_kinds 21 = .ok (.aload_n 0, 1) := by decide +kernel
theorem dX5_kinds_22 : decode cX5_kinds 22 = .ok (.getfield 16, 3) := by decide +kernel
theorem dX5_kinds_25 : decode cX5_kinds 25 = .ok (.invokestatic 152, 3) := by decide +kernel
theorem dX5_kinds_28 : decode cX5_kinds 28 = .ok (.iconst 0, 1) := by decide +kernel
theorem dX5_kinds_29 : decode cX5_kinds 29 = .ok (.istore 4, 2) := by decide +kernel
theorem dX5_kinds_31 : decode cX5_kinds 31 = .ok (.iconst 0, 1) := by decide +kernel
theorem dX5_kinds_32 : decode cX5_kinds 32 = .ok (.istore 5, 2) := by decide +kernel
theorem dX5_kinds_34 : decode cX5_kinds 34 = .ok (.iload 5, 2) := by decide +kernel
theorem dX5_kinds_36 : decode cX5_kinds 36 = .ok (.bipush 7, 2) := by decide +kernel
theorem dX5_kinds_38 : decode cX5_kinds 38 = .ok (.if_icmp .ge 40, 3) := by decide +kernel
theorem dX5_kinds_41 : decode cX5_kinds 41 = .ok (.aload_n 0, 1) := by decide +kernel
theorem dX5_kinds_42 : decode cX5_kinds 42 = .ok (.iload_n 2, 1) := by decide +kernel
theorem dX5_kinds_43 : decode cX5_kinds 43 = .ok (.iconst 0, 1) := by decide +kernel
theorem dX5_kinds_44 : decode cX5_kinds 44 = .ok (.iload 5, 2) := by decide +kernel
theorem dX5_kinds_46 : decode cX5_kinds 46 = .ok (.invokevirtual 87, 3) := by decide +kernel
theorem dX5_kinds_49 : decode cX5_kinds 49 = .ok (.iload 4, 2) := by decide +kernel
theorem dX5_kinds_51 : decode cX5_kinds 51 = .ok (.aload_n 0, 1) := by decide +kernel
theorem dX5_kinds_52 : decode cX5_kinds 52 = .ok (.iload_n 1, 1) := by decide +kernel
theorem dX5_kinds_53 : decode cX5_kinds 53 = .ok (.iload_n 2, 1) := by decide +kernel
theorem dX5_kinds_54 : decode cX5_kinds 54 = .ok (.iconst 0, 1) := by decide +kernel
theorem dX5_kinds_55 : decode cX5_kinds 55 = .ok (.invokevirtual 179, 3) := by decide +kernel
theorem dX5_kinds_58 : decode cX5_kinds 58 = .ok (.ifCond .eq 10, 3) := by decide +kernel
theorem dX5_kinds_61 : decode cX5_kinds 61 = .ok (.iconst 1, 1) := by decide +kernel
theorem dX5_kinds_62 : decode cX5_kinds 62 = .ok (.iload 5, 2) := by decide +kernel
theorem dX5_kinds_64 : decode cX5_kinds 64 = .ok (.ishl, 1) := by decide +kernel
theorem dX5_kinds_65 : decode cX5_kinds 65 = .ok (.goto 4, 3) := by decide +kernel
theorem dX5_kinds_68 : decode cX5_kinds 68 = .ok (.iconst 0, 1) := by decide +kernel
theorem dX5_kinds_69 : decode cX5_kinds 69 = .ok (.ior, 1) := by decide +kernel
theorem dX5_kinds_70 : decode cX5_kinds 70 = .ok (.istore 4, 2) := by decide +kernel
theorem dX5_kinds_72 : decode cX5_kinds 72 = .ok (.iinc 5 1, 3) := by decide +kernel
theorem dX5_kinds_75 : decode cX5_kinds 75 = .ok (.goto (-41), 3) := by decide +kernel
theorem dX5_kinds_78 : decode cX5_kinds 78 = .ok (.iload 4, 2) := by decide +kernel
theorem dX5_kinds_80 : decode cX5_kinds 80 = .ok (.ireturn, 1) := by decide +kernel
theorem dX5_draw_0 : decode cX5_draw 0 = .ok (.aload_n 0, 1) := by decide +kernel
theorem dX5_draw_1 : decode cX5_draw 1 = .ok (.getfield 7, 3) := by decide +kernel
theorem dX5_draw_4 : decode cX5_draw 4 = .ok (.iconst 2, 1) := by decide +kernel
theorem dX5_draw_5 : decode cX5_draw 5 = .ok (.aload_n 0, 1) := by decide +kernel
theorem dX5_draw_6 : decode cX5_draw 6 = .ok (.getfield 7, 3) := by decide +kernel
theorem dX5_draw_9 : decode cX5_draw 9 = .ok (.iconst 2, 1) := by decide +kernel
theorem dX5_draw_10 : decode cX5_draw 10 = .ok (.iaload, 1) := by decide +kernel
theorem dX5_draw_11 : decode cX5_draw 11 = .ok (.ldc 183, 2) := by decide +kernel
theorem dX5_draw_13 : decode cX5_draw 13 = .ok (.imul, 1) := by decide +kernel
theorem dX5_draw_14 : decode cX5_draw 14 = .ok (.sipush 12345, 3) := by decide +kernel
theorem dX5_draw_17 : decode cX5_draw 17 = .ok (.iadd, 1) := by decide +kernel
theorem dX5_draw_18 : decode cX5_draw 18 = .ok (.iastore, 1) := by decide +kernel
theorem dX5_draw_19 : decode cX5_draw 19 = .ok (.aload_n 0, 1) := by decide +kernel
theorem dX5_draw_20 : decode cX5_draw 20 = .ok (.getfield 7, 3) := by decide +kernel
theorem dX5_draw_23 : decode cX5_draw 23 = .ok (.iconst 2, 1) := by decide +kernel
theorem dX5_draw_24 : decode cX5_draw 24 = .ok (.iaload, 1) := by decide +kernel
theorem dX5_draw_25 : decode cX5_draw 25 = .ok (.bipush 8, 2) := by decide +kernel
theorem dX5_draw_27 : decode cX5_draw 27 = .ok (.iushr, 1) := by decide +kernel
theorem dX5_draw_28 : decode cX5_draw 28 = .ok (.ireturn, 1) := by decide +kernel
theorem dX5_come_0 : decode cX5_come 0 = .ok (.iload_n 1, 1) := by decide +kernel
theorem dX5_come_1 : decode cX5_come 1 = .ok (.i2l, 1) := by decide +kernel
theorem dX5_come_2 : decode cX5_come 2 = .ok (.lconst 1, 1) := by decide +kernel
theorem dX5_come_3 : decode cX5_come 3 = .ok (.ldc2_w 95, 3) := by decide +kernel
theorem dX5_come_6 : decode cX5_come 6 = .ok (.invokestatic 42, 3) := by decide +kernel
theorem dX5_come_9 : decode cX5_come 9 = .ok (.ifCond .ne 9, 3) := by decide +kernel
theorem dX5_come_12 : decode cX5_come 12 = .ok (.aload_n 0, 1) := by decide +kernel
theorem dX5_come_13 : decode cX5_come 13 = .ok (.iconst 0, 1) := by decide +kernel
theorem dX5_come_14 : decode cX5_come 14 = .ok (.invokevirtual 108, 3) := by decide +kernel
theorem dX5_come_17 : decode cX5_come 17 = .ok (.ireturn, 1) := by decide +kernel
theorem dX5_come_18 : decode cX5_come 18 = .ok (.aload_n 0, 1) := by decide +kernel
theorem dX5_come_19 : decode cX5_come 19 = .ok (.getfield 7, 3) := by decide +kernel
theorem dX5_come_22 : decode cX5_come 22 = .ok (.iconst 1, 1) := by decide +kernel
theorem dX5_come_23 : decode cX5_come 23 = .ok (.iaload, 1) := by decide +kernel
theorem dX5_come_24 : decode cX5_come 24 = .ok (.iload_n 1, 1) := by decide +kernel
theorem dX5_come_25 : decode cX5_come 25 = .ok (.iadd, 1) := by decide +kernel
theorem dX5_come_26 : decode cX5_come 26 = .ok (.ldc 91, 2) := by decide +kernel
theorem dX5_come_28 : decode cX5_come 28 = .ok (.if_icmp .le 9, 3) := by decide +kernel
theorem dX5_come_31 : decode cX5_come 31 = .ok (.aload_n 0, 1) := by decide +kernel
theorem dX5_come_32 : decode cX5_come 32 = .ok (.iconst 4, 1) := by decide +kernel
theorem dX5_come_33 : decode cX5_come 33 = .ok (.invokevirtual 108, 3) := by decide +kernel
theorem dX5_come_36 : decode cX5_come 36 = .ok (.ireturn, 1) := by decide +kernel
theorem dX5_come_37 : decode cX5_come 37 = .ok (.iconst 0, 1) := by decide +kernel
theorem dX5_come_38 : decode cX5_come 38 = .ok (.istore_n 2, 1) := by decide +kernel
theorem dX5_come_39 : decode cX5_come 39 = .ok (.iload_n 2, 1) := by decide +kernel
theorem dX5_come_40 : decode cX5_come 40 = .ok (.iload_n 1, 1) := by decide +kernel
theorem dX5_come_41 : decode cX5_come 41 = .ok (.if_icmp .ge 54, 3) := by decide +kernel
theorem dX5_come_44 : decode cX5_come 44 = .ok (.aload_n 0, 1) := by decide +kernel
theorem dX5_come_45 : decode cX5_come 45 = .ok (.getfield 7, 3) := by decide +kernel
theorem dX5_come_48 : decode cX5_come 48 = .ok (.bipush 7, 2) := by decide +kernel
theorem dX5_come_50 : decode cX5_come 50 = .ok (.aload_n 0, 1) := by decide +kernel
theorem dX5_come_51 : decode cX5_come 51 = .ok (.getfield 7, 3) := by decide +kernel
theorem dX5_come_54 : decode cX5_come 54 = .ok (.iconst 1, 1) := by decide +kernel
theorem dX5_come_55 : decode cX5_come 55 = .ok (.iaload, 1) := by decide +kernel
theorem dX5_come_56 : decode cX5_come 56 = .ok (.bipush 6, 2) := by decide +kernel
theorem dX5_come_58 : decode cX5_come 58 = .ok (.irem, 1) := by decide +kernel
theorem dX5_come_59 : decode cX5_come 59 = .ok (.iadd, 1) := by decide +kernel
theorem dX5_come_60 : decode cX5_come 60 = .ok (.aload_n 0, 1) := by decide +kernel
theorem dX5_come_61 : decode cX5_come 61 = .ok (.invokevirtual 184, 3) := by decide +kernel
theorem dX5_come_64 : decode cX5_come 64 = .ok (.sipush 256, 3) := by decide +kernel
theorem dX5_come_67 : decode cX5_come 67 = .ok (.irem, 1) := by decide +kernel
theorem dX5_come_68 : decode cX5_come 68 = .ok (.iastore, 1) := by decide +kernel
theorem dX5_come_69 : decode cX5_come 69 = .ok (.aload_n 0, 1) := by decide +kernel
theorem dX5_come_70 : decode cX5_come 70 = .ok (.getfield 7, 3) := by decide +kernel
theorem dX5_come_73 : decode cX5_come 73 = .ok (.bipush 6, 2) := by decide +kernel
theorem dX5_come_75 : decode cX5_come 75 = .ok (.iconst 1, 1) := by decide +kernel
theorem dX5_come_76 : decode cX5_come 76 = .ok (.aload_n 0, 1) := by decide +kernel
theorem dX5_come_77 : decode cX5_come 77 = .ok (.invokevirtual 184, 3) := by decide +kernel
theorem dX5_come_80 : decode cX5_come 80 = .ok (.bipush 12, 2) := by decide +kernel
theorem dX5_come_82 : decode cX5_come 82 = .ok (.irem, 1) := by decide +kernel
theorem dX5_come_83 : decode cX5_come 83 = .ok (.iadd, 1) := by decide +kernel
theorem dX5_come_84 : decode cX5_come 84 = .ok (.iastore, 1) := by decide +kernel
theorem dX5_come_85 : decode cX5_come 85 = .ok (.aload_n 0, 1) := by decide +kernel
theorem dX5_come_86 : decode cX5_come 86 = .ok (.invokevirtual 92, 3) := by decide +kernel
theorem dX5_come_89 : decode cX5_come 89 = .ok (.iinc 2 1, 3) := by decide +kernel
theorem dX5_come_92 : decode cX5_come 92 = .ok (.goto (-53), 3) := by decide +kernel
theorem dX5_come_95 : decode cX5_come 95 = .ok (.aload_n 0, 1) := by decide +kernel
theorem dX5_come_96 : decode cX5_come 96 = .ok (.iconst 1, 1) := by decide +kernel
theorem dX5_come_97 : decode cX5_come 97 = .ok (.invokevirtual 146, 3) := by decide +kernel
theorem dX5_come_100 : decode cX5_come 100 = .ok (.ireturn, 1) := by decide +kernel
theorem dX5_odds_0 : decode cX5_odds 0 = .ok (.aload_n 0, 1) := by decide +kernel
theorem dX5_odds_1 : decode cX5_odds 1 = .ok (.iload_n 1, 1) := by decide +kernel
theorem dX5_odds_2 : decode cX5_odds 2 = .ok (.invokevirtual 125, 3) := by decide +kernel
theorem dX5_odds_5 : decode cX5_odds 5 = .ok (.ifCond .eq 25, 3) := by decide +kernel
theorem dX5_odds_8 : decode cX5_odds 8 = .ok (.iload_n 2, 1) := by decide +kernel
theorem dX5_odds_9 : decode cX5_odds 9 = .ok (.i2l, 1) := by decide +kernel
theorem dX5_odds_10 : decode cX5_odds 10 = .ok (.lconst 0, 1) := by decide +kernel
theorem dX5_odds_11 : decode cX5_odds 11 = .ok (.ldc2_w 187, 3) := by decide +kernel
theorem dX5_odds_14 : decode cX5_odds 14 = .ok (.invokestatic 42, 3) := by decide +kernel
theorem dX5_odds_17 : decode cX5_odds 17 = .ok (.ifCond .eq 13, 3) := by decide +kernel
theorem dX5_odds_20 : decode cX5_odds 20 = .ok (.iload_n 3, 1) := by decide +kernel
theorem dX5_odds_21 : decode cX5_odds 21 = .ok (.i2l, 1) := by decide +kernel
theorem dX5_odds_22 : decode cX5_odds 22 = .ok (.lconst 0, 1) := by decide +kernel
theorem dX5_odds_23 : decode cX5_odds 23 = .ok (.lconst 1, 1) := by decide +kernel
theorem dX5_odds_24 : decode cX5_odds 24 = .ok (.invokestatic 42, 3) := by decide +kernel
theorem dX5_odds_27 : decode cX5_odds 27 = .ok (.ifCond .ne 10, 3) := by decide +kernel
theorem dX5_odds_30 : decode cX5_odds 30 = .ok (.aload_n 0, 1) := by decide +kernel
theorem dX5_odds_31 : decode cX5_odds 31 = .ok (.iconst 0, 1) := by decide +kernel
theorem dX5_odds_32 : decode cX5_odds 32 = .ok (.invokevirtual 108, 3) := by decide +kernel
theorem dX5_odds_35 : decode cX5_odds 35 = .ok (.i2l, 1) := by decide +kernel
theorem dX5_odds_36 : decode cX5_odds 36 = .ok (.lreturn, 1) := by decide +kernel
theorem dX5_odds_37 : decode cX5_odds 37 = .ok (.iconst 0, 1) := by decide +kernel
theorem dX5_odds_38 : decode cX5_odds 38 = .ok (.istore 4, 2) := by decide +kernel
theorem dX5_odds_40 : decode cX5_odds 40 = .ok (.iconst 0, 1) := by decide +kernel
theorem dX5_odds_41 : decode cX5_odds 41 = .ok (.istore 5, 2) := by decide +kernel
theorem dX5_odds_43 : decode cX5_odds 43 = .ok (.iload 5, 2) := by decide +kernel
theorem dX5_odds_45 : decode cX5_odds 45 = .ok (.sipush 256, 3) := by decide +kernel
theorem dX5_odds_48 : decode cX5_odds 48 = .ok (.if_icmp .ge 24, 3) := by decide +kernel
theorem dX5_odds_51 : decode cX5_odds 51 = .ok (.iload 4, 2) := by decide +kernel
theorem dX5_odds_53 : decode cX5_odds 53 = .ok (.aload_n 0, 1) := by decide +kernel
theorem dX5_odds_54 : decode cX5_odds 54 = .ok (.iload 5, 2) := by decide +kernel
theorem dX5_odds_56 : decode cX5_odds 56 = .ok (.invokevirtual 69, 3) := by decide +kernel
theorem dX5_odds_59 : decode cX5_odds 59 = .ok (.iload_n 1, 1) := by decide +kernel
theorem dX5_odds_60 : decode cX5_odds 60 = .ok (.ishr, 1) := by decide +kernel
theorem dX5_odds_61 : decode cX5_odds 61 = .ok (.iconst 1, 1) := by decide +kernel
theorem dX5_odds_62 : decode cX5_odds 62 = .ok (.iand, 1) := by decide +kernel
theorem dX5_odds_63 : decode cX5_odds 63 = .ok (.iadd, 1) := by decide +kernel
theorem dX5_odds_64 : decode cX5_odds 64 = .ok (.istore 4, 2) := by decide +kernel
theorem dX5_odds_66 : decode cX5_odds 66 = .ok (.iinc 5 1, 3) := by decide +kernel
theorem dX5_odds_69 : decode cX5_odds 69 = .ok (.goto (-26), 3) := by decide +kernel
theorem dX5_odds_72 : decode cX5_odds 72 = .ok (.sipush 256, 3) := by decide +kernel
theorem dX5_odds_75 : decode cX5_odds 75 = .ok (.istore 5, 2) := by decide +kernel
theorem dX5_odds_77 : decode cX5_odds 77 = .ok (.iload 4, 2) := by decide +kernel
theorem dX5_odds_79 : decode cX5_odds 79 = .ok (.iconst 2, 1) := by decide +kernel
theorem dX5_odds_80 : decode cX5_odds 80 = .ok (.irem, 1) := by decide +kernel
theorem dX5_odds_81 : decode cX5_odds 81 = .ok (.ifCond .ne 24, 3) := by decide +kernel
theorem dX5_odds_84 : decode cX5_odds 84 = .ok (.iload 5, 2) := by decide +kernel
theorem dX5_odds_86 : decode cX5_odds 86 = .ok (.iconst 1, 1) := by decide +kernel
theorem dX5_odds_87 : decode cX5_odds 87 = .ok (.if_icmp .le 18, 3) := by decide +kernel
theorem dX5_odds_90 : decode cX5_odds 90 = .ok (.iload 4, 2) := by decide +kernel
theorem dX5_odds_92 : decode cX5_odds 92 = .ok (.iconst 2, 1) := by decide +kernel
theorem dX5_odds_93 : decode cX5_odds 93 = .ok (.idiv, 1) := by decide +kernel
theorem dX5_odds_94 : decode cX5_odds 94 = .ok (.istore 4, 2) := by decide +kernel
theorem dX5_odds_96 : decode cX5_odds 96 = .ok (.iload 5, 2) := by decide +kernel
theorem dX5_odds_98 : decode cX5_odds 98 = .ok (.iconst 2, 1) := by decide +kernel
theorem dX5_odds_99 : decode cX5_odds 99 = .ok (.idiv, 1) := by decide +kernel
theorem dX5_odds_100 : decode cX5_odds 100 = .ok (.istore 5, 2) := by decide +kernel
theorem dX5_odds_102 : decode cX5_odds 102 = .ok (.goto (-25), 3) := by decide +kernel
theorem dX5_odds_105 : decode cX5_odds 105 = .ok (.lconst 1, 1) := by decide +kernel
theorem dX5_odds_106 : decode cX5_odds 106 = .ok (.lstore 6, 2) := by decide +kernel
theorem dX5_odds_108 : decode cX5_odds 108 = .ok (.iconst 0, 1) := by decide +kernel
theorem dX5_odds_109 : decode cX5_odds 109 = .ok (.istore 8, 2) := by decide +kernel
theorem dX5_odds_111 : decode cX5_odds 111 = .ok (.iload 8, 2) := by decide +kernel
theorem dX5_odds_113 : decode cX5_odds 113 = .ok (.iload_n 2, 1) := by decide +kernel
theorem dX5_odds_114 : decode cX5_odds 114 = .ok (.if_icmp .ge 27, 3) := by decide +kernel
theorem dX5_odds_117 : decode cX5_odds 117 = .ok (.lload 6, 2) := by decide +kernel
theorem dX5_odds_119 : decode cX5_odds 119 = .ok (.iload_n 3, 1) := by decide +kernel
theorem dX5_odds_120 : decode cX5_odds 120 = .ok (.ifCond .ne 9, 3) := by decide +kernel
theorem dX5_odds_123 : decode cX5_odds 123 = .ok (.iload 4, 2) := by decide +kernel
theorem dX5_odds_125 : decode cX5_odds 125 = .ok (.i2l, 1) := by decide +kernel
theorem dX5_odds_126 : decode cX5_odds 126 = .ok (.goto 6, 3) := by decide +kernel
theorem dX5_odds_129 : decode cX5_odds 129 = .ok (.iload 5, 2) := by decide +kernel
theorem dX5_odds_131 : decode cX5_odds 131 = .ok (.i2l, 1) := by decide +kernel
theorem dX5_odds_132 : decode cX5_odds 132 = .ok (.lmul, 1) := by decide +kernel
theorem dX5_odds_133 : decode cX5_odds 133 = .ok (.lstore 6, 2) := by decide +kernel
theorem dX5_odds_135 : decode cX5_odds 135 = .ok (.iinc 8 1, 3) := by decide +kernel
theorem dX5_odds_138 : decode cX5_odds 138 = .ok (.goto (-27), 3) := by decide +kernel
theorem dX5_odds_141 : decode cX5_odds 141 = .ok (.lload 6, 2) := by decide +kernel
theorem dX5_odds_143 : decode cX5_odds 143 = .ok (.lreturn, 1) := by decide +kernel
theorem dX5_seed_0 : decode cX5_seed 0 = .ok (.aload_n 0, 1) := by decide +kernel
theorem dX5_seed_1 : decode cX5_seed 1 = .ok (.iconst 2, 1) := by decide +kernel
theorem dX5_seed_2 : decode cX5_seed 2 = .ok (.iload_n 1, 1) := by decide +kernel
theorem dX5_seed_3 : decode cX5_seed 3 = .ok (.invokevirtual 105, 3) := by decide +kernel
theorem dX5_seed_6 : decode cX5_seed 6 = .ok (.ireturn, 1) := by decide +kernel
theorem dX5_feed_0 : decode cX5_feed 0 = .ok (.iload_n 2, 1) := by decide +kernel
theorem dX5_feed_1 : decode cX5_feed 1 = .ok (.i2l, 1) := by decide +kernel
theorem dX5_feed_2 : decode cX5_feed 2 = .ok (.lconst 1, 1) := by decide +kernel
theorem dX5_feed_3 : decode cX5_feed 3 = .ok (.ldc2_w 134, 3) := by decide +kernel
theorem dX5_feed_6 : decode cX5_feed 6 = .ok (.invokestatic 42, 3) := by decide +kernel
theorem dX5_feed_9 : decode cX5_feed 9 = .ok (.ifCond .ne 9, 3) := by decide +kernel
theorem dX5_feed_12 : decode cX5_feed 12 = .ok (.aload_n 0, 1) := by decide +kernel
theorem dX5_feed_13 : decode cX5_feed 13 = .ok (.iconst 0, 1) := by decide +kernel
theorem dX5_feed_14 : decode cX5_feed 14 = .ok (.invokevirtual 108, 3) := by decide +kernel
theorem dX5_feed_17 : decode cX5_feed 17 = .ok (.ireturn, 1) := by decide +kernel
theorem dX5_feed_18 : decode cX5_feed 18 = .ok (.aload_n 0, 1) := by decide +kernel
theorem dX5_feed_19 : decode cX5_feed 19 = .ok (.getfield 189, 3) := by decide +kernel
theorem dX5_feed_22 : decode cX5_feed 22 = .ok (.iload_n 2, 1) := by decide +kernel
theorem dX5_feed_23 : decode cX5_feed 23 = .ok (.iadd, 1) := by decide +kernel
theorem dX5_feed_24 : decode cX5_feed 24 = .ok (.bipush 120, 2) := by decide +kernel
theorem dX5_feed_26 : decode cX5_feed 26 = .ok (.if_icmp .le 9, 3) := by decide +kernel
theorem dX5_feed_29 : decode cX5_feed 29 = .ok (.aload_n 0, 1) := by decide +kernel
theorem dX5_feed_30 : decode cX5_feed 30 = .ok (.iconst 1, 1) := by decide +kernel
theorem dX5_feed_31 : decode cX5_feed 31 = .ok (.invokevirtual 108, 3) := by decide +kernel
theorem dX5_feed_34 : decode cX5_feed 34 = .ok (.ireturn, 1) := by decide +kernel
theorem dX5_feed_35 : decode cX5_feed 35 = .ok (.iload_n 2, 1) := by decide +kernel
theorem dX5_feed_36 : decode cX5_feed 36 = .ok (.iconst 1, 1) := by decide +kernel
theorem dX5_feed_37 : decode cX5_feed 37 = .ok (.isub, 1) := by decide +kernel
theorem dX5_feed_38 : decode cX5_feed 38 = .ok (.istore_n 3, 1) := by decide +kernel
theorem dX5_feed_39 : decode cX5_feed 39 = .ok (.iload_n 3, 1) := by decide +kernel
theorem dX5_feed_40 : decode cX5_feed 40 = .ok (.ifCond .lt 35, 3) := by decide +kernel
theorem dX5_feed_43 : decode cX5_feed 43 = .ok (.aload_n 0, 1) := by decide +kernel
theorem dX5_feed_44 : decode cX5_feed 44 = .ok (.getfield 25, 3) := by decide +kernel
theorem dX5_feed_47 : decode cX5_feed 47 = .ok (.aload_n 0, 1) := by decide +kernel
theorem dX5_feed_48 : decode cX5_feed 48 = .ok (.getfield 189, 3) := by decide +kernel
theorem dX5_feed_51 : decode cX5_feed 51 = .ok (.iload_n 1, 1) := by decide +kernel
theorem dX5_feed_52 : decode cX5_feed 52 = .ok (.bipush 8, 2) := by decide +kernel
theorem dX5_feed_54 : decode cX5_feed 54 = .ok (.iload_n 3, 1) := by decide +kernel
theorem dX5_feed_55 : decode cX5_feed 55 = .ok (.imul, 1) := by decide +kernel
theorem dX5_feed_56 : decode cX5_feed 56 = .ok (.ishr, 1) := by decide +kernel
theorem dX5_feed_57 : decode cX5_feed 57 = .ok (.i2b, 1) := by decide +kernel
theorem dX5_feed_58 : decode cX5_feed 58 = .ok (.bastore, 1) := by decide +kernel
theorem dX5_feed_59 : decode cX5_feed 59 = .ok (.aload_n 0, 1) := by decide +kernel
theorem dX5_feed_60 : decode cX5_feed 60 = .ok (.dup, 1) := by decide +kernel
theorem dX5_feed_61 : decode cX5_feed 61 = .ok (.getfield 189, 3) := by decide +kernel
theorem dX5_feed_64 : decode cX5_feed 64 = .ok (.iconst 1, 1) := by decide +kernel
theorem dX5_feed_65 : decode cX5_feed 65 = .ok (.iadd, 1) := by decide +kernel
theorem dX5_feed_66 : decode cX5_feed 66 = .ok (.putfield 189, 3) := by decide +kernel
theorem dX5_feed_69 : decode cX5_feed 69 = .ok (.iinc 3 (-1), 3) := by decide +kernel
theorem dX5_feed_72 : decode cX5_feed 72 = .ok (.goto (-33), 3) := by decide +kernel
theorem dX5_feed_75 : decode cX5_feed 75 = .ok (.aload_n 0, 1) := by decide +kernel
theorem dX5_feed_76 : decode cX5_feed 76 = .ok (.getfield 189, 3) := by decide +kernel
theorem dX5_feed_79 : decode cX5_feed 79 = .ok (.ireturn, 1) := by decide +kernel
theorem dX5_wipe_0 : decode cX5_wipe 0 = .ok (.aload_n 0, 1) := by decide +kernel
theorem dX5_wipe_1 : decode cX5_wipe 1 = .ok (.getfield 189, 3) := by decide +kernel
theorem dX5_wipe_4 : decode cX5_wipe 4 = .ok (.istore_n 1, 1) := by decide +kernel
theorem dX5_wipe_5 : decode cX5_wipe 5 = .ok (.aload_n 0, 1) := by decide +kernel
theorem dX5_wipe_6 : decode cX5_wipe 6 = .ok (.iconst 0, 1) := by decide +kernel
theorem dX5_wipe_7 : decode cX5_wipe 7 = .ok (.putfield 189, 3) := by decide +kernel
theorem dX5_wipe_10 : decode cX5_wipe 10 = .ok (.iload_n 1, 1) := by decide +kernel
theorem dX5_wipe_11 : decode cX5_wipe 11 = .ok (.ireturn, 1) := by decide +kernel
theorem dX5_letter_0 : decode cX5_letter 0 = .ok (.iload_n 0, 1) := by decide +kernel
theorem dX5_letter_1 : decode cX5_letter 1 = .ok (.bipush 97, 2) := by decide +kernel
theorem dX5_letter_3 : decode cX5_letter 3 = .ok (.if_icmp .lt 18, 3) := by decide +kernel
theorem dX5_letter_6 : decode cX5_letter 6 = .ok (.iload_n 0, 1) := by decide +kernel
theorem dX5_letter_7 : decode cX5_letter 7 = .ok (.bipush 122, 2) := by decide +kernel
theorem dX5_letter_9 : decode cX5_letter 9 = .ok (.if_icmp .gt 12, 3) := by decide +kernel
theorem dX5_letter_12 : decode cX5_letter 12 = .ok (.iload_n 0, 1) := by decide +kernel
theorem dX5_letter_13 : decode cX5_letter 13 = .ok (.bipush 97, 2) := by decide +kernel
theorem dX5_letter_15 : decode cX5_letter 15 = .ok (.isub, 1) := by decide +kernel
theorem dX5_letter_16 : decode cX5_letter 16 = .ok (.iconst 1, 1) := by decide +kernel
theorem dX5_letter_17 : decode cX5_letter 17 = .ok (.iadd, 1) := by decide +kernel
theorem dX5_letter_18 : decode cX5_letter 18 = .ok (.goto 4, 3) := by decide +kernel
theorem dX5_letter_21 : decode cX5_letter 21 = .ok (.iconst 0, 1) := by decide +kernel
theorem dX5_letter_22 : decode cX5_letter 22 = .ok (.ireturn, 1) := by decide +kernel
theorem dX5_isDigit_0 : decode cX5_isDigit 0 = .ok (.iload_n 0, 1) := by decide +kernel
theorem dX5_isDigit_1 : decode cX5_isDigit 1 = .ok (.bipush 48, 2) := by decide +kernel
theorem dX5_isDigit_3 : decode cX5_isDigit 3 = .ok (.if_icmp .lt 13, 3) := by decide +kernel
theorem dX5_isDigit_6 : decode cX5_isDigit 6 = .ok (.iload_n 0, 1) := by decide +kernel
theorem dX5_isDigit_7 : decode cX5_isDigit 7 = .ok (.bipush 57, 2) := by decide +kernel
theorem dX5_isDigit_9 : decode cX5_isDigit 9 = .ok (.if_icmp .gt 7, 3) := by decide +kernel
theorem dX5_isDigit_12 : decode cX5_isDigit 12 = .ok (.iconst 1, 1) := by decide +kernel
theorem dX5_isDigit_13 : decode cX5_isDigit 13 = .ok (.goto 4, 3) := by decide +kernel
theorem dX5_isDigit_16 : decode cX5_isDigit 16 = .ok (.iconst 0, 1) := by decide +kernel
theorem dX5_isDigit_17 : decode cX5_isDigit 17 = .ok (.ireturn, 1) := by decide +kernel
theorem dX5_byteAt_0 : decode cX5_byteAt 0 = .ok (.iload_n 1, 1) := by decide +kernel
theorem dX5_byteAt_1 : decode cX5_byteAt 1 = .ok (.aload_n 0, 1) := by decide +kernel
theorem dX5_byteAt_2 : decode cX5_byteAt 2 = .ok (.getfield 189, 3) := by decide +kernel
theorem dX5_byteAt_5 : decode cX5_byteAt 5 = .ok (.if_icmp .ge 12, 3) := by decide +kernel
theorem dX5_byteAt_8 : decode cX5_byteAt 8 = .ok (.aload_n 0, 1) := by decide +kernel
theorem dX5_byteAt_9 : decode cX5_byteAt 9 = .ok (.getfield 25, 3) := by decide +kernel
theorem dX5_byteAt_12 : decode cX5_byteAt 12 = .ok (.iload_n 1, 1) := by decide +kernel
theorem dX5_byteAt_13 : decode cX5_byteAt 13 = .ok (.baload, 1) := by decide +kernel
theorem dX5_byteAt_14 : decode cX5_byteAt 14 = .ok (.goto 4, 3) := by decide +kernel
theorem dX5_byteAt_17 : decode cX5_byteAt 17 = .ok (.iconst (-1), 1) := by decide +kernel
theorem dX5_byteAt_18 : decode cX5_byteAt 18 = .ok (.ireturn, 1) := by decide +kernel
theorem dX5_next_0 : decode cX5_next 0 = .ok (.aload_n 0, 1) := by decide +kernel
theorem dX5_next_1 : decode cX5_next 1 = .ok (.aload_n 0, 1) := by decide +kernel
theorem dX5_next_2 : decode cX5_next 2 = .ok (.getfield 193, 3) := by decide +kernel
theorem dX5_next_5 : decode cX5_next 5 = .ok (.invokevirtual 196, 3) := by decide +kernel
theorem dX5_next_8 : decode cX5_next 8 = .ok (.bipush 32, 2) := by decide +kernel
theorem dX5_next_10 : decode cX5_next 10 = .ok (.if_icmp .ne 16, 3) := by decide +kernel
theorem dX5_next_13 : decode cX5_next 13 = .ok (.aload_n 0, 1) := by decide +kernel
theorem dX5_next_14 : decode cX5_next 14 = .ok (.dup, 1) := by decide +kernel
theorem dX5_next_15 : decode cX5_next 15 = .ok (.getfield 193, 3) := by decide +kernel
theorem dX5_next_18 : decode cX5_next 18 = .ok (.iconst 1, 1) := by decide +kernel
theorem dX5_next_19 : decode cX5_next 19 = .ok (.iadd, 1) := by decide +kernel
theorem dX5_next_20 : decode cX5_next 20 = .ok (.putfield 193, 3) := by decide +kernel
theorem dX5_next_23 : decode cX5_next 23 = .ok (.goto (-23), 3) := by decide +kernel
theorem dX5_next_26 : decode cX5_next 26 = .ok (.aload_n 0, 1) := by decide +kernel
theorem dX5_next_27 : decode cX5_next 27 = .ok (.aload_n 0, 1) := by decide +kernel
theorem dX5_next_28 : decode cX5_next 28 = .ok (.getfield 193, 3) := by decide +kernel
theorem dX5_next_31 : decode cX5_next 31 = .ok (.putfield 199, 3) := by decide +kernel
theorem dX5_next_34 : decode cX5_next 34 = .ok (.aload_n 0, 1) := by decide +kernel
theorem dX5_next_35 : decode cX5_next 35 = .ok (.lconst 0, 1) := by decide +kernel
theorem dX5_next_36 : decode cX5_next 36 = .ok (.putfield 202, 3) := by decide +kernel
theorem dX5_next_39 : decode cX5_next 39 = .ok (.aload_n 0, 1) := by decide +kernel
theorem dX5_next_40 : decode cX5_next 40 = .ok (.aload_n 0, 1) := by decide +kernel
theorem dX5_next_41 : decode cX5_next 41 = .ok (.getfield 193, 3) := by decide +kernel
theorem dX5_next_44 : decode cX5_next 44 = .ok (.invokevirtual 196, 3) := by decide +kernel
theorem dX5_next_47 : decode cX5_next 47 = .ok (.istore_n 1, 1) := by decide +kernel
theorem dX5_next_48 : decode cX5_next 48 = .ok (.aload_n 0, 1) := by decide +kernel
theorem dX5_next_49 : decode cX5_next 49 = .ok (.getfield 193, 3) := by decide +kernel
theorem dX5_next_52 : decode cX5_next 52 = .ok (.aload_n 0, 1) := by decide +kernel
theorem dX5_next_53 : decode cX5_next 53 = .ok (.getfield 189, 3) := by decide +kernel
theorem dX5_next_56 : decode cX5_next 56 = .ok (.if_icmp .ne 11, 3) := by decide +kernel
theorem dX5_next_59 : decode cX5_next 59 = .ok (.aload_n 0, 1) := by decide +kernel
theorem dX5_next_60 : decode cX5_next 60 = .ok (.iconst 0, 1) := by decide +kernel
theorem dX5_next_61 : decode cX5_next 61 = .ok (.putfield 206, 3) := by decide +kernel
theorem dX5_next_64 : decode cX5_next 64 = .ok (.goto 197, 3) := by decide +kernel
theorem dX5_next_67 : decode cX5_next 67 = .ok (.iload_n 1, 1) := by decide +kernel
theorem dX5_next_68 : decode cX5_next 68 = .ok (.bipush 59, 2) := by decide +kernel
theorem dX5_next_70 : decode cX5_next 70 = .ok (.if_icmp .ne 21, 3) := by decide +kernel
theorem dX5_next_73 : decode cX5_next 73 = .ok (.aload_n 0, 1) := by decide +kernel
theorem dX5_next_74 : decode cX5_next 74 = .ok (.iconst 3, 1) := by decide +kernel
theorem dX5_next_75 : decode cX5_next 75 = .ok (.putfield 206, 3) := by decide +kernel
theorem dX5_next_78 : decode cX5_next 78 = .ok (.aload_n 0, 1) := by decide +kernel
theorem dX5_next_79 : decode cX5_next 79 = .ok (.dup, 1) := by decide +kernel
theorem dX5_next_80 : decode cX5_next 80 = .ok (.getfield 193, 3) := by decide +kernel
theorem dX5_next_83 : decode cX5_next 83 = .ok (.iconst 1, 1) := by decide +kernel
theorem dX5_next_84 : decode cX5_next 84 = .ok (.iadd, 1) := by decide +kernel
theorem dX5_next_85 : decode cX5_next 85 = .ok (.putfield 193, 3) := by decide +kernel
theorem dX5_next_88 : decode cX5_next 88 = .ok (.goto 173, 3) := by decide +kernel
theorem dX5_next_91 : decode cX5_next 91 = .ok (.iload_n 1, 1) := by decide +kernel
theorem dX5_next_92 : decode cX5_next 92 = .ok (.invokestatic 209, 3) := by decide +kernel
theorem dX5_next_95 : decode cX5_next 95 = .ok (.ifCond .le 78, 3) := by decide +kernel
theorem dX5_next_98 : decode cX5_next 98 = .ok (.aload_n 0, 1) := by decide +kernel
theorem dX5_next_99 : decode cX5_next 99 = .ok (.iconst 1, 1) := by decide +kernel
theorem dX5_next_100 : decode cX5_next 100 = .ok (.putfield 206, 3) := by decide +kernel
theorem dX5_next_103 : decode cX5_next 103 = .ok (.aload_n 0, 1) := by decide +kernel
theorem dX5_next_104 : decode cX5_next 104 = .ok (.aload_n 0, 1) := by decide +kernel
theorem dX5_next_105 : decode cX5_next 105 = .ok (.getfield 193, 3) := by decide +kernel
theorem dX5_next_108 : decode cX5_next 108 = .ok (.invokevirtual 196, 3) := by decide +kernel
theorem dX5_next_111 : decode cX5_next 111 = .ok (.invokestatic 209, 3) := by decide +kernel
theorem dX5_next_114 : decode cX5_next 114 = .ok (.ifCond .le 147, 3) := by decide +kernel
theorem dX5_next_117 : decode cX5_next 117 = .ok (.aload_n 0, 1) := by decide +kernel
theorem dX5_next_118 : decode cX5_next 118 = .ok (.aload_n 0, 1) := by decide +kernel
theorem dX5_next_119 : decode cX5_next 119 = .ok (.getfield 202, 3) := by decide +kernel
theorem dX5_next_122 : decode cX5_next 122 = .ok (.ldc2_w 212, 3) := by decide +kernel
theorem dX5_next_125 : decode cX5_next 125 = .ok (.lcmp, 1) := by decide +kernel
theorem dX5_next_126 : decode cX5_next 126 = .ok (.ifCond .le 10, 3) := by decide +kernel
theorem dX5_next_129 : decode cX5_next 129 = .ok (.aload_n 0, 1) := by decide +kernel
theorem dX5_next_130 : decode cX5_next 130 = .ok (.getfield 202, 3) := by decide +kernel
theorem dX5_next_133 : decode cX5_next 133 = .ok (.goto 24, 3) := by decide +kernel
theorem dX5_next_136 : decode cX5_next 136 = .ok (.aload_n 0, 1) := by decide +kernel
theorem dX5_next_137 : decode cX5_next 137 = .ok (.getfield 202, 3) := by decide +kernel
theorem dX5_next_140 : decode cX5_next 140 = .ok (.ldc2_w 214, 3) := by decide +kernel
theorem dX5_next_143 : decode cX5_next 143 = .ok (.lmul, 1) := by decide +kernel
theorem dX5_next_144 : decode cX5_next 144 = .ok (.aload_n 0, 1) := by decide +kernel
theorem dX5_next_145 : decode cX5_next 145 = .ok (.aload_n 0, 1) := by decide +kernel
theorem dX5_next_146 : decode cX5_next 146 = .ok (.getfield 193, 3) := by decide +kernel
theorem dX5_next_149 : decode cX5_next 149 = .ok (.invokevirtual 196, 3) := by decide +kernel
theorem dX5_next_152 : decode cX5_next 152 = .ok (.invokestatic 209, 3) := by decide +kernel
theorem dX5_next_155 : decode cX5_next 155 = .ok (.i2l, 1) := by decide +kernel
theorem dX5_next_156 : decode cX5_next 156 = .ok (.ladd, 1) := by decide +kernel
theorem dX5_next_157 : decode cX5_next 157 = .ok (.putfield 202, 3) := by decide +kernel
theorem dX5_next_160 : decode cX5_next 160 = .ok (.aload_n 0, 1) := by decide +kernel
theorem dX5_next_161 : decode cX5_next 161 = .ok (.dup, 1) := by decide +kernel
theorem dX5_next_162 : decode cX5_next 162 = .ok (.getfield 193, 3) := by decide +kernel
theorem dX5_next_165 : decode cX5_next 165 = .ok (.iconst 1, 1) := by decide +kernel
theorem dX5_next_166 : decode cX5_next 166 = .ok (.iadd, 1) := by decide +kernel
theorem dX5_next_167 : decode cX5_next 167 = .ok (.putfield 193, 3) := by decide +kernel
theorem dX5_next_170 : decode cX5_next 170 = .ok (.goto (-67), 3) := by decide +kernel
theorem dX5_next_173 : decode cX5_next 173 = .ok (.iload_n 1, 1) := by decide +kernel
theorem dX5_next_174 : decode cX5_next 174 = .ok (.invokestatic 216, 3) := by decide +kernel
theorem dX5_next_177 : decode cX5_next 177 = .ok (.ifCond .eq 79, 3) := by decide +kernel
theorem dX5_next_180 : decode cX5_next 180 = .ok (.aload_n 0, 1) := by decide +kernel
theorem dX5_next_181 : decode cX5_next 181 = .ok (.iconst 2, 1) := by decide +kernel
theorem dX5_next_182 : decode cX5_next 182 = .ok (.putfield 206, 3) := by decide +kernel
theorem dX5_next_185 : decode cX5_next 185 = .ok (.aload_n 0, 1) := by decide +kernel
theorem dX5_next_186 : decode cX5_next 186 = .ok (.aload_n 0, 1) := by decide +kernel
theorem dX5_next_187 : decode cX5_next 187 = .ok (.getfield 193, 3) := by decide +kernel
theorem dX5_next_190 : decode cX5_next 190 = .ok (.invokevirtual 196, 3) := by decide +kernel
theorem dX5_next_193 : decode cX5_next 193 = .ok (.invokestatic 216, 3) := by decide +kernel
theorem dX5_next_196 : decode cX5_next 196 = .ok (.ifCond .eq 65, 3) := by decide +kernel
theorem dX5_next_199 : decode cX5_next 199 = .ok (.aload_n 0, 1) := by decide +kernel
theorem dX5_next_200 : decode cX5_next 200 = .ok (.aload_n 0, 1) := by decide +kernel
theorem dX5_next_201 : decode cX5_next 201 = .ok (.getfield 202, 3) := by decide +kernel
theorem dX5_next_204 : decode cX5_next 204 = .ok (.ldc2_w 132, 3) := by decide +kernel
theorem dX5_next_207 : decode cX5_next 207 = .ok (.lcmp, 1) := by decide +kernel
theorem dX5_next_208 : decode cX5_next 208 = .ok (.ifCond .le 10, 3) := by decide +kernel
theorem dX5_next_211 : decode cX5_next 211 = .ok (.aload_n 0, 1) := by decide +kernel
theorem dX5_next_212 : decode cX5_next 212 = .ok (.getfield 202, 3) := by decide +kernel
theorem dX5_next_215 : decode cX5_next 215 = .ok (.goto 25, 3) := by decide +kernel
theorem dX5_next_218 : decode cX5_next 218 = .ok (.aload_n 0, 1) := by decide +kernel
theorem dX5_next_219 : decode cX5_next 219 = .ok (.getfield 202, 3) := by decide +kernel
theorem dX5_next_222 : decode cX5_next 222 = .ok (.ldc2_w 219, 3) := by decide +kernel
theorem dX5_next_225 : decode cX5_next 225 = .ok (.lmul, 1) := by decide +kernel
theorem dX5_next_226 : decode cX5_next 226 = .ok (.aload_n 0, 1) := by decide +kernel
theorem dX5_next_227 : decode cX5_next 227 = .ok (.aload_n 0, 1) := by decide +kernel
theorem dX5_next_228 : decode cX5_next 228 = .ok (.getfield 193, 3) := by decide +kernel
theorem dX5_next_231 : decode cX5_next 231 = .ok (.invokevirtual 196, 3) := by decide +kernel
theorem dX5_next_234 : decode cX5_next 234 = .ok (.i2l, 1) := by decide +kernel
theorem dX5_next_235 : decode cX5_next 235 = .ok (.ladd, 1) := by decide +kernel
theorem dX5_next_236 : decode cX5_next 236 = .ok (.ldc2_w 221, 3) := by decide +kernel
theorem dX5_next_239 : decode cX5_next 239 = .ok (.lsub, 1) := by decide +kernel
theorem dX5_next_240 : decode cX5_next 240 = .ok (.putfield 202, 3) := by decide +kernel
theorem dX5_next_243 : decode cX5_next 243 = .ok (.aload_n 0, 1) := by decide +kernel
theorem dX5_next_244 : decode cX5_next 244 = .ok (.dup, 1) := by decide +kernel
theorem dX5_next_245 : decode cX5_next 245 = .ok (.getfield 193, 3) := by decide +kernel
theorem dX5_next_248 : decode cX5_next 248 = .ok (.iconst 1, 1) := by decide +kernel
theorem dX5_next_249 : decode cX5_next 249 = .ok (.iadd, 1) := by decide +kernel
theorem dX5_next_250 : decode cX5_next 250 = .ok (.putfield 193, 3) := by decide +kernel
theorem dX5_next_253 : decode cX5_next 253 = .ok (.goto (-68), 3) := by decide +kernel
theorem dX5_next_256 : decode cX5_next 256 = .ok (.aload_n 0, 1) := by decide +kernel
theorem dX5_next_257 : decode cX5_next 257 = .ok (.iconst 4, 1) := by decide +kernel
theorem dX5_next_258 : decode cX5_next 258 = .ok (.putfield 206, 3) := by decide +kernel
theorem dX5_next_261 : decode cX5_next 261 = .ok (.return_, 1) := by decide +kernel
theorem dX5_wrongHere_0 : decode cX5_wrongHere 0 = .ok (.aload_n 0, 1) := by decide +kernel
theorem dX5_wrongHere_1 : decode cX5_wrongHere 1 = .ok (.aload_n 0, 1) := by decide +kernel
theorem dX5_wrongHere_2 : decode cX5_wrongHere 2 = .ok (.getfield 223, 3) := by decide +kernel
theorem dX5_wrongHere_5 : decode cX5_wrongHere 5 = .ok (.ifCond .ge 10, 3) := by decide +kernel
theorem dX5_wrongHere_8 : decode cX5_wrongHere 8 = .ok (.aload_n 0, 1) := by decide +kernel
theorem dX5_wrongHere_9 : decode cX5_wrongHere 9 = .ok (.getfield 199, 3) := by decide +kernel
theorem dX5_wrongHere_12 : decode cX5_wrongHere 12 = .ok (.goto 7, 3) := by decide +kernel
theorem dX5_wrongHere_15 : decode cX5_wrongHere 15 = .ok (.aload_n 0, 1) := by decide +kernel
theorem dX5_wrongHere_16 : decode cX5_wrongHere 16 = .ok (.getfield 223, 3) := by decide +kernel
theorem dX5_wrongHere_19 : decode cX5_wrongHere 19 = .ok (.putfield 223, 3) := by decide +kernel
theorem dX5_wrongHere_22 : decode cX5_wrongHere 22 = .ok (.return_, 1) := by decide +kernel
theorem dX5_isWord_0 : decode cX5_isWord 0 = .ok (.aload_n 0, 1) := by decide +kernel
theorem dX5_isWord_1 : decode cX5_isWord 1 = .ok (.getfield 206, 3) := by decide +kernel
theorem dX5_isWord_4 : decode cX5_isWord 4 = .ok (.iconst 1, 1) := by decide +kernel
theorem dX5_isWord_5 : decode cX5_isWord 5 = .ok (.if_icmp .ne 16, 3) := by decide +kernel
theorem dX5_isWord_8 : decode cX5_isWord 8 = .ok (.aload_n 0, 1) := by decide +kernel
theorem dX5_isWord_9 : decode cX5_isWord 9 = .ok (.getfield 202, 3) := by decide +kernel
theorem dX5_isWord_12 : decode cX5_isWord 12 = .ok (.lload_n 1, 1) := by decide +kernel
theorem dX5_isWord_13 : decode cX5_isWord 13 = .ok (.lcmp, 1) := by decide +kernel
theorem dX5_isWord_14 : decode cX5_isWord 14 = .ok (.ifCond .ne 7, 3) := by decide +kernel
theorem dX5_isWord_17 : decode cX5_isWord 17 = .ok (.iconst 1, 1) := by decide +kernel
theorem dX5_isWord_18 : decode cX5_isWord 18 = .ok (.goto 4, 3) := by decide +kernel
theorem dX5_isWord_21 : decode cX5_isWord 21 = .ok (.iconst 0, 1) := by decide +kernel
theorem dX5_isWord_22 : decode cX5_isWord 22 = .ok (.ireturn, 1) := by decide +kernel
theorem dX5_kindHere_0 : decode cX5_kindHere 0 = .ok (.aload_n 0, 1) := by decide +kernel
theorem dX5_kindHere_1 : decode cX5_kindHere 1 = .ok (.ldc2_w 226, 3) := by decide +kernel
theorem dX5_kindHere_4 : decode cX5_kindHere 4 = .ok (.invokevirtual 228, 3) := by decide +kernel
theorem dX5_kindHere_7 : decode cX5_kindHere 7 = .ok (.ifCond .eq 7, 3) := by decide +kernel
theorem dX5_kindHere_10 : decode cX5_kindHere 10 = .ok (.iconst 0, 1) := by decide +kernel
theorem dX5_kindHere_11 : decode cX5_kindHere 11 = .ok (.goto 89, 3) := by decide +kernel
theorem dX5_kindHere_14 : decode cX5_kindHere 14 = .ok (.aload_n 0, 1) := by decide +kernel
theorem dX5_kindHere_15 : decode cX5_kindHere 15 = .ok (.ldc2_w 232, 3) := by decide +kernel
theorem dX5_kindHere_18 : decode cX5_kindHere 18 = .ok (.invokevirtual 228, 3) := by decide +kernel
theorem dX5_kindHere_21 : decode cX5_kindHere 21 = .ok (.ifCond .eq 7, 3) := by decide +kernel
theorem dX5_kindHere_24 : decode cX5_kindHere 24 = .ok (.iconst 1, 1) := by decide +kernel
theorem dX5_kindHere_25 : decode cX5_kindHere 25 = .ok (.goto 75, 3) := by decide +kernel
theorem dX5_kindHere_28 : decode cX5_kindHere 28 = .ok (.aload_n 0, 1) := by decide +kernel
theorem dX5_kindHere_29 : decode cX5_kindHere 29 = .ok (.ldc2_w 234, 3) := by decide +kernel
theorem dX5_kindHere_32 : decode cX5_kindHere 32 = .ok (.invokevirtual 228, 3) := by decide +kernel
theorem dX5_kindHere_35 : decode cX5_kindHere 35 = .ok (.ifCond .eq 7, 3) := by decide +kernel
theorem dX5_kindHere_38 : decode cX5_kindHere 38 = .ok (.iconst 2, 1) := by decide +kernel
theorem dX5_kindHere_39 : decode cX5_kindHere 39 = .ok (.goto 61, 3) := by decide +kernel
theorem dX5_kindHere_42 : decode cX5_kindHere 42 = .ok (.aload_n 0, 1) := by decide +kernel
theorem dX5_kindHere_43 : decode cX5_kindHere 43 = .ok (.ldc2_w 236, 3) := by decide +kernel
theorem dX5_kindHere_46 : decode cX5_kindHere 46 = .ok (.invokevirtual 228, 3) := by decide +kernel
theorem dX5_kindHere_49 : decode cX5_kindHere 49 = .ok (.ifCond .eq 7, 3) := by decide +kernel
theorem dX5_kindHere_52 : decode cX5_kindHere 52 = .ok (.iconst 3, 1) := by decide +kernel
theorem dX5_kindHere_53 : decode cX5_kindHere 53 = .ok (.goto 47, 3) := by decide +kernel
theorem dX5_kindHere_56 : decode cX5_kindHere 56 = .ok (.aload_n 0, 1) := by decide +kernel
theorem dX5_kindHere_57 : decode cX5_kindHere 57 = .ok (.ldc2_w 238, 3) := by decide +kernel
theorem dX5_kindHere_60 : decode cX5_kindHere 60 = .ok (.invokevirtual 228, 3) := by decide +kernel
theorem dX5_kindHere_63 : decode cX5_kindHere 63 = .ok (.ifCond .eq 7, 3) := by decide +kernel
theorem dX5_kindHere_66 : decode cX5_kindHere 66 = .ok (.iconst 4, 1) := by decide +kernel
theorem dX5_kindHere_67 : decode cX5_kindHere 67 = .ok (.goto 33, 3) := by decide +kernel
theorem dX5_kindHere_70 : decode cX5_kindHere 70 = .ok (.aload_n 0, 1) := by decide +kernel
theorem dX5_kindHere_71 : decode cX5_kindHere 71 = .ok (.ldc2_w 240, 3) := by decide +kernel
theorem dX5_kindHere_74 : decode cX5_kindHere 74 = .ok (.invokevirtual 228, 3) := by decide +kernel
theorem dX5_kindHere_77 : decode cX5_kindHere 77 = .ok (.ifCond .eq 7, 3) := by decide +kernel
theorem dX5_kindHere_80 : decode cX5_kindHere 80 = .ok (.iconst 5, 1) := by decide +kernel
theorem dX5_kindHere_81 : decode cX5_kindHere 81 = .ok (.goto 19, 3) := by decide +kernel
theorem dX5_kindHere_84 : decode cX5_kindHere 84 = .ok (.aload_n 0, 1) := by decide +kernel
theorem dX5_kindHere_85 : decode cX5_kindHere 85 = .ok (.ldc2_w 242, 3) := by decide +kernel
theorem dX5_kindHere_88 : decode cX5_kindHere 88 = .ok (.invokevirtual 228, 3) := by decide +kernel
theorem dX5_kindHere_91 : decode cX5_kindHere 91 = .ok (.ifCond .eq 8, 3) := by decide +kernel
theorem dX5_kindHere_94 : decode cX5_kindHere 94 = .ok (.bipush 6, 2) := by decide +kernel
theorem dX5_kindHere_96 : decode cX5_kindHere 96 = .ok (.goto 4, 3) := by decide +kernel
theorem dX5_kindHere_99 : decode cX5_kindHere 99 = .ok (.iconst (-1), 1) := by decide +kernel
theorem dX5_kindHere_100 : decode cX5_kindHere 100 = .ok (.ireturn, 1) := by decide +kernel
theorem dX5_setHere_0 : decode cX5_setHere 0 = .ok (.aload_n 0, 1) := by decide +kernel
theorem dX5_setHere_1 : decode cX5_setHere 1 = .ok (.ldc2_w 244, 3) := by decide +kernel
theorem dX5_setHere_4 : decode cX5_setHere 4 = .ok (.invokevirtual 228, 3) := by decide +kernel
theorem dX5_setHere_7 : decode cX5_setHere 7 = .ok (.ifCond .eq 7, 3) := by decide +kernel
theorem dX5_setHere_10 : decode cX5_setHere 10 = .ok (.iconst 0, 1) := by decide +kernel
theorem dX5_setHere_11 : decode cX5_setHere 11 = .ok (.goto 46, 3) := by decide +kernel
theorem dX5_setHere_14 : decode cX5_setHere 14 = .ok (.aload_n 0, 1) := by decide +kernel
theorem dX5_setHere_15 : decode cX5_setHere 15 = .ok (.ldc2_w 246, 3) := by decide +kernel
theorem dX5_setHere_18 : decode cX5_setHere 18 = .ok (.invokevirtual 228, 3) := by decide +kernel
theorem dX5_setHere_21 : decode cX5_setHere 21 = .ok (.ifCond .eq 7, 3) := by decide +kernel
theorem dX5_setHere_24 : decode cX5_setHere 24 = .ok (.iconst 1, 1) := by decide +kernel
theorem dX5_setHere_25 : decode cX5_setHere 25 = .ok (.goto 32, 3) := by decide +kernel
theorem dX5_setHere_28 : decode cX5_setHere 28 = .ok (.aload_n 0, 1) := by decide +kernel
theorem dX5_setHere_29 : decode cX5_setHere 29 = .ok (.ldc2_w 248, 3) := by decide +kernel
theorem dX5_setHere_32 : decode cX5_setHere 32 = .ok (.invokevirtual 228, 3) := by decide +kernel
theorem dX5_setHere_35 : decode cX5_setHere 35 = .ok (.ifCond .eq 7, 3) := by decide +kernel
theorem dX5_setHere_38 : decode cX5_setHere 38 = .ok (.iconst 2, 1) := by decide +kernel
theorem dX5_setHere_39 : decode cX5_setHere 39 = .ok (.goto 18, 3) := by decide +kernel
theorem dX5_setHere_42 : decode cX5_setHere 42 = .ok (.aload_n 0, 1) := by decide +kernel
theorem dX5_setHere_43 : decode cX5_setHere 43 = .ok (.ldc2_w 250, 3) := by decide +kernel
theorem dX5_setHere_46 : decode cX5_setHere 46 = .ok (.invokevirtual 228, 3) := by decide +kernel
theorem dX5_setHere_49 : decode cX5_setHere 49 = .ok (.ifCond .eq 7, 3) := by decide +kernel
theorem dX5_setHere_52 : decode cX5_setHere 52 = .ok (.iconst 3, 1) := by decide +kernel
theorem dX5_setHere_53 : decode cX5_setHere 53 = .ok (.goto 4, 3) := by decide +kernel
theorem dX5_setHere_56 : decode cX5_setHere 56 = .ok (.iconst (-1), 1) := by decide +kernel
theorem dX5_setHere_57 : decode cX5_setHere 57 = .ok (.ireturn, 1) := by decide +kernel
theorem dX5_numberHere_0 : decode cX5_numberHere 0 = .ok (.aload_n 0, 1) := by decide +kernel
theorem dX5_numberHere_1 : decode cX5_numberHere 1 = .ok (.getfield 202, 3) := by decide +kernel
theorem dX5_numberHere_4 : decode cX5_numberHere 4 = .ok (.l2i, 1) := by decide +kernel
theorem dX5_numberHere_5 : decode cX5_numberHere 5 = .ok (.istore_n 3, 1) := by decide +kernel
theorem dX5_numberHere_6 : decode cX5_numberHere 6 = .ok (.aload_n 0, 1) := by decide +kernel
theorem dX5_numberHere_7 : decode cX5_numberHere 7 = .ok (.getfield 206, 3) := by decide +kernel
theorem dX5_numberHere_10 : decode cX5_numberHere 10 = .ok (.iconst 2, 1) := by decide +kernel
theorem dX5_numberHere_11 : decode cX5_numberHere 11 = .ok (.if_icmp .ne 17, 3) := by decide +kernel
theorem dX5_numberHere_14 : decode cX5_numberHere 14 = .ok (.aload_n 0, 1) := by decide +kernel
theorem dX5_numberHere_15 : decode cX5_numberHere 15 = .ok (.getfield 202, 3) := by decide +kernel
theorem dX5_numberHere_18 : decode cX5_numberHere 18 = .ok (.iload_n 1, 1) := by decide +kernel
theorem dX5_numberHere_19 : decode cX5_numberHere 19 = .ok (.i2l, 1) := by decide +kernel
theorem dX5_numberHere_20 : decode cX5_numberHere 20 = .ok (.iload_n 2, 1) := by decide +kernel
theorem dX5_numberHere_21 : decode cX5_numberHere 21 = .ok (.i2l, 1) := by decide +kernel
theorem dX5_numberHere_22 : decode cX5_numberHere 22 = .ok (.invokestatic 42, 3) := by decide +kernel
theorem dX5_numberHere_25 : decode cX5_numberHere 25 = .ok (.ifCond .ne 9, 3) := by decide +kernel
theorem dX5_numberHere_28 : decode cX5_numberHere 28 = .ok (.aload_n 0, 1) := by decide +kernel
theorem dX5_numberHere_29 : decode cX5_numberHere 29 = .ok (.invokevirtual 252, 3) := by decide +kernel
theorem dX5_numberHere_32 : decode cX5_numberHere 32 = .ok (.iconst 0, 1) := by decide +kernel
theorem dX5_numberHere_33 : decode cX5_numberHere 33 = .ok (.ireturn, 1) := by decide +kernel
theorem dX5_numberHere_34 : decode cX5_numberHere 34 = .ok (.aload_n 0, 1) := by decide +kernel
theorem dX5_numberHere_35 : decode cX5_numberHere 35 = .ok (.invokevirtual 255, 3) := by decide +kernel
theorem dX5_numberHere_38 : decode cX5_numberHere 38 = .ok (.iload_n 3, 1) := by decide +kernel
theorem dX5_numberHere_39 : decode cX5_numberHere 39 = .ok (.ireturn, 1) := by decide +kernel
theorem dX5_perhaps_0 : decode cX5_perhaps 0 = .ok (.aload_n 0, 1) := by decide +kernel
theorem dX5_perhaps_1 : decode cX5_perhaps 1 = .ok (.getfield 223, 3) := by decide +kernel
theorem dX5_perhaps_4 : decode cX5_perhaps 4 = .ok (.ifCond .ge 40, 3) := by decide +kernel
theorem dX5_perhaps_7 : decode cX5_perhaps 7 = .ok (.aload_n 0, 1) := by decide +kernel
theorem dX5_perhaps_8 : decode cX5_perhaps 8 = .ok (.lload_n 1, 1) := by decide +kernel
theorem dX5_perhaps_9 : decode cX5_perhaps 9 = .ok (.invokevirtual 228, 3) := by decide +kernel
theorem dX5_perhaps_12 : decode cX5_perhaps 12 = .ok (.ifCond .eq 32, 3) := by decide +kernel
theorem dX5_perhaps_15 : decode cX5_perhaps 15 = .ok (.aload_n 0, 1) := by decide +kernel
theorem dX5_perhaps_16 : decode cX5_perhaps 16 = .ok (.invokevirtual 255, 3) := by decide +kernel
theorem dX5_perhaps_19 : decode cX5_perhaps 19 = .ok (.aload_n 0, 1) := by decide +kernel
theorem dX5_perhaps_20 : decode cX5_perhaps 20 = .ok (.iconst 0, 1) := by decide +kernel
theorem dX5_perhaps_21 : decode cX5_perhaps 21 = .ok (.iload 5, 2) := by decide +kernel
theorem dX5_perhaps_23 : decode cX5_perhaps 23 = .ok (.invokevirtual 258, 3) := by decide +kernel
theorem dX5_perhaps_26 : decode cX5_perhaps 26 = .ok (.istore 6, 2) := by decide +kernel
theorem dX5_perhaps_28 : decode cX5_perhaps 28 = .ok (.aload_n 0, 1) := by decide +kernel
theorem dX5_perhaps_29 : decode cX5_perhaps 29 = .ok (.getfield 223, 3) := by decide +kernel
theorem dX5_perhaps_32 : decode cX5_perhaps 32 = .ok (.ifCond .ge 12, 3) := by decide +kernel
theorem dX5_perhaps_35 : decode cX5_perhaps 35 = .ok (.aload_n 0, 1) := by decide +kernel
theorem dX5_perhaps_36 : decode cX5_perhaps 36 = .ok (.iload_n 3, 1) := by decide +kernel
theorem dX5_perhaps_37 : decode cX5_perhaps 37 = .ok (.iload 4, 2) := by decide +kernel
theorem dX5_perhaps_39 : decode cX5_perhaps 39 = .ok (.iload 6, 2) := by decide +kernel
theorem dX5_perhaps_41 : decode cX5_perhaps 41 = .ok (.invokevirtual 87, 3) := by decide +kernel
theorem dX5_perhaps_44 : decode cX5_perhaps 44 = .ok (.return_, 1) := by decide +kernel
theorem dX5_residentHere_0 : decode cX5_residentHere 0 = .ok (.aload_n 0, 1) := by decide +kernel
theorem dX5_residentHere_1 : decode cX5_residentHere 1 = .ok (.getfield 7, 3) := by decide +kernel
theorem dX5_residentHere_4 : decode cX5_residentHere 4 = .ok (.iconst 0, 1) := by decide +kernel
theorem dX5_residentHere_5 : decode cX5_residentHere 5 = .ok (.iaload, 1) := by decide +kernel
theorem dX5_residentHere_6 : decode cX5_residentHere 6 = .ok (.bipush 8, 2) := by decide +kernel
theorem dX5_residentHere_8 : decode cX5_residentHere 8 = .ok (.if_icmp .ne 8, 3) := by decide +kernel
theorem dX5_residentHere_11 : decode cX5_residentHere 11 = .ok (.aload_n 0, 1) := by decide +kernel
theorem dX5_residentHere_12 : decode cX5_residentHere 12 = .ok (.invokevirtual 252, 3) := by decide +kernel
theorem dX5_residentHere_15 : decode cX5_residentHere 15 = .ok (.return_, 1) := by decide +kernel
theorem dX5_residentHere_16 : decode cX5_residentHere 16 = .ok (.aload_n 0, 1) := by decide +kernel
theorem dX5_residentHere_17 : decode cX5_residentHere 17 = .ok (.invokevirtual 255, 3) := by decide +kernel
theorem dX5_residentHere_20 : decode cX5_residentHere 20 = .ok (.aload_n 0, 1) := by decide +kernel
theorem dX5_residentHere_21 : decode cX5_residentHere 21 = .ok (.iload_n 1, 1) := by decide +kernel
theorem dX5_residentHere_22 : decode cX5_residentHere 22 = .ok (.invokevirtual 122, 3) := by decide +kernel
theorem dX5_residentHere_25 : decode cX5_residentHere 25 = .ok (.istore_n 2, 1) := by decide +kernel
theorem dX5_residentHere_26 : decode cX5_residentHere 26 = .ok (.aload_n 0, 1) := by decide +kernel
theorem dX5_residentHere_27 : decode cX5_residentHere 27 = .ok (.ldc2_w 261, 3) := by decide +kernel
theorem dX5_residentHere_30 : decode cX5_residentHere 30 = .ok (.iload_n 2, 1) := by decide +kernel
theorem dX5_residentHere_31 : decode cX5_residentHere 31 = .ok (.iconst 1, 1) := by decide +kernel
theorem dX5_residentHere_32 : decode cX5_residentHere 32 = .ok (.bipush 99, 2) := by decide +kernel
theorem dX5_residentHere_34 : decode cX5_residentHere 34 = .ok (.invokevirtual 263, 3) := by decide +kernel
theorem dX5_residentHere_37 : decode cX5_residentHere 37 = .ok (.aload_n 0, 1) := by decide +kernel
theorem dX5_residentHere_38 : decode cX5_residentHere 38 = .ok (.ldc2_w 267, 3) := by decide +kernel
theorem dX5_residentHere_41 : decode cX5_residentHere 41 = .ok (.iload_n 2, 1) := by decide +kernel
theorem dX5_residentHere_42 : decode cX5_residentHere 42 = .ok (.iconst 2, 1) := by decide +kernel
theorem dX5_residentHere_43 : decode cX5_residentHere 43 = .ok (.iload_n 2, 1) := by decide +kernel
theorem dX5_residentHere_44 : decode cX5_residentHere 44 = .ok (.iconst 1, 1) := by decide +kernel
theorem dX5_residentHere_45 : decode cX5_residentHere 45 = .ok (.isub, 1) := by decide +kernel
theorem dX5_residentHere_46 : decode cX5_residentHere 46 = .ok (.invokevirtual 263, 3) := by decide +kernel
theorem dX5_residentHere_49 : decode cX5_residentHere 49 = .ok (.aload_n 0, 1) := by decide +kernel
theorem dX5_residentHere_50 : decode cX5_residentHere 50 = .ok (.ldc2_w 269, 3) := by decide +kernel
theorem dX5_residentHere_53 : decode cX5_residentHere 53 = .ok (.iload_n 2, 1) := by decide +kernel
theorem dX5_residentHere_54 : decode cX5_residentHere 54 = .ok (.iconst 3, 1) := by decide +kernel
theorem dX5_residentHere_55 : decode cX5_residentHere 55 = .ok (.sipush 9999, 3) := by decide +kernel
theorem dX5_residentHere_58 : decode cX5_residentHere 58 = .ok (.invokevirtual 263, 3) := by decide +kernel
theorem dX5_residentHere_61 : decode cX5_residentHere 61 = .ok (.return_, 1) := by decide +kernel
theorem dX5_visitsHere_0 : decode cX5_visitsHere 0 = .ok (.aload_n 0, 1) := by decide +kernel
theorem dX5_visitsHere_1 : decode cX5_visitsHere 1 = .ok (.invokevirtual 255, 3) := by decide +kernel
theorem dX5_visitsHere_4 : decode cX5_visitsHere 4 = .ok (.aload_n 0, 1) := by decide +kernel
theorem dX5_visitsHere_5 : decode cX5_visitsHere 5 = .ok (.iconst 0, 1) := by decide +kernel
theorem dX5_visitsHere_6 : decode cX5_visitsHere 6 = .ok (.iconst 5, 1) := by decide +kernel
theorem dX5_visitsHere_7 : decode cX5_visitsHere 7 = .ok (.invokevirtual 258, 3) := by decide +kernel
theorem dX5_visitsHere_10 : decode cX5_visitsHere 10 = .ok (.istore_n 1, 1) := by decide +kernel
theorem dX5_visitsHere_11 : decode cX5_visitsHere 11 = .ok (.aload_n 0, 1) := by decide +kernel
theorem dX5_visitsHere_12 : decode cX5_visitsHere 12 = .ok (.getfield 223, 3) := by decide +kernel
theorem dX5_visitsHere_15 : decode cX5_visitsHere 15 = .ok (.ifCond .ge 14, 3) := by decide +kernel
theorem dX5_visitsHere_18 : decode cX5_visitsHere 18 = .ok (.aload_n 0, 1) := by decide +kernel
theorem dX5_visitsHere_19 : decode cX5_visitsHere 19 = .ok (.iconst 0, 1) := by decide +kernel
theorem dX5_visitsHere_20 : decode cX5_visitsHere 20 = .ok (.sipush 255, 3) := by decide +kernel
theorem dX5_visitsHere_23 : decode cX5_visitsHere 23 = .ok (.invokevirtual 258, 3) := by decide +kernel
theorem dX5_visitsHere_26 : decode cX5_visitsHere 26 = .ok (.goto 4, 3) := by decide +kernel
theorem dX5_visitsHere_29 : decode cX5_visitsHere 29 = .ok (.iconst 0, 1) := by decide +kernel
theorem dX5_visitsHere_30 : decode cX5_visitsHere 30 = .ok (.istore_n 2, 1) := by decide +kernel
theorem dX5_visitsHere_31 : decode cX5_visitsHere 31 = .ok (.aload_n 0, 1) := by decide +kernel
theorem dX5_visitsHere_32 : decode cX5_visitsHere 32 = .ok (.getfield 223, 3) := by decide +kernel
theorem dX5_visitsHere_35 : decode cX5_visitsHere 35 = .ok (.ifCond .ge 13, 3) := by decide +kernel
theorem dX5_visitsHere_38 : decode cX5_visitsHere 38 = .ok (.aload_n 0, 1) := by decide +kernel
theorem dX5_visitsHere_39 : decode cX5_visitsHere 39 = .ok (.getfield 7, 3) := by decide +kernel
theorem dX5_visitsHere_42 : decode cX5_visitsHere 42 = .ok (.bipush 7, 2) := by decide +kernel
theorem dX5_visitsHere_44 : decode cX5_visitsHere 44 = .ok (.iload_n 1, 1) := by decide +kernel
theorem dX5_visitsHere_45 : decode cX5_visitsHere 45 = .ok (.iadd, 1) := by decide +kernel
theorem dX5_visitsHere_46 : decode cX5_visitsHere 46 = .ok (.iload_n 2, 1) := by decide +kernel
theorem dX5_visitsHere_47 : decode cX5_visitsHere 47 = .ok (.iastore, 1) := by decide +kernel
theorem dX5_visitsHere_48 : decode cX5_visitsHere 48 = .ok (.return_, 1) := by decide +kernel
theorem dX5_item_0 : decode cX5_item 0 = .ok (.aload_n 0, 1) := by decide +kernel
theorem dX5_item_1 : decode cX5_item 1 = .ok (.invokevirtual 271, 3) := by decide +kernel
theorem dX5_item_4 : decode cX5_item 4 = .ok (.istore_n 1, 1) := by decide +kernel
theorem dX5_item_5 : decode cX5_item 5 = .ok (.aload_n 0, 1) := by decide +kernel
theorem dX5_item_6 : decode cX5_item 6 = .ok (.invokevirtual 274, 3) := by decide +kernel
theorem dX5_item_9 : decode cX5_item 9 = .ok (.istore_n 2, 1) := by decide +kernel
theorem dX5_item_10 : decode cX5_item 10 = .ok (.iload_n 1, 1) := by decide +kernel
theorem dX5_item_11 : decode cX5_item 11 = .ok (.ifCond .lt 11, 3) := by decide +kernel
theorem dX5_item_14 : decode cX5_item 14 = .ok (.aload_n 0, 1) := by decide +kernel
theorem dX5_item_15 : decode cX5_item 15 = .ok (.iload_n 1, 1) := by decide +kernel
theorem dX5_item_16 : decode cX5_item 16 = .ok (.invokevirtual 277, 3) := by decide +kernel
theorem dX5_item_19 : decode cX5_item 19 = .ok (.goto 79, 3) := by decide +kernel
theorem dX5_item_22 : decode cX5_item 22 = .ok (.iload_n 2, 1) := by decide +kernel
theorem dX5_item_23 : decode cX5_item 23 = .ok (.ifCond .lt 54, 3) := by decide +kernel
theorem dX5_item_26 : decode cX5_item 26 = .ok (.aload_n 0, 1) := by decide +kernel
theorem dX5_item_27 : decode cX5_item 27 = .ok (.invokevirtual 255, 3) := by decide +kernel
theorem dX5_item_30 : decode cX5_item 30 = .ok (.aload_n 0, 1) := by decide +kernel
theorem dX5_item_31 : decode cX5_item 31 = .ok (.getfield 7, 3) := by decide +kernel
theorem dX5_item_34 : decode cX5_item 34 = .ok (.iconst 3, 1) := by decide +kernel
theorem dX5_item_35 : decode cX5_item 35 = .ok (.iload_n 2, 1) := by decide +kernel
theorem dX5_item_36 : decode cX5_item 36 = .ok (.iadd, 1) := by decide +kernel
theorem dX5_item_37 : decode cX5_item 37 = .ok (.aload_n 0, 1) := by decide +kernel
theorem dX5_item_38 : decode cX5_item 38 = .ok (.iload_n 2, 1) := by decide +kernel
theorem dX5_item_39 : decode cX5_item 39 = .ok (.iconst 3, 1) := by decide +kernel
theorem dX5_item_40 : decode cX5_item 40 = .ok (.if_icmp .ne 7, 3) := by decide +kernel
theorem dX5_item_43 : decode cX5_item 43 = .ok (.iconst 1, 1) := by decide +kernel
theorem dX5_item_44 : decode cX5_item 44 = .ok (.goto 4, 3) := by decide +kernel
theorem dX5_item_47 : decode cX5_item 47 = .ok (.iconst 0, 1) := by decide +kernel
theorem dX5_item_48 : decode cX5_item 48 = .ok (.iload_n 2, 1) := by decide +kernel
theorem dX5_item_49 : decode cX5_item 49 = .ok (.iconst 2, 1) := by decide +kernel
theorem dX5_item_50 : decode cX5_item 50 = .ok (.if_icmp .ge 8, 3) := by decide +kernel
theorem dX5_item_53 : decode cX5_item 53 = .ok (.bipush 20, 2) := by decide +kernel
theorem dX5_item_55 : decode cX5_item 55 = .ok (.goto 15, 3) := by decide +kernel
theorem dX5_item_58 : decode cX5_item 58 = .ok (.iload_n 2, 1) := by decide +kernel
theorem dX5_item_59 : decode cX5_item 59 = .ok (.iconst 2, 1) := by decide +kernel
theorem dX5_item_60 : decode cX5_item 60 = .ok (.if_icmp .ne 8, 3) := by decide +kernel
theorem dX5_item_63 : decode cX5_item 63 = .ok (.bipush 8, 2) := by decide +kernel
theorem dX5_item_65 : decode cX5_item 65 = .ok (.goto 5, 3) := by decide +kernel
theorem dX5_item_68 : decode cX5_item 68 = .ok (.bipush 12, 2) := by decide +kernel
theorem dX5_item_70 : decode cX5_item 70 = .ok (.invokevirtual 258, 3) := by decide +kernel
theorem dX5_item_73 : decode cX5_item 73 = .ok (.iastore, 1) := by decide +kernel
theorem dX5_item_74 : decode cX5_item 74 = .ok (.goto 24, 3) := by decide +kernel
theorem dX5_item_77 : decode cX5_item 77 = .ok (.aload_n 0, 1) := by decide +kernel
theorem dX5_item_78 : decode cX5_item 78 = .ok (.ldc2_w 280, 3) := by decide +kernel
theorem dX5_item_81 : decode cX5_item 81 = .ok (.invokevirtual 228, 3) := by decide +kernel
theorem dX5_item_84 : decode cX5_item 84 = .ok (.ifCond .eq 10, 3) := by decide +kernel
theorem dX5_item_87 : decode cX5_item 87 = .ok (.aload_n 0, 1) := by decide +kernel
theorem dX5_item_88 : decode cX5_item 88 = .ok (.invokevirtual 282, 3) := by decide +kernel
theorem dX5_item_91 : decode cX5_item 91 = .ok (.goto 7, 3) := by decide +kernel
theorem dX5_item_94 : decode cX5_item 94 = .ok (.aload_n 0, 1) := by decide +kernel
theorem dX5_item_95 : decode cX5_item 95 = .ok (.invokevirtual 252, 3) := by decide +kernel
theorem dX5_item_98 : decode cX5_item 98 = .ok (.return_, 1) := by decide +kernel
theorem dX5_items_0 : decode cX5_items 0 = .ok (.aload_n 0, 1) := by decide +kernel
theorem dX5_items_1 : decode cX5_items 1 = .ok (.iconst 0, 1) := by decide +kernel
theorem dX5_items_2 : decode cX5_items 2 = .ok (.putfield 193, 3) := by decide +kernel
theorem dX5_items_5 : decode cX5_items 5 = .ok (.aload_n 0, 1) := by decide +kernel
theorem dX5_items_6 : decode cX5_items 6 = .ok (.iconst (-1), 1) := by decide +kernel
theorem dX5_items_7 : decode cX5_items 7 = .ok (.putfield 223, 3) := by decide +kernel
theorem dX5_items_10 : decode cX5_items 10 = .ok (.aload_n 0, 1) := by decide +kernel
theorem dX5_items_11 : decode cX5_items 11 = .ok (.invokevirtual 255, 3) := by decide +kernel
theorem dX5_items_14 : decode cX5_items 14 = .ok (.aload_n 0, 1) := by decide +kernel
theorem dX5_items_15 : decode cX5_items 15 = .ok (.invokevirtual 285, 3) := by decide +kernel
theorem dX5_items_18 : decode cX5_items 18 = .ok (.iconst 1, 1) := by decide +kernel
theorem dX5_items_19 : decode cX5_items 19 = .ok (.istore_n 1, 1) := by decide +kernel
theorem dX5_items_20 : decode cX5_items 20 = .ok (.aload_n 0, 1) := by decide +kernel
theorem dX5_items_21 : decode cX5_items 21 = .ok (.getfield 223, 3) := by decide +kernel
theorem dX5_items_24 : decode cX5_items 24 = .ok (.ifCond .ge 25, 3) := by decide +kernel
theorem dX5_items_27 : decode cX5_items 27 = .ok (.aload_n 0, 1) := by decide +kernel
theorem dX5_items_28 : decode cX5_items 28 = .ok (.getfield 206, 3) := by decide +kernel
theorem dX5_items_31 : decode cX5_items 31 = .ok (.iconst 3, 1) := by decide +kernel
theorem dX5_items_32 : decode cX5_items 32 = .ok (.if_icmp .ne 17, 3) := by decide +kernel
theorem dX5_items_35 : decode cX5_items 35 = .ok (.aload_n 0, 1) := by decide +kernel
theorem dX5_items_36 : decode cX5_items 36 = .ok (.invokevirtual 255, 3) := by decide +kernel
theorem dX5_items_39 : decode cX5_items 39 = .ok (.aload_n 0, 1) := by decide +kernel
theorem dX5_items_40 : decode cX5_items 40 = .ok (.invokevirtual 285, 3) := by decide +kernel
theorem dX5_items_43 : decode cX5_items 43 = .ok (.iinc 1 1, 3) := by decide +kernel
theorem dX5_items_46 : decode cX5_items 46 = .ok (.goto (-26), 3) := by decide +kernel
theorem dX5_items_49 : decode cX5_items 49 = .ok (.aload_n 0, 1) := by decide +kernel
theorem dX5_items_50 : decode cX5_items 50 = .ok (.getfield 223, 3) := by decide +kernel
theorem dX5_items_53 : decode cX5_items 53 = .ok (.ifCond .ge 14, 3) := by decide +kernel
theorem dX5_items_56 : decode cX5_items 56 = .ok (.aload_n 0, 1) := by decide +kernel
theorem dX5_items_57 : decode cX5_items 57 = .ok (.getfield 206, 3) := by decide +kernel
theorem dX5_items_60 : decode cX5_items 60 = .ok (.ifCond .eq 7, 3) := by decide +kernel
theorem dX5_items_63 : decode cX5_items 63 = .ok (.aload_n 0, 1) := by decide +kernel
theorem dX5_items_64 : decode cX5_items 64 = .ok (.invokevirtual 252, 3) := by decide +kernel
theorem dX5_items_67 : decode cX5_items 67 = .ok (.iload_n 1, 1) := by decide +kernel
theorem dX5_items_68 : decode cX5_items 68 = .ok (.ireturn, 1) := by decide +kernel
theorem dX5_text_0 : decode cX5_text 0 = .ok (.aload_n 0, 1) := by decide +kernel
theorem dX5_text_1 : decode cX5_text 1 = .ok (.getfield 7, 3) := by decide +kernel
theorem dX5_text_4 : decode cX5_text 4 = .ok (.aload_n 0, 1) := by decide +kernel
theorem dX5_text_5 : decode cX5_text 5 = .ok (.getfield 13, 3) := by decide +kernel
theorem dX5_text_8 : decode cX5_text 8 = .ok (.invokestatic 152, 3) := by decide +kernel
theorem dX5_text_11 : decode cX5_text 11 = .ok (.aload_n 0, 1) := by decide +kernel
theorem dX5_text_12 : decode cX5_text 12 = .ok (.invokevirtual 288, 3) := by decide +kernel
theorem dX5_text_15 : decode cX5_text 15 = .ok (.istore_n 1, 1) := by decide +kernel
theorem dX5_text_16 : decode cX5_text 16 = .ok (.aload_n 0, 1) := by decide +kernel
theorem dX5_text_17 : decode cX5_text 17 = .ok (.iconst 0, 1) := by decide +kernel
theorem dX5_text_18 : decode cX5_text 18 = .ok (.putfield 189, 3) := by decide +kernel
theorem dX5_text_21 : decode cX5_text 21 = .ok (.aload_n 0, 1) := by decide +kernel
theorem dX5_text_22 : decode cX5_text 22 = .ok (.getfield 223, 3) := by decide +kernel
theorem dX5_text_25 : decode cX5_text 25 = .ok (.ifCond .lt 21, 3) := by decide +kernel
theorem dX5_text_28 : decode cX5_text 28 = .ok (.aload_n 0, 1) := by decide +kernel
theorem dX5_text_29 : decode cX5_text 29 = .ok (.getfield 13, 3) := by decide +kernel
theorem dX5_text_32 : decode cX5_text 32 = .ok (.aload_n 0, 1) := by decide +kernel
theorem dX5_text_33 : decode cX5_text 33 = .ok (.getfield 7, 3) := by decide +kernel
theorem dX5_text_36 : decode cX5_text 36 = .ok (.invokestatic 152, 3) := by decide +kernel
theorem dX5_text_39 : decode cX5_text 39 = .ok (.iconst (-1), 1) := by decide +kernel
theorem dX5_text_40 : decode cX5_text 40 = .ok (.aload_n 0, 1) := by decide +kernel
theorem dX5_text_41 : decode cX5_text 41 = .ok (.getfield 223, 3) := by decide +kernel
theorem dX5_text_44 : decode cX5_text 44 = .ok (.isub, 1) := by decide +kernel
theorem dX5_text_45 : decode cX5_text 45 = .ok (.ireturn, 1) := by decide +kernel
theorem dX5_text_46 : decode cX5_text 46 = .ok (.iload_n 1, 1) := by decide +kernel
theorem dX5_text_47 : decode cX5_text 47 = .ok (.ireturn, 1) := by decide +kernel
theorem dX5_hold_0 : decode cX5_hold 0 = .ok (.iload_n 1, 1) := by decide +kernel
theorem dX5_hold_1 : decode cX5_hold 1 = .ok (.i2l, 1) := by decide +kernel
theorem dX5_hold_2 : decode cX5_hold 2 = .ok (.lconst 0, 1) := by decide +kernel
theorem dX5_hold_3 : decode cX5_hold 3 = .ok (.ldc2_w 291, 3) := by decide +kernel
theorem dX5_hold_6 : decode cX5_hold 6 = .ok (.invokestatic 42, 3) := by decide +kernel
theorem dX5_hold_9 : decode cX5_hold 9 = .ok (.ifCond .eq 23, 3) := by decide +kernel
theorem dX5_hold_12 : decode cX5_hold 12 = .ok (.iload_n 2, 1) := by decide +kernel
theorem dX5_hold_13 : decode cX5_hold 13 = .ok (.i2l, 1) := by decide +kernel
theorem dX5_hold_14 : decode cX5_hold 14 = .ok (.ldc2_w 130, 3) := by decide +kernel
theorem dX5_hold_17 : decode cX5_hold 17 = .ok (.aload_n 0, 1) := by decide +kernel
theorem dX5_hold_18 : decode cX5_hold 18 = .ok (.getfield 7, 3) := by decide +kernel
theorem dX5_hold_21 : decode cX5_hold 21 = .ok (.iconst 0, 1) := by decide +kernel
theorem dX5_hold_22 : decode cX5_hold 22 = .ok (.iaload, 1) := by decide +kernel
theorem dX5_hold_23 : decode cX5_hold 23 = .ok (.iconst 1, 1) := by decide +kernel
theorem dX5_hold_24 : decode cX5_hold 24 = .ok (.isub, 1) := by decide +kernel
theorem dX5_hold_25 : decode cX5_hold 25 = .ok (.i2l, 1) := by decide +kernel
theorem dX5_hold_26 : decode cX5_hold 26 = .ok (.invokestatic 42, 3) := by decide +kernel
theorem dX5_hold_29 : decode cX5_hold 29 = .ok (.ifCond .ne 9, 3) := by decide +kernel
theorem dX5_hold_32 : decode cX5_hold 32 = .ok (.aload_n 0, 1) := by decide +kernel
theorem dX5_hold_33 : decode cX5_hold 33 = .ok (.iconst 0, 1) := by decide +kernel
theorem dX5_hold_34 : decode cX5_hold 34 = .ok (.invokevirtual 108, 3) := by decide +kernel
theorem dX5_hold_37 : decode cX5_hold 37 = .ok (.ireturn, 1) := by decide +kernel
theorem dX5_hold_38 : decode cX5_hold 38 = .ok (.aload_n 0, 1) := by decide +kernel
theorem dX5_hold_39 : decode cX5_hold 39 = .ok (.getfield 7, 3) := by decide +kernel
theorem dX5_hold_42 : decode cX5_hold 42 = .ok (.bipush 53, 2) := by decide +kernel
theorem dX5_hold_44 : decode cX5_hold 44 = .ok (.iload_n 1, 1) := by decide +kernel
theorem dX5_hold_45 : decode cX5_hold 45 = .ok (.iadd, 1) := by decide +kernel
theorem dX5_hold_46 : decode cX5_hold 46 = .ok (.iload_n 2, 1) := by decide +kernel
theorem dX5_hold_47 : decode cX5_hold 47 = .ok (.iconst 1, 1) := by decide +kernel
theorem dX5_hold_48 : decode cX5_hold 48 = .ok (.iadd, 1) := by decide +kernel
theorem dX5_hold_49 : decode cX5_hold 49 = .ok (.iastore, 1) := by decide +kernel
theorem dX5_hold_50 : decode cX5_hold 50 = .ok (.iconst 1, 1) := by decide +kernel
theorem dX5_hold_51 : decode cX5_hold 51 = .ok (.ireturn, 1) := by decide +kernel
theorem dX5_above_0 : decode cX5_above 0 = .ok (.iload_n 0, 1) := by decide +kernel
theorem dX5_above_1 : decode cX5_above 1 = .ok (.iconst 3, 1) := by decide +kernel
theorem dX5_above_2 : decode cX5_above 2 = .ok (.if_icmp .ne 7, 3) := by decide +kernel
theorem dX5_above_5 : decode cX5_above 5 = .ok (.iconst 2, 1) := by decide +kernel
theorem dX5_above_6 : decode cX5_above 6 = .ok (.goto 23, 3) := by decide +kernel
theorem dX5_above_9 : decode cX5_above 9 = .ok (.iload_n 0, 1) := by decide +kernel
theorem dX5_above_10 : decode cX5_above 10 = .ok (.iconst 4, 1) := by decide +kernel
theorem dX5_above_11 : decode cX5_above 11 = .ok (.if_icmp .ne 7, 3) := by decide +kernel
theorem dX5_above_14 : decode cX5_above 14 = .ok (.iconst 3, 1) := by decide +kernel
theorem dX5_above_15 : decode cX5_above 15 = .ok (.goto 14, 3) := by decide +kernel
theorem dX5_above_18 : decode cX5_above 18 = .ok (.iload_n 0, 1) := by decide +kernel
theorem dX5_above_19 : decode cX5_above 19 = .ok (.bipush 6, 2) := by decide +kernel
theorem dX5_above_21 : decode cX5_above 21 = .ok (.if_icmp .ne 7, 3) := by decide +kernel
theorem dX5_above_24 : decode cX5_above 24 = .ok (.iconst 1, 1) := by decide +kernel
theorem dX5_above_25 : decode cX5_above 25 = .ok (.goto 4, 3) := by decide +kernel
theorem dX5_above_28 : decode cX5_above 28 = .ok (.iconst 0, 1) := by decide +kernel
theorem dX5_above_29 : decode cX5_above 29 = .ok (.ireturn, 1) := by decide +kernel
theorem dX5_as_0 : decode cX5_as 0 = .ok (.iload_n 1, 1) := by decide +kernel
theorem dX5_as_1 : decode cX5_as 1 = .ok (.i2l, 1) := by decide +kernel
theorem dX5_as_2 : decode cX5_as 2 = .ok (.lconst 0, 1) := by decide +kernel
theorem dX5_as_3 : decode cX5_as 3 = .ok (.ldc2_w 291, 3) := by decide +kernel
theorem dX5_as_6 : decode cX5_as 6 = .ok (.invokestatic 42, 3) := by decide +kernel
theorem dX5_as_9 : decode cX5_as 9 = .ok (.ifCond .eq 15, 3) := by decide +kernel
theorem dX5_as_12 : decode cX5_as 12 = .ok (.iload_n 2, 1) := by decide +kernel
theorem dX5_as_13 : decode cX5_as 13 = .ok (.i2l, 1) := by decide +kernel
theorem dX5_as_14 : decode cX5_as 14 = .ok (.lconst 0, 1) := by decide +kernel
theorem dX5_as_15 : decode cX5_as 15 = .ok (.ldc2_w 120, 3) := by decide +kernel
theorem dX5_as_18 : decode cX5_as 18 = .ok (.invokestatic 42, 3) := by decide +kernel
theorem dX5_as_21 : decode cX5_as 21 = .ok (.ifCond .ne 9, 3) := by decide +kernel
theorem dX5_as_24 : decode cX5_as 24 = .ok (.aload_n 0, 1) := by decide +kernel
theorem dX5_as_25 : decode cX5_as 25 = .ok (.iconst 0, 1) := by decide +kernel
theorem dX5_as_26 : decode cX5_as 26 = .ok (.invokevirtual 108, 3) := by decide +kernel
theorem dX5_as_29 : decode cX5_as 29 = .ok (.ireturn, 1) := by decide +kernel
theorem dX5_as_30 : decode cX5_as 30 = .ok (.aload_n 0, 1) := by decide +kernel
theorem dX5_as_31 : decode cX5_as 31 = .ok (.getfield 7, 3) := by decide +kernel
theorem dX5_as_34 : decode cX5_as 34 = .ok (.bipush 53, 2) := by decide +kernel
theorem dX5_as_36 : decode cX5_as 36 = .ok (.iload_n 1, 1) := by decide +kernel
theorem dX5_as_37 : decode cX5_as 37 = .ok (.iadd, 1) := by decide +kernel
theorem dX5_as_38 : decode cX5_as 38 = .ok (.iaload, 1) := by decide +kernel
theorem dX5_as_39 : decode cX5_as 39 = .ok (.ifCond .ne 9, 3) := by decide +kernel
theorem dX5_as_42 : decode cX5_as 42 = .ok (.aload_n 0, 1) := by decide +kernel
theorem dX5_as_43 : decode cX5_as 43 = .ok (.iconst 5, 1) := by decide +kernel
theorem dX5_as_44 : decode cX5_as 44 = .ok (.invokevirtual 108, 3) := by decide +kernel
theorem dX5_as_47 : decode cX5_as 47 = .ok (.ireturn, 1) := by decide +kernel
theorem dX5_as_48 : decode cX5_as 48 = .ok (.aload_n 0, 1) := by decide +kernel
theorem dX5_as_49 : decode cX5_as 49 = .ok (.getfield 7, 3) := by decide +kernel
theorem dX5_as_52 : decode cX5_as 52 = .ok (.bipush 53, 2) := by decide +kernel
theorem dX5_as_54 : decode cX5_as 54 = .ok (.iload_n 1, 1) := by decide +kernel
theorem dX5_as_55 : decode cX5_as 55 = .ok (.iadd, 1) := by decide +kernel
theorem dX5_as_56 : decode cX5_as 56 = .ok (.iaload, 1) := by decide +kernel
theorem dX5_as_57 : decode cX5_as 57 = .ok (.iconst 1, 1) := by decide +kernel
theorem dX5_as_58 : decode cX5_as 58 = .ok (.isub, 1) := by decide +kernel
theorem dX5_as_59 : decode cX5_as 59 = .ok (.istore_n 3, 1) := by decide +kernel
theorem dX5_as_60 : decode cX5_as 60 = .ok (.aload_n 0, 1) := by decide +kernel
theorem dX5_as_61 : decode cX5_as 61 = .ok (.iload_n 3, 1) := by decide +kernel
theorem dX5_as_62 : decode cX5_as 62 = .ok (.iconst 0, 1) := by decide +kernel
theorem dX5_as_63 : decode cX5_as 63 = .ok (.invokevirtual 46, 3) := by decide +kernel
theorem dX5_as_66 : decode cX5_as 66 = .ok (.istore 4, 2) := by decide +kernel
theorem dX5_as_68 : decode cX5_as 68 = .ok (.iload_n 2, 1) := by decide +kernel
theorem dX5_as_69 : decode cX5_as 69 = .ok (.ifCond .eq 30, 3) := by decide +kernel
theorem dX5_as_72 : decode cX5_as 72 = .ok (.iload_n 2, 1) := by decide +kernel
theorem dX5_as_73 : decode cX5_as 73 = .ok (.iload 4, 2) := by decide +kernel
theorem dX5_as_75 : decode cX5_as 75 = .ok (.if_icmp .eq 24, 3) := by decide +kernel
theorem dX5_as_78 : decode cX5_as 78 = .ok (.iload_n 2, 1) := by decide +kernel
theorem dX5_as_79 : decode cX5_as 79 = .ok (.iload 4, 2) := by decide +kernel
theorem dX5_as_81 : decode cX5_as 81 = .ok (.invokestatic 293, 3) := by decide +kernel
theorem dX5_as_84 : decode cX5_as 84 = .ok (.if_icmp .eq 15, 3) := by decide +kernel
theorem dX5_as_87 : decode cX5_as 87 = .ok (.iload_n 2, 1) := by decide +kernel
theorem dX5_as_88 : decode cX5_as 88 = .ok (.iload 4, 2) := by decide +kernel
theorem dX5_as_90 : decode cX5_as 90 = .ok (.invokestatic 293, 3) := by decide +kernel
theorem dX5_as_93 : decode cX5_as 93 = .ok (.invokestatic 293, 3) := by decide +kernel
theorem dX5_as_96 : decode cX5_as 96 = .ok (.if_icmp .ne 7, 3) := by decide +kernel
theorem dX5_as_99 : decode cX5_as 99 = .ok (.iload_n 3, 1) := by decide +kernel
theorem dX5_as_100 : decode cX5_as 100 = .ok (.goto 8, 3) := by decide +kernel
theorem dX5_as_103 : decode cX5_as 103 = .ok (.aload_n 0, 1) := by decide +kernel
theorem dX5_as_104 : decode cX5_as 104 = .ok (.iconst 2, 1) := by decide +kernel
theorem dX5_as_105 : decode cX5_as 105 = .ok (.invokevirtual 108, 3) := by decide +kernel
theorem dX5_as_108 : decode cX5_as 108 = .ok (.ireturn, 1) := by decide +kernel
theorem dX5_isSheet_0 : decode cX5_isSheet 0 = .ok (.iload_n 0, 1) := by decide +kernel
theorem dX5_isSheet_1 : decode cX5_isSheet 1 = .ok (.i2l, 1) := by decide +kernel
theorem dX5_isSheet_2 : decode cX5_isSheet 2 = .ok (.lconst 0, 1) := by decide +kernel
theorem dX5_isSheet_3 : decode cX5_isSheet 3 = .ok (.ldc2_w 111, 3) := by decide +kernel
theorem dX5_isSheet_6 : decode cX5_isSheet 6 = .ok (.invokestatic 42, 3) := by decide +kernel
theorem dX5_isSheet_9 : decode cX5_isSheet 9 = .ok (.ireturn, 1) := by decide +kernel
theorem dX5_sheet_0 : decode cX5_sheet 0 = .ok (.iload_n 1, 1) := by decide +kernel
theorem dX5_sheet_1 : decode cX5_sheet 1 = .ok (.invokestatic 296, 3) := by decide +kernel
theorem dX5_sheet_4 : decode cX5_sheet 4 = .ok (.ifCond .eq 25, 3) := by decide +kernel
theorem dX5_sheet_7 : decode cX5_sheet 7 = .ok (.iload_n 2, 1) := by decide +kernel
theorem dX5_sheet_8 : decode cX5_sheet 8 = .ok (.ifCond .eq 27, 3) := by decide +kernel
theorem dX5_sheet_11 : decode cX5_sheet 11 = .ok (.iload_n 2, 1) := by decide +kernel
theorem dX5_sheet_12 : decode cX5_sheet 12 = .ok (.bipush 8, 2) := by decide +kernel
theorem dX5_sheet_14 : decode cX5_sheet 14 = .ok (.if_icmp .eq 21, 3) := by decide +kernel
theorem dX5_sheet_17 : decode cX5_sheet 17 = .ok (.iload_n 2, 1) := by decide +kernel
theorem dX5_sheet_18 : decode cX5_sheet 18 = .ok (.bipush 16, 2) := by decide +kernel
theorem dX5_sheet_20 : decode cX5_sheet 20 = .ok (.if_icmp .eq 15, 3) := by decide +kernel
theorem dX5_sheet_23 : decode cX5_sheet 23 = .ok (.iload_n 2, 1) := by decide +kernel
theorem dX5_sheet_24 : decode cX5_sheet 24 = .ok (.bipush 32, 2) := by decide +kernel
theorem dX5_sheet_26 : decode cX5_sheet 26 = .ok (.if_icmp .eq 9, 3) := by decide +kernel
theorem dX5_sheet_29 : decode cX5_sheet 29 = .ok (.aload_n 0, 1) := by decide +kernel
theorem dX5_sheet_30 : decode cX5_sheet 30 = .ok (.iconst 0, 1) := by decide +kernel
theorem dX5_sheet_31 : decode cX5_sheet 31 = .ok (.invokevirtual 108, 3) := by decide +kernel
theorem dX5_sheet_34 : decode cX5_sheet 34 = .ok (.ireturn, 1) := by decide +kernel
theorem dX5_sheet_35 : decode cX5_sheet 35 = .ok (.iload_n 3, 1) := by decide +kernel
theorem dX5_sheet_36 : decode cX5_sheet 36 = .ok (.ifCond .ge 10, 3) := by decide +kernel
theorem dX5_sheet_39 : decode cX5_sheet 39 = .ok (.aload_n 0, 1) := by decide +kernel
theorem dX5_sheet_40 : decode cX5_sheet 40 = .ok (.bipush 6, 2) := by decide +kernel
theorem dX5_sheet_42 : decode cX5_sheet 42 = .ok (.invokevirtual 108, 3) := by decide +kernel
theorem dX5_sheet_45 : decode cX5_sheet 45 = .ok (.ireturn, 1) := by decide +kernel
theorem dX5_sheet_46 : decode cX5_sheet 46 = .ok (.iload_n 3, 1) := by decide +kernel
theorem dX5_sheet_47 : decode cX5_sheet 47 = .ok (.bipush 40, 2) := by decide +kernel
theorem dX5_sheet_49 : decode cX5_sheet 49 = .ok (.if_icmp .le 9, 3) := by decide +kernel
theorem dX5_sheet_52 : decode cX5_sheet 52 = .ok (.aload_n 0, 1) := by decide +kernel
theorem dX5_sheet_53 : decode cX5_sheet 53 = .ok (.iconst 0, 1) := by decide +kernel
theorem dX5_sheet_54 : decode cX5_sheet 54 = .ok (.invokevirtual 108, 3) := by decide +kernel
theorem dX5_sheet_57 : decode cX5_sheet 57 = .ok (.ireturn, 1) := by decide +kernel
theorem dX5_sheet_58 : decode cX5_sheet 58 = .ok (.aload_n 0, 1) := by decide +kernel
theorem dX5_sheet_59 : decode cX5_sheet 59 = .ok (.getfield 29, 3) := by decide +kernel
theorem dX5_sheet_62 : decode cX5_sheet 62 = .ok (.iload_n 1, 1) := by decide +kernel
theorem dX5_sheet_63 : decode cX5_sheet 63 = .ok (.iload_n 2, 1) := by decide +kernel
theorem dX5_sheet_64 : decode cX5_sheet 64 = .ok (.iastore, 1) := by decide +kernel
theorem dX5_sheet_65 : decode cX5_sheet 65 = .ok (.aload_n 0, 1) := by decide +kernel
theorem dX5_sheet_66 : decode cX5_sheet 66 = .ok (.getfield 32, 3) := by decide +kernel
theorem dX5_sheet_69 : decode cX5_sheet 69 = .ok (.iload_n 1, 1) := by decide +kernel
theorem dX5_sheet_70 : decode cX5_sheet 70 = .ok (.iload_n 2, 1) := by decide +kernel
theorem dX5_sheet_71 : decode cX5_sheet 71 = .ok (.ifCond .ne 7, 3) := by decide +kernel
theorem dX5_sheet_74 : decode cX5_sheet 74 = .ok (.iconst 0, 1) := by decide +kernel
theorem dX5_sheet_75 : decode cX5_sheet 75 = .ok (.goto 4, 3) := by decide +kernel
theorem dX5_sheet_78 : decode cX5_sheet 78 = .ok (.iload_n 3, 1) := by decide +kernel
theorem dX5_sheet_79 : decode cX5_sheet 79 = .ok (.iastore, 1) := by decide +kernel
theorem dX5_sheet_80 : decode cX5_sheet 80 = .ok (.iconst 0, 1) := by decide +kernel
theorem dX5_sheet_81 : decode cX5_sheet 81 = .ok (.istore 4, 2) := by decide +kernel
theorem dX5_sheet_83 : decode cX5_sheet 83 = .ok (.iload 4, 2) := by decide +kernel
theorem dX5_sheet_85 : decode cX5_sheet 85 = .ok (.bipush 40, 2) := by decide +kernel
theorem dX5_sheet_87 : decode cX5_sheet 87 = .ok (.if_icmp .ge 22, 3) := by decide +kernel
theorem dX5_sheet_90 : decode cX5_sheet 90 = .ok (.aload_n 0, 1) := by decide +kernel
theorem dX5_sheet_91 : decode cX5_sheet 91 = .ok (.getfield 35, 3) := by decide +kernel
theorem dX5_sheet_94 : decode cX5_sheet 94 = .ok (.bipush 40, 2) := by decide +kernel
theorem dX5_sheet_96 : decode cX5_sheet 96 = .ok (.iload_n 1, 1) := by decide +kernel
theorem dX5_sheet_97 : decode cX5_sheet 97 = .ok (.imul, 1) := by decide +kernel
theorem dX5_sheet_98 : decode cX5_sheet 98 = .ok (.iload 4, 2) := by decide +kernel
theorem dX5_sheet_100 : decode cX5_sheet 100 = .ok (.iadd, 1) := by decide +kernel
theorem dX5_sheet_101 : decode cX5_sheet 101 = .ok (.iconst 0, 1) := by decide +kernel
theorem dX5_sheet_102 : decode cX5_sheet 102 = .ok (.iastore, 1) := by decide +kernel
theorem dX5_sheet_103 : decode cX5_sheet 103 = .ok (.iinc 4 1, 3) := by decide +kernel
theorem dX5_sheet_106 : decode cX5_sheet 106 = .ok (.goto (-23), 3) := by decide +kernel
theorem dX5_sheet_109 : decode cX5_sheet 109 = .ok (.aload_n 0, 1) := by decide +kernel
theorem dX5_sheet_110 : decode cX5_sheet 110 = .ok (.getfield 32, 3) := by decide +kernel
theorem dX5_sheet_113 : decode cX5_sheet 113 = .ok (.iload_n 1, 1) := by decide +kernel
theorem dX5_sheet_114 : decode cX5_sheet 114 = .ok (.iaload, 1) := by decide +kernel
theorem dX5_sheet_115 : decode cX5_sheet 115 = .ok (.ireturn, 1) := by decide +kernel
theorem dX5_whyNone_0 : decode cX5_whyNone 0 = .ok (.iload_n 1, 1) := by decide +kernel
theorem dX5_whyNone_1 : decode cX5_whyNone 1 = .ok (.invokestatic 296, 3) := by decide +kernel
theorem dX5_whyNone_4 : decode cX5_whyNone 4 = .ok (.ifCond .ne 7, 3) := by decide +kernel
theorem dX5_whyNone_7 : decode cX5_whyNone 7 = .ok (.iconst 0, 1) := by decide +kernel
theorem dX5_whyNone_8 : decode cX5_whyNone 8 = .ok (.goto 17, 3) := by decide +kernel
theorem dX5_whyNone_11 : decode cX5_whyNone 11 = .ok (.aload_n 0, 1) := by decide +kernel
theorem dX5_whyNone_12 : decode cX5_whyNone 12 = .ok (.getfield 29, 3) := by decide +kernel
theorem dX5_whyNone_15 : decode cX5_whyNone 15 = .ok (.iload_n 1, 1) := by decide +kernel
theorem dX5_whyNone_16 : decode cX5_whyNone 16 = .ok (.iaload, 1) := by decide +kernel
theorem dX5_whyNone_17 : decode cX5_whyNone 17 = .ok (.ifCond .ne 7, 3) := by decide +kernel
theorem dX5_whyNone_20 : decode cX5_whyNone 20 = .ok (.iconst 5, 1) := by decide +kernel
theorem dX5_whyNone_21 : decode cX5_whyNone 21 = .ok (.goto 4, 3) := by decide +kernel
theorem dX5_whyNone_24 : decode cX5_whyNone 24 = .ok (.iconst (-1), 1) := by decide +kernel
theorem dX5_whyNone_25 : decode cX5_whyNone 25 = .ok (.ireturn, 1) := by decide +kernel
theorem dX5_write_0 : decode cX5_write 0 = .ok (.aload_n 0, 1) := by decide +kernel
theorem dX5_write_1 : decode cX5_write 1 = .ok (.iload_n 1, 1) := by decide +kernel
theorem dX5_write_2 : decode cX5_write 2 = .ok (.invokevirtual 173, 3) := by decide +kernel
theorem dX5_write_5 : decode cX5_write 5 = .ok (.istore 4, 2) := by decide +kernel
theorem dX5_write_7 : decode cX5_write 7 = .ok (.iload 4, 2) := by decide +kernel
theorem dX5_write_9 : decode cX5_write 9 = .ok (.ifCond .ge 25, 3) := by decide +kernel
theorem dX5_write_12 : decode cX5_write 12 = .ok (.iload_n 2, 1) := by decide +kernel
theorem dX5_write_13 : decode cX5_write 13 = .ok (.i2l, 1) := by decide +kernel
theorem dX5_write_14 : decode cX5_write 14 = .ok (.lconst 0, 1) := by decide +kernel
theorem dX5_write_15 : decode cX5_write 15 = .ok (.aload_n 0, 1) := by decide +kernel
theorem dX5_write_16 : decode cX5_write 16 = .ok (.getfield 32, 3) := by decide +kernel
theorem dX5_write_19 : decode cX5_write 19 = .ok (.iload_n 1, 1) := by decide +kernel
theorem dX5_write_20 : decode cX5_write 20 = .ok (.iaload, 1) := by decide +kernel
theorem dX5_write_21 : decode cX5_write 21 = .ok (.iconst 1, 1) := by decide +kernel
theorem dX5_write_22 : decode cX5_write 22 = .ok (.isub, 1) := by decide +kernel
theorem dX5_write_23 : decode cX5_write 23 = .ok (.i2l, 1) := by decide +kernel
theorem dX5_write_24 : decode cX5_write 24 = .ok (.invokestatic 42, 3) := by decide +kernel
theorem dX5_write_27 : decode cX5_write 27 = .ok (.ifCond .ne 7, 3) := by decide +kernel
theorem dX5_write_30 : decode cX5_write 30 = .ok (.iconst 0, 1) := by decide +kernel
theorem dX5_write_31 : decode cX5_write 31 = .ok (.goto 5, 3) := by decide +kernel
theorem dX5_write_34 : decode cX5_write 34 = .ok (.iload 4, 2) := by decide +kernel
theorem dX5_write_36 : decode cX5_write 36 = .ok (.istore 4, 2) := by decide +kernel
theorem dX5_write_38 : decode cX5_write 38 = .ok (.iload 4, 2) := by decide +kernel
theorem dX5_write_40 : decode cX5_write 40 = .ok (.ifCond .lt 10, 3) := by decide +kernel
theorem dX5_write_43 : decode cX5_write 43 = .ok (.aload_n 0, 1) := by decide +kernel
theorem dX5_write_44 : decode cX5_write 44 = .ok (.iload 4, 2) := by decide +kernel
theorem dX5_write_46 : decode cX5_write 46 = .ok (.invokevirtual 108, 3) := by decide +kernel
theorem dX5_write_49 : decode cX5_write 49 = .ok (.ireturn, 1) := by decide +kernel
theorem dX5_write_50 : decode cX5_write 50 = .ok (.aload_n 0, 1) := by decide +kernel
theorem dX5_write_51 : decode cX5_write 51 = .ok (.getfield 35, 3) := by decide +kernel
theorem dX5_write_54 : decode cX5_write 54 = .ok (.bipush 40, 2) := by decide +kernel
theorem dX5_write_56 : decode cX5_write 56 = .ok (.iload_n 1, 1) := by decide +kernel
theorem dX5_write_57 : decode cX5_write 57 = .ok (.imul, 1) := by decide +kernel
theorem dX5_write_58 : decode cX5_write 58 = .ok (.iload_n 2, 1) := by decide +kernel
theorem dX5_write_59 : decode cX5_write 59 = .ok (.iadd, 1) := by decide +kernel
theorem dX5_write_60 : decode cX5_write 60 = .ok (.aload_n 0, 1) := by decide +kernel
theorem dX5_write_61 : decode cX5_write 61 = .ok (.getfield 29, 3) := by decide +kernel
theorem dX5_write_64 : decode cX5_write 64 = .ok (.iload_n 1, 1) := by decide +kernel
theorem dX5_write_65 : decode cX5_write 65 = .ok (.iaload, 1) := by decide +kernel
theorem dX5_write_66 : decode cX5_write 66 = .ok (.bipush 8, 2) := by decide +kernel
theorem dX5_write_68 : decode cX5_write 68 = .ok (.if_icmp .ne 8, 3) := by decide +kernel
theorem dX5_write_71 : decode cX5_write 71 = .ok (.iload_n 3, 1) := by decide +kernel
theorem dX5_write_72 : decode cX5_write 72 = .ok (.i2b, 1) := by decide +kernel
theorem dX5_write_73 : decode cX5_write 73 = .ok (.goto 20, 3) := by decide +kernel
theorem dX5_write_76 : decode cX5_write 76 = .ok (.aload_n 0, 1) := by decide +kernel
theorem dX5_write_77 : decode cX5_write 77 = .ok (.getfield 29, 3) := by decide +kernel
theorem dX5_write_80 : decode cX5_write 80 = .ok (.iload_n 1, 1) := by decide +kernel
theorem dX5_write_81 : decode cX5_write 81 = .ok (.iaload, 1) := by decide +kernel
theorem dX5_write_82 : decode cX5_write 82 = .ok (.bipush 16, 2) := by decide +kernel
theorem dX5_write_84 : decode cX5_write 84 = .ok (.if_icmp .ne 8, 3) := by decide +kernel
theorem dX5_write_87 : decode cX5_write 87 = .ok (.iload_n 3, 1) := by decide +kernel
theorem dX5_write_88 : decode cX5_write 88 = .ok (.i2s, 1) := by decide +kernel
theorem dX5_write_89 : decode cX5_write 89 = .ok (.goto 4, 3) := by decide +kernel
theorem dX5_write_92 : decode cX5_write 92 = .ok (.iload_n 3, 1) := by decide +kernel
theorem dX5_write_93 : decode cX5_write 93 = .ok (.iastore, 1) := by decide +kernel
theorem dX5_write_94 : decode cX5_write 94 = .ok (.iconst 1, 1) := by decide +kernel
theorem dX5_write_95 : decode cX5_write 95 = .ok (.ireturn, 1) := by decide +kernel
theorem dX5_copy_0 : decode cX5_copy 0 = .ok (.iload_n 1, 1) := by decide +kernel
theorem dX5_copy_1 : decode cX5_copy 1 = .ok (.invokestatic 296, 3) := by decide +kernel
theorem dX5_copy_4 : decode cX5_copy 4 = .ok (.ifCond .eq 10, 3) := by decide +kernel
theorem dX5_copy_7 : decode cX5_copy 7 = .ok (.iload_n 3, 1) := by decide +kernel
theorem dX5_copy_8 : decode cX5_copy 8 = .ok (.invokestatic 296, 3) := by decide +kernel
theorem dX5_copy_11 : decode cX5_copy 11 = .ok (.ifCond .ne 9, 3) := by decide +kernel
theorem dX5_copy_14 : decode cX5_copy 14 = .ok (.aload_n 0, 1) := by decide +kernel
theorem dX5_copy_15 : decode cX5_copy 15 = .ok (.iconst 0, 1) := by decide +kernel
theorem dX5_copy_16 : decode cX5_copy 16 = .ok (.invokevirtual 108, 3) := by decide +kernel
theorem dX5_copy_19 : decode cX5_copy 19 = .ok (.ireturn, 1) := by decide +kernel
theorem dX5_copy_20 : decode cX5_copy 20 = .ok (.aload_n 0, 1) := by decide +kernel
theorem dX5_copy_21 : decode cX5_copy 21 = .ok (.getfield 29, 3) := by decide +kernel
theorem dX5_copy_24 : decode cX5_copy 24 = .ok (.iload_n 1, 1) := by decide +kernel
theorem dX5_copy_25 : decode cX5_copy 25 = .ok (.iaload, 1) := by decide +kernel
theorem dX5_copy_26 : decode cX5_copy 26 = .ok (.ifCond .eq 12, 3) := by decide +kernel
theorem dX5_copy_29 : decode cX5_copy 29 = .ok (.aload_n 0, 1) := by decide +kernel
theorem dX5_copy_30 : decode cX5_copy 30 = .ok (.getfield 29, 3) := by decide +kernel
theorem dX5_copy_33 : decode cX5_copy 33 = .ok (.iload_n 3, 1) := by decide +kernel
theorem dX5_copy_34 : decode cX5_copy 34 = .ok (.iaload, 1) := by decide +kernel
theorem dX5_copy_35 : decode cX5_copy 35 = .ok (.ifCond .ne 9, 3) := by decide +kernel
theorem dX5_copy_38 : decode cX5_copy 38 = .ok (.aload_n 0, 1) := by decide +kernel
theorem dX5_copy_39 : decode cX5_copy 39 = .ok (.iconst 5, 1) := by decide +kernel
theorem dX5_copy_40 : decode cX5_copy 40 = .ok (.invokevirtual 108, 3) := by decide +kernel
theorem dX5_copy_43 : decode cX5_copy 43 = .ok (.ireturn, 1) := by decide +kernel
theorem dX5_copy_44 : decode cX5_copy 44 = .ok (.aload_n 0, 1) := by decide +kernel
theorem dX5_copy_45 : decode cX5_copy 45 = .ok (.getfield 29, 3) := by decide +kernel
theorem dX5_copy_48 : decode cX5_copy 48 = .ok (.iload_n 1, 1) := by decide +kernel
theorem dX5_copy_49 : decode cX5_copy 49 = .ok (.iaload, 1) := by decide +kernel
theorem dX5_copy_50 : decode cX5_copy 50 = .ok (.aload_n 0, 1) := by decide +kernel
theorem dX5_copy_51 : decode cX5_copy 51 = .ok (.getfield 29, 3) := by decide +kernel
theorem dX5_copy_54 : decode cX5_copy 54 = .ok (.iload_n 3, 1) := by decide +kernel
theorem dX5_copy_55 : decode cX5_copy 55 = .ok (.iaload, 1) := by decide +kernel
theorem dX5_copy_56 : decode cX5_copy 56 = .ok (.if_icmp .eq 9, 3) := by decide +kernel
theorem dX5_copy_59 : decode cX5_copy 59 = .ok (.aload_n 0, 1) := by decide +kernel
theorem dX5_copy_60 : decode cX5_copy 60 = .ok (.iconst 2, 1) := by decide +kernel
theorem dX5_copy_61 : decode cX5_copy 61 = .ok (.invokevirtual 108, 3) := by decide +kernel
theorem dX5_copy_64 : decode cX5_copy 64 = .ok (.ireturn, 1) := by decide +kernel
theorem dX5_copy_65 : decode cX5_copy 65 = .ok (.iload_n 2, 1) := by decide +kernel
theorem dX5_copy_66 : decode cX5_copy 66 = .ok (.ifCond .lt 48, 3) := by decide +kernel
theorem dX5_copy_69 : decode cX5_copy 69 = .ok (.iload 4, 2) := by decide +kernel
theorem dX5_copy_71 : decode cX5_copy 71 = .ok (.ifCond .lt 43, 3) := by decide +kernel
theorem dX5_copy_74 : decode cX5_copy 74 = .ok (.iload 5, 2) := by decide +kernel
theorem dX5_copy_76 : decode cX5_copy 76 = .ok (.ifCond .lt 38, 3) := by decide +kernel
theorem dX5_copy_79 : decode cX5_copy 79 = .ok (.iload_n 2, 1) := by decide +kernel
theorem dX5_copy_80 : decode cX5_copy 80 = .ok (.i2l, 1) := by decide +kernel
theorem dX5_copy_81 : decode cX5_copy 81 = .ok (.iload 5, 2) := by decide +kernel
theorem dX5_copy_83 : decode cX5_copy 83 = .ok (.i2l, 1) := by decide +kernel
theorem dX5_copy_84 : decode cX5_copy 84 = .ok (.ladd, 1) := by decide +kernel
theorem dX5_copy_85 : decode cX5_copy 85 = .ok (.aload_n 0, 1) := by decide +kernel
theorem dX5_copy_86 : decode cX5_copy 86 = .ok (.getfield 32, 3) := by decide +kernel
theorem dX5_copy_89 : decode cX5_copy 89 = .ok (.iload_n 1, 1) := by decide +kernel
theorem dX5_copy_90 : decode cX5_copy 90 = .ok (.iaload, 1) := by decide +kernel
theorem dX5_copy_91 : decode cX5_copy 91 = .ok (.i2l, 1) := by decide +kernel
theorem dX5_copy_92 : decode cX5_copy 92 = .ok (.lcmp, 1) := by decide +kernel
theorem dX5_copy_93 : decode cX5_copy 93 = .ok (.ifCond .gt 21, 3) := by decide +kernel
theorem dX5_copy_96 : decode cX5_copy 96 = .ok (.iload 4, 2) := by decide +kernel
theorem dX5_copy_98 : decode cX5_copy 98 = .ok (.i2l, 1) := by decide +kernel
theorem dX5_copy_99 : decode cX5_copy 99 = .ok (.iload 5, 2) := by decide +kernel
theorem dX5_copy_101 : decode cX5_copy 101 = .ok (.i2l, 1) := by decide +kernel
theorem dX5_copy_102 : decode cX5_copy 102 = .ok (.ladd, 1) := by decide +kernel
theorem dX5_copy_103 : decode cX5_copy 103 = .ok (.aload_n 0, 1) := by decide +kernel
theorem dX5_copy_104 : decode cX5_copy 104 = .ok (.getfield 32, 3) := by decide +kernel
theorem dX5_copy_107 : decode cX5_copy 107 = .ok (.iload_n 3, 1) := by decide +kernel
theorem dX5_copy_108 : decode cX5_copy 108 = .ok (.iaload, 1) := by decide +kernel
theorem dX5_copy_109 : decode cX5_copy 109 = .ok (.i2l, 1) := by decide +kernel
theorem dX5_copy_110 : decode cX5_copy 110 = .ok (.lcmp, 1) := by decide +kernel
theorem dX5_copy_111 : decode cX5_copy 111 = .ok (.ifCond .le 9, 3) := by decide +kernel
theorem dX5_copy_114 : decode cX5_copy 114 = .ok (.aload_n 0, 1) := by decide +kernel
theorem dX5_copy_115 : decode cX5_copy 115 = .ok (.iconst 0, 1) := by decide +kernel
theorem dX5_copy_116 : decode cX5_copy 116 = .ok (.invokevirtual 108, 3) := by decide +kernel
theorem dX5_copy_119 : decode cX5_copy 119 = .ok (.ireturn, 1) := by decide +kernel
theorem dX5_copy_120 : decode cX5_copy 120 = .ok (.iconst 0, 1) := by decide +kernel
theorem dX5_copy_121 : decode cX5_copy 121 = .ok (.istore 6, 2) := by decide +kernel
theorem dX5_copy_123 : decode cX5_copy 123 = .ok (.iload 6, 2) := by decide +kernel
theorem dX5_copy_125 : decode cX5_copy 125 = .ok (.iload 5, 2) := by decide +kernel
theorem dX5_copy_127 : decode cX5_copy 127 = .ok (.if_icmp .ge 30, 3) := by decide +kernel
theorem dX5_copy_130 : decode cX5_copy 130 = .ok (.aload_n 0, 1) := by decide +kernel
theorem dX5_copy_131 : decode cX5_copy 131 = .ok (.getfield 38, 3) := by decide +kernel
theorem dX5_copy_134 : decode cX5_copy 134 = .ok (.iload 6, 2) := by decide +kernel
theorem dX5_copy_136 : decode cX5_copy 136 = .ok (.aload_n 0, 1) := by decide +kernel
theorem dX5_copy_137 : decode cX5_copy 137 = .ok (.getfield 35, 3) := by decide +kernel
theorem dX5_copy_140 : decode cX5_copy 140 = .ok (.bipush 40, 2) := by decide +kernel
theorem dX5_copy_142 : decode cX5_copy 142 = .ok (.iload_n 1, 1) := by decide +kernel
theorem dX5_copy_143 : decode cX5_copy 143 = .ok (.imul, 1) := by decide +kernel
theorem dX5_copy_144 : decode cX5_copy 144 = .ok (.iload_n 2, 1) := by decide +kernel
theorem dX5_copy_145 : decode cX5_copy 145 = .ok (.iadd, 1) := by decide +kernel
theorem dX5_copy_146 : decode cX5_copy 146 = .ok (.iload 6, 2) := by decide +kernel
theorem dX5_copy_148 : decode cX5_copy 148 = .ok (.iadd, 1) := by decide +kernel
theorem dX5_copy_149 : decode cX5_copy 149 = .ok (.iaload, 1) := by decide +kernel
theorem dX5_copy_150 : decode cX5_copy 150 = .ok (.iastore, 1) := by decide +kernel
theorem dX5_copy_151 : decode cX5_copy 151 = .ok (.iinc 6 1, 3) := by decide +kernel
theorem dX5_copy_154 : decode cX5_copy 154 = .ok (.goto (-31), 3) := by decide +kernel
theorem dX5_copy_157 : decode cX5_copy 157 = .ok (.iconst 0, 1) := by decide +kernel
theorem dX5_copy_158 : decode cX5_copy 158 = .ok (.istore 6, 2) := by decide +kernel
theorem dX5_copy_160 : decode cX5_copy 160 = .ok (.iload 6, 2) := by decide +kernel
theorem dX5_copy_162 : decode cX5_copy 162 = .ok (.iload 5, 2) := by decide +kernel
theorem dX5_copy_164 : decode cX5_copy 164 = .ok (.if_icmp .ge 31, 3) := by decide +kernel
theorem dX5_copy_167 : decode cX5_copy 167 = .ok (.aload_n 0, 1) := by decide +kernel
theorem dX5_copy_168 : decode cX5_copy 168 = .ok (.getfield 35, 3) := by decide +kernel
theorem dX5_copy_171 : decode cX5_copy 171 = .ok (.bipush 40, 2) := by decide +kernel
theorem dX5_copy_173 : decode cX5_copy 173 = .ok (.iload_n 3, 1) := by decide +kernel
theorem dX5_copy_174 : decode cX5_copy 174 = .ok (.imul, 1) := by decide +kernel
theorem dX5_copy_175 : decode cX5_copy 175 = .ok (.iload 4, 2) := by decide +kernel
theorem dX5_copy_177 : decode cX5_copy 177 = .ok (.iadd, 1) := by decide +kernel
theorem dX5_copy_178 : decode cX5_copy 178 = .ok (.iload 6, 2) := by decide +kernel
theorem dX5_copy_180 : decode cX5_copy 180 = .ok (.iadd, 1) := by decide +kernel
theorem dX5_copy_181 : decode cX5_copy 181 = .ok (.aload_n 0, 1) := by decide +kernel
theorem dX5_copy_182 : decode cX5_copy 182 = .ok (.getfield 38, 3) := by decide +kernel
theorem dX5_copy_185 : decode cX5_copy 185 = .ok (.iload 6, 2) := by decide +kernel
theorem dX5_copy_187 : decode cX5_copy 187 = .ok (.iaload, 1) := by decide +kernel
theorem dX5_copy_188 : decode cX5_copy 188 = .ok (.iastore, 1) := by decide +kernel
theorem dX5_copy_189 : decode cX5_copy 189 = .ok (.iinc 6 1, 3) := by decide +kernel
theorem dX5_copy_192 : decode cX5_copy 192 = .ok (.goto (-32), 3) := by decide +kernel
theorem dX5_copy_195 : decode cX5_copy 195 = .ok (.iload 5, 2) := by decide +kernel
theorem dX5_copy_197 : decode cX5_copy 197 = .ok (.ireturn, 1) := by decide +kernel
theorem dX5_load_0 : decode cX5_load 0 = .ok (.aload_n 0, 1) := by decide +kernel
theorem dX5_load_1 : decode cX5_load 1 = .ok (.iload_n 1, 1) := by decide +kernel
theorem dX5_load_2 : decode cX5_load 2 = .ok (.invokevirtual 173, 3) := by decide +kernel
theorem dX5_load_5 : decode cX5_load 5 = .ok (.istore_n 2, 1) := by decide +kernel
theorem dX5_load_6 : decode cX5_load 6 = .ok (.iload_n 2, 1) := by decide +kernel
theorem dX5_load_7 : decode cX5_load 7 = .ok (.ifCond .lt 9, 3) := by decide +kernel
theorem dX5_load_10 : decode cX5_load 10 = .ok (.aload_n 0, 1) := by decide +kernel
theorem dX5_load_11 : decode cX5_load 11 = .ok (.iload_n 2, 1) := by decide +kernel
theorem dX5_load_12 : decode cX5_load 12 = .ok (.invokevirtual 108, 3) := by decide +kernel
theorem dX5_load_15 : decode cX5_load 15 = .ok (.ireturn, 1) := by decide +kernel
theorem dX5_load_16 : decode cX5_load 16 = .ok (.iconst 0, 1) := by decide +kernel
theorem dX5_load_17 : decode cX5_load 17 = .ok (.istore_n 3, 1) := by decide +kernel
theorem dX5_load_18 : decode cX5_load 18 = .ok (.iload_n 3, 1) := by decide +kernel
theorem dX5_load_19 : decode cX5_load 19 = .ok (.aload_n 0, 1) := by decide +kernel
theorem dX5_load_20 : decode cX5_load 20 = .ok (.getfield 32, 3) := by decide +kernel
theorem dX5_load_23 : decode cX5_load 23 = .ok (.iload_n 1, 1) := by decide +kernel
theorem dX5_load_24 : decode cX5_load 24 = .ok (.iaload, 1) := by decide +kernel
theorem dX5_load_25 : decode cX5_load 25 = .ok (.if_icmp .ge 57, 3) := by decide +kernel
theorem dX5_load_28 : decode cX5_load 28 = .ok (.iload_n 3, 1) := by decide +kernel
theorem dX5_load_29 : decode cX5_load 29 = .ok (.bipush 6, 2) := by decide +kernel
theorem dX5_load_31 : decode cX5_load 31 = .ok (.if_icmp .ge 51, 3) := by decide +kernel
theorem dX5_load_34 : decode cX5_load 34 = .ok (.aload_n 0, 1) := by decide +kernel
theorem dX5_load_35 : decode cX5_load 35 = .ok (.getfield 35, 3) := by decide +kernel
theorem dX5_load_38 : decode cX5_load 38 = .ok (.bipush 40, 2) := by decide +kernel
theorem dX5_load_40 : decode cX5_load 40 = .ok (.iload_n 1, 1) := by decide +kernel
theorem dX5_load_41 : decode cX5_load 41 = .ok (.imul, 1) := by decide +kernel
theorem dX5_load_42 : decode cX5_load 42 = .ok (.iload_n 3, 1) := by decide +kernel
theorem dX5_load_43 : decode cX5_load 43 = .ok (.iadd, 1) := by decide +kernel
theorem dX5_load_44 : decode cX5_load 44 = .ok (.iaload, 1) := by decide +kernel
theorem dX5_load_45 : decode cX5_load 45 = .ok (.i2l, 1) := by decide +kernel
theorem dX5_load_46 : decode cX5_load 46 = .ok (.lconst 0, 1) := by decide +kernel
theorem dX5_load_47 : decode cX5_load 47 = .ok (.ldc2_w 118, 3) := by decide +kernel
theorem dX5_load_50 : decode cX5_load 50 = .ok (.invokestatic 42, 3) := by decide +kernel
theorem dX5_load_53 : decode cX5_load 53 = .ok (.ifCond .eq 29, 3) := by decide +kernel
theorem dX5_load_56 : decode cX5_load 56 = .ok (.aload_n 0, 1) := by decide +kernel
theorem dX5_load_57 : decode cX5_load 57 = .ok (.getfield 7, 3) := by decide +kernel
theorem dX5_load_60 : decode cX5_load 60 = .ok (.bipush 7, 2) := by decide +kernel
theorem dX5_load_62 : decode cX5_load 62 = .ok (.iload_n 3, 1) := by decide +kernel
theorem dX5_load_63 : decode cX5_load 63 = .ok (.iadd, 1) := by decide +kernel
theorem dX5_load_64 : decode cX5_load 64 = .ok (.aload_n 0, 1) := by decide +kernel
theorem dX5_load_65 : decode cX5_load 65 = .ok (.getfield 35, 3) := by decide +kernel
theorem dX5_load_68 : decode cX5_load 68 = .ok (.bipush 40, 2) := by decide +kernel
theorem dX5_load_70 : decode cX5_load 70 = .ok (.iload_n 1, 1) := by decide +kernel
theorem dX5_load_71 : decode cX5_load 71 = .ok (.imul, 1) := by decide +kernel
theorem dX5_load_72 : decode cX5_load 72 = .ok (.iload_n 3, 1) := by decide +kernel
theorem dX5_load_73 : decode cX5_load 73 = .ok (.iadd, 1) := by decide +kernel
theorem dX5_load_74 : decode cX5_load 74 = .ok (.iaload, 1) := by decide +kernel
theorem dX5_load_75 : decode cX5_load 75 = .ok (.iastore, 1) := by decide +kernel
theorem dX5_load_76 : decode cX5_load 76 = .ok (.iinc 3 1, 3) := by decide +kernel
theorem dX5_load_79 : decode cX5_load 79 = .ok (.goto (-61), 3) := by decide +kernel
theorem dX5_load_82 : decode cX5_load 82 = .ok (.iload_n 3, 1) := by decide +kernel
theorem dX5_load_83 : decode cX5_load 83 = .ok (.ireturn, 1) := by decide +kernel
theorem dX5_judge_0 : decode cX5_judge 0 = .ok (.aload_n 0, 1) := by decide +kernel
theorem dX5_judge_1 : decode cX5_judge 1 = .ok (.iload_n 1, 1) := by decide +kernel
theorem dX5_judge_2 : decode cX5_judge 2 = .ok (.invokevirtual 173, 3) := by decide +kernel
theorem dX5_judge_5 : decode cX5_judge 5 = .ok (.istore_n 2, 1) := by decide +kernel
theorem dX5_judge_6 : decode cX5_judge 6 = .ok (.iload_n 2, 1) := by decide +kernel
theorem dX5_judge_7 : decode cX5_judge 7 = .ok (.ifCond .lt 9, 3) := by decide +kernel
theorem dX5_judge_10 : decode cX5_judge 10 = .ok (.aload_n 0, 1) := by decide +kernel
theorem dX5_judge_11 : decode cX5_judge 11 = .ok (.iload_n 2, 1) := by decide +kernel
theorem dX5_judge_12 : decode cX5_judge 12 = .ok (.invokevirtual 108, 3) := by decide +kernel
theorem dX5_judge_15 : decode cX5_judge 15 = .ok (.ireturn, 1) := by decide +kernel
theorem dX5_judge_16 : decode cX5_judge 16 = .ok (.iconst 0, 1) := by decide +kernel
theorem dX5_judge_17 : decode cX5_judge 17 = .ok (.istore_n 3, 1) := by decide +kernel
theorem dX5_judge_18 : decode cX5_judge 18 = .ok (.iload_n 3, 1) := by decide +kernel
theorem dX5_judge_19 : decode cX5_judge 19 = .ok (.aload_n 0, 1) := by decide +kernel
theorem dX5_judge_20 : decode cX5_judge 20 = .ok (.getfield 32, 3) := by decide +kernel
theorem dX5_judge_23 : decode cX5_judge 23 = .ok (.iload_n 1, 1) := by decide +kernel
theorem dX5_judge_24 : decode cX5_judge 24 = .ok (.iaload, 1) := by decide +kernel
theorem dX5_judge_25 : decode cX5_judge 25 = .ok (.if_icmp .ge 41, 3) := by decide +kernel
theorem dX5_judge_28 : decode cX5_judge 28 = .ok (.aload_n 0, 1) := by decide +kernel
theorem dX5_judge_29 : decode cX5_judge 29 = .ok (.iload_n 3, 1) := by decide +kernel
theorem dX5_judge_30 : decode cX5_judge 30 = .ok (.invokevirtual 125, 3) := by decide +kernel
theorem dX5_judge_33 : decode cX5_judge 33 = .ok (.ifCond .eq 23, 3) := by decide +kernel
theorem dX5_judge_36 : decode cX5_judge 36 = .ok (.aload_n 0, 1) := by decide +kernel
theorem dX5_judge_37 : decode cX5_judge 37 = .ok (.getfield 35, 3) := by decide +kernel
theorem dX5_judge_40 : decode cX5_judge 40 = .ok (.bipush 40, 2) := by decide +kernel
theorem dX5_judge_42 : decode cX5_judge 42 = .ok (.iload_n 1, 1) := by decide +kernel
theorem dX5_judge_43 : decode cX5_judge 43 = .ok (.imul, 1) := by decide +kernel
theorem dX5_judge_44 : decode cX5_judge 44 = .ok (.iload_n 3, 1) := by decide +kernel
theorem dX5_judge_45 : decode cX5_judge 45 = .ok (.iadd, 1) := by decide +kernel
theorem dX5_judge_46 : decode cX5_judge 46 = .ok (.iaload, 1) := by decide +kernel
theorem dX5_judge_47 : decode cX5_judge 47 = .ok (.aload_n 0, 1) := by decide +kernel
theorem dX5_judge_48 : decode cX5_judge 48 = .ok (.iload_n 3, 1) := by decide +kernel
theorem dX5_judge_49 : decode cX5_judge 49 = .ok (.iconst 1, 1) := by decide +kernel
theorem dX5_judge_50 : decode cX5_judge 50 = .ok (.invokevirtual 46, 3) := by decide +kernel
theorem dX5_judge_53 : decode cX5_judge 53 = .ok (.if_icmp .eq 7, 3) := by decide +kernel
theorem dX5_judge_56 : decode cX5_judge 56 = .ok (.iconst 1, 1) := by decide +kernel
theorem dX5_judge_57 : decode cX5_judge 57 = .ok (.iload_n 3, 1) := by decide +kernel
theorem dX5_judge_58 : decode cX5_judge 58 = .ok (.iadd, 1) := by decide +kernel
theorem dX5_judge_59 : decode cX5_judge 59 = .ok (.ireturn, 1) := by decide +kernel
theorem dX5_judge_60 : decode cX5_judge 60 = .ok (.iinc 3 1, 3) := by decide +kernel
theorem dX5_judge_63 : decode cX5_judge 63 = .ok (.goto (-45), 3) := by decide +kernel
theorem dX5_judge_66 : decode cX5_judge 66 = .ok (.iconst 0, 1) := by decide +kernel
theorem dX5_judge_67 : decode cX5_judge 67 = .ok (.ireturn, 1) := by decide +kernel
theorem dX5_image_0 : decode cX5_image 0 = .ok (.aload_n 0, 1) := by decide +kernel
theorem dX5_image_1 : decode cX5_image 1 = .ok (.getfield 7, 3) := by decide +kernel
theorem dX5_image_4 : decode cX5_image 4 = .ok (.aload_n 0, 1) := by decide +kernel
theorem dX5_image_5 : decode cX5_image 5 = .ok (.getfield 19, 3) := by decide +kernel
theorem dX5_image_8 : decode cX5_image 8 = .ok (.invokestatic 152, 3) := by decide +kernel
theorem dX5_image_11 : decode cX5_image 11 = .ok (.aload_n 0, 1) := by decide +kernel
theorem dX5_image_12 : decode cX5_image 12 = .ok (.iconst 1, 1) := by decide +kernel
theorem dX5_image_13 : decode cX5_image 13 = .ok (.putfield 299, 3) := by decide +kernel
theorem dX5_image_16 : decode cX5_image 16 = .ok (.iconst 1, 1) := by decide +kernel
theorem dX5_image_17 : decode cX5_image 17 = .ok (.ireturn, 1) := by decide +kernel
theorem dX5_undo_0 : decode cX5_undo 0 = .ok (.aload_n 0, 1) := by decide +kernel
theorem dX5_undo_1 : decode cX5_undo 1 = .ok (.getfield 299, 3) := by decide +kernel
theorem dX5_undo_4 : decode cX5_undo 4 = .ok (.ifCond .ne 9, 3) := by decide +kernel
theorem dX5_undo_7 : decode cX5_undo 7 = .ok (.aload_n 0, 1) := by decide +kernel
theorem dX5_undo_8 : decode cX5_undo 8 = .ok (.iconst 3, 1) := by decide +kernel
theorem dX5_undo_9 : decode cX5_undo 9 = .ok (.invokevirtual 108, 3) := by decide +kernel
theorem dX5_undo_12 : decode cX5_undo 12 = .ok (.ireturn, 1) := by decide +kernel
theorem dX5_undo_13 : decode cX5_undo 13 = .ok (.aload_n 0, 1) := by decide +kernel
theorem dX5_undo_14 : decode cX5_undo 14 = .ok (.getfield 19, 3) := by decide +kernel
theorem dX5_undo_17 : decode cX5_undo 17 = .ok (.aload_n 0, 1) := by decide +kernel
theorem dX5_undo_18 : decode cX5_undo 18 = .ok (.getfield 7, 3) := by decide +kernel
theorem dX5_undo_21 : decode cX5_undo 21 = .ok (.invokestatic 152, 3) := by decide +kernel
theorem dX5_undo_24 : decode cX5_undo 24 = .ok (.aload_n 0, 1) := by decide +kernel
theorem dX5_undo_25 : decode cX5_undo 25 = .ok (.getfield 7, 3) := by decide +kernel
theorem dX5_undo_28 : decode cX5_undo 28 = .ok (.iconst 1, 1) := by decide +kernel
theorem dX5_undo_29 : decode cX5_undo 29 = .ok (.iaload, 1) := by decide +kernel
theorem dX5_undo_30 : decode cX5_undo 30 = .ok (.ireturn, 1) := by decide +kernel
theorem dX5_tear_0 : decode cX5_tear 0 = .ok (.aload_n 0, 1) := by decide +kernel
theorem dX5_tear_1 : decode cX5_tear 1 = .ok (.getfield 299, 3) := by decide +kernel
theorem dX5_tear_4 : decode cX5_tear 4 = .ok (.ifCond .eq 7, 3) := by decide +kernel
theorem dX5_tear_7 : decode cX5_tear 7 = .ok (.iconst 1, 1) := by decide +kernel
theorem dX5_tear_8 : decode cX5_tear 8 = .ok (.goto 4, 3) := by decide +kernel
theorem dX5_tear_11 : decode cX5_tear 11 = .ok (.iconst 0, 1) := by decide +kernel
theorem dX5_tear_12 : decode cX5_tear 12 = .ok (.istore_n 1, 1) := by decide +kernel
theorem dX5_tear_13 : decode cX5_tear 13 = .ok (.aload_n 0, 1) := by decide +kernel
theorem dX5_tear_14 : decode cX5_tear 14 = .ok (.iconst 0, 1) := by decide +kernel
theorem dX5_tear_15 : decode cX5_tear 15 = .ok (.putfield 299, 3) := by decide +kernel
theorem dX5_tear_18 : decode cX5_tear 18 = .ok (.iload_n 1, 1) := by decide +kernel
theorem dX5_tear_19 : decode cX5_tear 19 = .ok (.ireturn, 1) := by decide +kernel
theorem dX5_holding_0 : decode cX5_holding 0 = .ok (.iconst 0, 1) := by decide +kernel
theorem dX5_holding_1 : decode cX5_holding 1 = .ok (.istore_n 1, 1) := by decide +kernel
theorem dX5_holding_2 : decode cX5_holding 2 = .ok (.iconst 0, 1) := by decide +kernel
theorem dX5_holding_3 : decode cX5_holding 3 = .ok (.istore_n 2, 1) := by decide +kernel
theorem dX5_holding_4 : decode cX5_holding 4 = .ok (.iload_n 2, 1) := by decide +kernel
theorem dX5_holding_5 : decode cX5_holding 5 = .ok (.bipush 10, 2) := by decide +kernel
theorem dX5_holding_7 : decode cX5_holding 7 = .ok (.if_icmp .ge 29, 3) := by decide +kernel
theorem dX5_holding_10 : decode cX5_holding 10 = .ok (.iload_n 1, 1) := by decide +kernel
theorem dX5_holding_11 : decode cX5_holding 11 = .ok (.aload_n 0, 1) := by decide +kernel
theorem dX5_holding_12 : decode cX5_holding 12 = .ok (.getfield 7, 3) := by decide +kernel
theorem dX5_holding_15 : decode cX5_holding 15 = .ok (.bipush 53, 2) := by decide +kernel
theorem dX5_holding_17 : decode cX5_holding 17 = .ok (.iload_n 2, 1) := by decide +kernel
theorem dX5_holding_18 : decode cX5_holding 18 = .ok (.iadd, 1) := by decide +kernel
theorem dX5_holding_19 : decode cX5_holding 19 = .ok (.iaload, 1) := by decide +kernel
theorem dX5_holding_20 : decode cX5_holding 20 = .ok (.ifCond .le 7, 3) := by decide +kernel
theorem dX5_holding_23 : decode cX5_holding 23 = .ok (.iconst 1, 1) := by decide +kernel
theorem dX5_holding_24 : decode cX5_holding 24 = .ok (.goto 4, 3) := by decide +kernel
theorem dX5_holding_27 : decode cX5_holding 27 = .ok (.iconst 0, 1) := by decide +kernel
theorem dX5_holding_28 : decode cX5_holding 28 = .ok (.iadd, 1) := by decide +kernel
theorem dX5_holding_29 : decode cX5_holding 29 = .ok (.istore_n 1, 1) := by decide +kernel
theorem dX5_holding_30 : decode cX5_holding 30 = .ok (.iinc 2 1, 3) := by decide +kernel
theorem dX5_holding_33 : decode cX5_holding 33 = .ok (.goto (-29), 3) := by decide +kernel
theorem dX5_holding_36 : decode cX5_holding 36 = .ok (.iload_n 1, 1) := by decide +kernel
theorem dX5_holding_37 : decode cX5_holding 37 = .ok (.ireturn, 1) := by decide +kernel
theorem dX5_count_0 : decode cX5_count 0 = .ok (.iload_n 1, 1) := by decide +kernel
theorem dX5_count_1 : decode cX5_count 1 = .ok (.tableswitch 98 0 7 #[47, 54, 61, 67, 73, 81, 86, 93], 47) := by decide +kernel
theorem dX5_count_48 : decode cX5_count 48 = .ok (.aload_n 0, 1) := by decide +kernel
theorem dX5_count_49 : decode cX5_count 49 = .ok (.getfield 7, 3) := by decide +kernel
theorem dX5_count_52 : decode cX5_count 52 = .ok (.iconst 1, 1) := by decide +kernel
theorem dX5_count_53 : decode cX5_count 53 = .ok (.iaload, 1) := by decide +kernel
theorem dX5_count_54 : decode cX5_count 54 = .ok (.ireturn, 1) := by decide +kernel
theorem dX5_count_55 : decode cX5_count 55 = .ok (.aload_n 0, 1) := by decide +kernel
theorem dX5_count_56 : decode cX5_count 56 = .ok (.getfield 7, 3) := by decide +kernel
theorem dX5_count_59 : decode cX5_count 59 = .ok (.iconst 0, 1) := by decide +kernel
theorem dX5_count_60 : decode cX5_count 60 = .ok (.iaload, 1) := by decide +kernel
theorem dX5_count_61 : decode cX5_count 61 = .ok (.ireturn, 1) := by decide +kernel
theorem dX5_count_62 : decode cX5_count 62 = .ok (.aload_n 0, 1) := by decide +kernel
theorem dX5_count_63 : decode cX5_count 63 = .ok (.iconst 1, 1) := by decide +kernel
theorem dX5_count_64 : decode cX5_count 64 = .ok (.invokevirtual 146, 3) := by decide +kernel
theorem dX5_count_67 : decode cX5_count 67 = .ok (.ireturn, 1) := by decide +kernel
theorem dX5_count_68 : decode cX5_count 68 = .ok (.aload_n 0, 1) := by decide +kernel
theorem dX5_count_69 : decode cX5_count 69 = .ok (.iconst 4, 1) := by decide +kernel
theorem dX5_count_70 : decode cX5_count 70 = .ok (.invokevirtual 146, 3) := by decide +kernel
theorem dX5_count_73 : decode cX5_count 73 = .ok (.ireturn, 1) := by decide +kernel
theorem dX5_count_74 : decode cX5_count 74 = .ok (.aload_n 0, 1) := by decide +kernel
theorem dX5_count_75 : decode cX5_count 75 = .ok (.invokevirtual 149, 3) := by decide +kernel
theorem dX5_count_78 : decode cX5_count 78 = .ok (.invokestatic 78, 3) := by decide +kernel
theorem dX5_count_81 : decode cX5_count 81 = .ok (.ireturn, 1) := by decide +kernel
theorem dX5_count_82 : decode cX5_count 82 = .ok (.aload_n 0, 1) := by decide +kernel
theorem dX5_count_83 : decode cX5_count 83 = .ok (.getfield 189, 3) := by decide +kernel
theorem dX5_count_86 : decode cX5_count 86 = .ok (.ireturn, 1) := by decide +kernel
theorem dX5_count_87 : decode cX5_count 87 = .ok (.aload_n 0, 1) := by decide +kernel
theorem dX5_count_88 : decode cX5_count 88 = .ok (.getfield 7, 3) := by decide +kernel
theorem dX5_count_91 : decode cX5_count 91 = .ok (.iconst 2, 1) := by decide +kernel
theorem dX5_count_92 : decode cX5_count 92 = .ok (.iaload, 1) := by decide +kernel
theorem dX5_count_93 : decode cX5_count 93 = .ok (.ireturn, 1) := by decide +kernel
theorem dX5_count_94 : decode cX5_count 94 = .ok (.aload_n 0, 1) := by decide +kernel
theorem dX5_count_95 : decode cX5_count 95 = .ok (.invokevirtual 303, 3) := by decide +kernel
theorem dX5_count_98 : decode cX5_count 98 = .ok (.ireturn, 1) := by decide +kernel
theorem dX5_count_99 : decode cX5_count 99 = .ok (.aload_n 0, 1) := by decide +kernel
theorem dX5_count_100 : decode cX5_count 100 = .ok (.iconst 0, 1) := by decide +kernel
theorem dX5_count_101 : decode cX5_count 101 = .ok (.invokevirtual 108, 3) := by decide +kernel
theorem dX5_count_104 : decode cX5_count 104 = .ok (.ireturn, 1) := by decide +kernel
theorem dX5_status_0 : decode cX5_status 0 = .ok (.iload_n 1, 1) := by decide +kernel
theorem dX5_status_1 : decode cX5_status 1 = .ok (.i2l, 1) := by decide +kernel
theorem dX5_status_2 : decode cX5_status 2 = .ok (.ldc2_w 130, 3) := by decide +kernel
theorem dX5_status_5 : decode cX5_status 5 = .ok (.ldc2_w 120, 3) := by decide +kernel
theorem dX5_status_8 : decode cX5_status 8 = .ok (.invokestatic 42, 3) := by decide +kernel
theorem dX5_status_11 : decode cX5_status 11 = .ok (.ifCond .ne 9, 3) := by decide +kernel
theorem dX5_status_14 : decode cX5_status 14 = .ok (.aload_n 0, 1) := by decide +kernel
theorem dX5_status_15 : decode cX5_status 15 = .ok (.iconst 0, 1) := by decide +kernel
theorem dX5_status_16 : decode cX5_status 16 = .ok (.invokevirtual 108, 3) := by decide +kernel
theorem dX5_status_19 : decode cX5_status 19 = .ok (.ireturn, 1) := by decide +kernel
theorem dX5_status_20 : decode cX5_status 20 = .ok (.iconst 0, 1) := by decide +kernel
theorem dX5_status_21 : decode cX5_status 21 = .ok (.istore_n 2, 1) := by decide +kernel
theorem dX5_status_22 : decode cX5_status 22 = .ok (.iconst 0, 1) := by decide +kernel
theorem dX5_status_23 : decode cX5_status 23 = .ok (.istore_n 3, 1) := by decide +kernel
theorem dX5_status_24 : decode cX5_status 24 = .ok (.iload_n 3, 1) := by decide +kernel
theorem dX5_status_25 : decode cX5_status 25 = .ok (.bipush 7, 2) := by decide +kernel
theorem dX5_status_27 : decode cX5_status 27 = .ok (.if_icmp .ge 18, 3) := by decide +kernel
theorem dX5_status_30 : decode cX5_status 30 = .ok (.iload_n 2, 1) := by decide +kernel
theorem dX5_status_31 : decode cX5_status 31 = .ok (.aload_n 0, 1) := by decide +kernel
theorem dX5_status_32 : decode cX5_status 32 = .ok (.getfield 22, 3) := by decide +kernel
theorem dX5_status_35 : decode cX5_status 35 = .ok (.iload_n 3, 1) := by decide +kernel
theorem dX5_status_36 : decode cX5_status 36 = .ok (.iaload, 1) := by decide +kernel
theorem dX5_status_37 : decode cX5_status 37 = .ok (.iadd, 1) := by decide +kernel
theorem dX5_status_38 : decode cX5_status 38 = .ok (.istore_n 2, 1) := by decide +kernel
theorem dX5_status_39 : decode cX5_status 39 = .ok (.iinc 3 1, 3) := by decide +kernel
theorem dX5_status_42 : decode cX5_status 42 = .ok (.goto (-18), 3) := by decide +kernel
theorem dX5_status_45 : decode cX5_status 45 = .ok (.iload_n 1, 1) := by decide +kernel
theorem dX5_status_46 : decode cX5_status 46 = .ok (.ifCond .ge 7, 3) := by decide +kernel
theorem dX5_status_49 : decode cX5_status 49 = .ok (.iload_n 2, 1) := by decide +kernel
theorem dX5_status_50 : decode cX5_status 50 = .ok (.goto 9, 3) := by decide +kernel
theorem dX5_status_53 : decode cX5_status 53 = .ok (.aload_n 0, 1) := by decide +kernel
theorem dX5_status_54 : decode cX5_status 54 = .ok (.getfield 22, 3) := by decide +kernel
theorem dX5_status_57 : decode cX5_status 57 = .ok (.iload_n 1, 1) := by decide +kernel
theorem dX5_status_58 : decode cX5_status 58 = .ok (.iaload, 1) := by decide +kernel
theorem dX5_status_59 : decode cX5_status 59 = .ok (.ireturn, 1) := by decide +kernel
