theorem dX4_init_0 : decode cX4_init 0 = .ok (.aload_n 0, 1) := by decide +kernel
theorem dX4_init_1 : decode cX4_init 1 = .ok (.invokespecial 3, 3) := by decide +kernel
theorem dX4_init_4 : decode cX4_init 4 = .ok (.aload_n 0, 1) := by decide +kernel
theorem dX4_init_5 : decode cX4_init 5 = .ok (.new 9, 3) := by decide +kernel
theorem dX4_init_8 : decode cX4_init 8 = .ok (.dup, 1) := by decide +kernel
theorem dX4_init_9 : decode cX4_init 9 = .ok (.invokespecial 11, 3) := by decide +kernel
theorem dX4_init_12 : decode cX4_init 12 = .ok (.putfield 12, 3) := by decide +kernel
theorem dX4_init_15 : decode cX4_init 15 = .ok (.aload_n 0, 1) := by decide +kernel
theorem dX4_init_16 : decode cX4_init 16 = .ok (.new 9, 3) := by decide +kernel
theorem dX4_init_19 : decode cX4_init 19 = .ok (.dup, 1) := by decide +kernel
theorem dX4_init_20 : decode cX4_init 20 = .ok (.invokespecial 11, 3) := by decide +kernel
theorem dX4_init_23 : decode cX4_init 23 = .ok (.putfield 16, 3) := by decide +kernel
theorem dX4_init_26 : decode cX4_init 26 = .ok (.aload_n 0, 1) := by decide +kernel
theorem dX4_init_27 : decode cX4_init 27 = .ok (.new 9, 3) := by decide +kernel
theorem dX4_init_30 : decode cX4_init 30 = .ok (.dup, 1) := by decide +kernel
theorem dX4_init_31 : decode cX4_init 31 = .ok (.invokespecial 11, 3) := by decide +kernel
theorem dX4_init_34 : decode cX4_init 34 = .ok (.putfield 19, 3) := by decide +kernel
theorem dX4_init_37 : decode cX4_init 37 = .ok (.aload_n 0, 1) := by decide +kernel
theorem dX4_init_38 : decode cX4_init 38 = .ok (.iconst 0, 1) := by decide +kernel
theorem dX4_init_39 : decode cX4_init 39 = .ok (.putfield 22, 3) := by decide +kernel
theorem dX4_init_42 : decode cX4_init 42 = .ok (.aload_n 0, 1) := by decide +kernel
theorem dX4_init_43 : decode cX4_init 43 = .ok (.new 26, 3) := by decide +kernel
theorem dX4_init_46 : decode cX4_init 46 = .ok (.dup, 1) := by decide +kernel
theorem dX4_init_47 : decode cX4_init 47 = .ok (.invokespecial 28, 3) := by decide +kernel
theorem dX4_init_50 : decode cX4_init 50 = .ok (.putfield 29, 3) := by decide +kernel
theorem dX4_init_53 : decode cX4_init 53 = .ok (.aload_n 0, 1) := by decide +kernel
theorem dX4_init_54 : decode cX4_init 54 = .ok (.iconst 4, 1) := by decide +kernel
theorem dX4_init_55 : decode cX4_init 55 = .ok (.anewarray 33, 3) := by decide +kernel
theorem dX4_init_58 : decode cX4_init 58 = .ok (.putfield 35, 3) := by decide +kernel
theorem dX4_init_61 : decode cX4_init 61 = .ok (.iconst 0, 1) := by decide +kernel
theorem dX4_init_62 : decode cX4_init 62 = .ok (.istore_n 1, 1) := by decide +kernel
theorem dX4_init_63 : decode cX4_init 63 = .ok (.iload_n 1, 1) := by decide +kernel
theorem dX4_init_64 : decode cX4_init 64 = .ok (.iconst 4, 1) := by decide +kernel
theorem dX4_init_65 : decode cX4_init 65 = .ok (.if_icmp .ge 22, 3) := by decide +kernel
theorem dX4_init_68 : decode cX4_init 68 = .ok (.aload_n 0, 1) := by decide +kernel
theorem dX4_init_69 : decode cX4_init 69 = .ok (.getfield 35, 3) := by decide +kernel
theorem dX4_init_72 : decode cX4_init 72 = .ok (.iload_n 1, 1) := by decide +kernel
theorem dX4_init_73 : decode cX4_init 73 = .ok (.new 33, 3) := by decide +kernel
theorem dX4_init_76 : decode cX4_init 76 = .ok (.dup, 1) := by decide +kernel
theorem dX4_init_77 : decode cX4_init 77 = .ok (.invokespecial 39, 3) := by decide +kernel
theorem dX4_init_80 : decode cX4_init 80 = .ok (.aastore, 1) := by decide +kernel
theorem dX4_init_81 : decode cX4_init 81 = .ok (.iinc 1 1, 3) := by decide +kernel
theorem dX4_init_84 : decode cX4_init 84 = .ok (.goto (-21), 3) := by decide +kernel
theorem dX4_init_87 : decode cX4_init 87 = .ok (.aload_n 0, 1) := by decide +kernel
theorem dX4_init_88 : decode cX4_init 88 = .ok (.bipush 7, 2) := by decide +kernel
theorem dX4_init_90 : decode cX4_init 90 = .ok (.newarray .int, 2) := by decide +kernel
theorem dX4_init_92 : decode cX4_init 92 = .ok (.putfield 40, 3) := by decide +kernel
theorem dX4_init_95 : decode cX4_init 95 = .ok (.return_, 1) := by decide +kernel
theorem dX4_set_0 : decode cX4_set 0 = .ok (.iload_n 1, 1) := by decide +kernel
theorem dX4_set_1 : decode cX4_set 1 = .ok (.iload_n 2, 1) := by decide +kernel
theorem dX4_set_2 : decode cX4_set 2 = .ok (.invokestatic 44, 3) := by decide +kernel
theorem dX4_set_5 : decode cX4_set 5 = .ok (.ifCond .ne 10, 3) := by decide +kernel
theorem dX4_set_8 : decode cX4_set 8 = .ok (.aload_n 0, 1) := by decide +kernel
theorem dX4_set_9 : decode cX4_set 9 = .ok (.ldc 48, 2) := by decide +kernel
theorem dX4_set_11 : decode cX4_set 11 = .ok (.invokevirtual 49, 3) := by decide +kernel
theorem dX4_set_14 : decode cX4_set 14 = .ok (.ireturn, 1) := by decide +kernel
theorem dX4_set_15 : decode cX4_set 15 = .ok (.aload_n 0, 1) := by decide +kernel
theorem dX4_set_16 : decode cX4_set 16 = .ok (.getfield 12, 3) := by decide +kernel
theorem dX4_set_19 : decode cX4_set 19 = .ok (.getfield 53, 3) := by decide +kernel
theorem dX4_set_22 : decode cX4_set 22 = .ok (.iload_n 1, 1) := by decide +kernel
theorem dX4_set_23 : decode cX4_set 23 = .ok (.iaload, 1) := by decide +kernel
theorem dX4_set_24 : decode cX4_set 24 = .ok (.istore_n 3, 1) := by decide +kernel
theorem dX4_set_25 : decode cX4_set 25 = .ok (.aload_n 0, 1) := by decide +kernel
theorem dX4_set_26 : decode cX4_set 26 = .ok (.getfield 12, 3) := by decide +kernel
theorem dX4_set_29 : decode cX4_set 29 = .ok (.getfield 53, 3) := by decide +kernel
theorem dX4_set_32 : decode cX4_set 32 = .ok (.iload_n 1, 1) := by decide +kernel
theorem dX4_set_33 : decode cX4_set 33 = .ok (.iload_n 2, 1) := by decide +kernel
theorem dX4_set_34 : decode cX4_set 34 = .ok (.iastore, 1) := by decide +kernel
theorem dX4_set_35 : decode cX4_set 35 = .ok (.iload_n 3, 1) := by decide +kernel
theorem dX4_set_36 : decode cX4_set 36 = .ok (.ireturn, 1) := by decide +kernel
theorem dX4_home_0 : decode cX4_home 0 = .ok (.iload_n 1, 1) := by decide +kernel
theorem dX4_home_1 : decode cX4_home 1 = .ok (.iconst 0, 1) := by decide +kernel
theorem dX4_home_2 : decode cX4_home 2 = .ok (.iconst 3, 1) := by decide +kernel
theorem dX4_home_3 : decode cX4_home 3 = .ok (.invokestatic 56, 3) := by decide +kernel
theorem dX4_home_6 : decode cX4_home 6 = .ok (.ifCond .ne 10, 3) := by decide +kernel
theorem dX4_home_9 : decode cX4_home 9 = .ok (.aload_n 0, 1) := by decide +kernel
theorem dX4_home_10 : decode cX4_home 10 = .ok (.ldc 48, 2) := by decide +kernel
theorem dX4_home_12 : decode cX4_home 12 = .ok (.invokevirtual 49, 3) := by decide +kernel
theorem dX4_home_15 : decode cX4_home 15 = .ok (.ireturn, 1) := by decide +kernel
theorem dX4_home_16 : decode cX4_home 16 = .ok (.aload_n 0, 1) := by decide +kernel
theorem dX4_home_17 : decode cX4_home 17 = .ok (.getfield 12, 3) := by decide +kernel
theorem dX4_home_20 : decode cX4_home 20 = .ok (.getfield 53, 3) := by decide +kernel
theorem dX4_home_23 : decode cX4_home 23 = .ok (.iload_n 1, 1) := by decide +kernel
theorem dX4_home_24 : decode cX4_home 24 = .ok (.iaload, 1) := by decide +kernel
theorem dX4_home_25 : decode cX4_home 25 = .ok (.ireturn, 1) := by decide +kernel
theorem dX4_visit_0 : decode cX4_visit 0 = .ok (.iload_n 1, 1) := by decide +kernel
theorem dX4_visit_1 : decode cX4_visit 1 = .ok (.iconst 0, 1) := by decide +kernel
theorem dX4_visit_2 : decode cX4_visit 2 = .ok (.iconst 5, 1) := by decide +kernel
theorem dX4_visit_3 : decode cX4_visit 3 = .ok (.invokestatic 56, 3) := by decide +kernel
theorem dX4_visit_6 : decode cX4_visit 6 = .ok (.ifCond .eq 14, 3) := by decide +kernel
theorem dX4_visit_9 : decode cX4_visit 9 = .ok (.iload_n 2, 1) := by decide +kernel
theorem dX4_visit_10 : decode cX4_visit 10 = .ok (.iconst 0, 1) := by decide +kernel
theorem dX4_visit_11 : decode cX4_visit 11 = .ok (.sipush 255, 3) := by decide +kernel
theorem dX4_visit_14 : decode cX4_visit 14 = .ok (.invokestatic 56, 3) := by decide +kernel
theorem dX4_visit_17 : decode cX4_visit 17 = .ok (.ifCond .ne 10, 3) := by decide +kernel
theorem dX4_visit_20 : decode cX4_visit 20 = .ok (.aload_n 0, 1) := by decide +kernel
theorem dX4_visit_21 : decode cX4_visit 21 = .ok (.ldc 48, 2) := by decide +kernel
theorem dX4_visit_23 : decode cX4_visit 23 = .ok (.invokevirtual 49, 3) := by decide +kernel
theorem dX4_visit_26 : decode cX4_visit 26 = .ok (.ireturn, 1) := by decide +kernel
theorem dX4_visit_27 : decode cX4_visit 27 = .ok (.aload_n 0, 1) := by decide +kernel
theorem dX4_visit_28 : decode cX4_visit 28 = .ok (.getfield 12, 3) := by decide +kernel
theorem dX4_visit_31 : decode cX4_visit 31 = .ok (.getfield 60, 3) := by decide +kernel
theorem dX4_visit_34 : decode cX4_visit 34 = .ok (.iload_n 1, 1) := by decide +kernel
theorem dX4_visit_35 : decode cX4_visit 35 = .ok (.iaload, 1) := by decide +kernel
theorem dX4_visit_36 : decode cX4_visit 36 = .ok (.istore_n 3, 1) := by decide +kernel
theorem dX4_visit_37 : decode cX4_visit 37 = .ok (.aload_n 0, 1) := by decide +kernel
theorem dX4_visit_38 : decode cX4_visit 38 = .ok (.getfield 12, 3) := by decide +kernel
theorem dX4_visit_41 : decode cX4_visit 41 = .ok (.getfield 60, 3) := by decide +kernel
theorem dX4_visit_44 : decode cX4_visit 44 = .ok (.iload_n 1, 1) := by decide +kernel
theorem dX4_visit_45 : decode cX4_visit 45 = .ok (.iload_n 2, 1) := by decide +kernel
theorem dX4_visit_46 : decode cX4_visit 46 = .ok (.iastore, 1) := by decide +kernel
theorem dX4_visit_47 : decode cX4_visit 47 = .ok (.iload_n 3, 1) := by decide +kernel
theorem dX4_visit_48 : decode cX4_visit 48 = .ok (.ireturn, 1) := by decide +kernel
theorem dX4_visits_0 : decode cX4_visits 0 = .ok (.iload_n 1, 1) := by decide +kernel
theorem dX4_visits_1 : decode cX4_visits 1 = .ok (.iconst 0, 1) := by decide +kernel
theorem dX4_visits_2 : decode cX4_visits 2 = .ok (.iconst 5, 1) := by decide +kernel
theorem dX4_visits_3 : decode cX4_visits 3 = .ok (.invokestatic 56, 3) := by decide +kernel
theorem dX4_visits_6 : decode cX4_visits 6 = .ok (.ifCond .ne 10, 3) := by decide +kernel
theorem dX4_visits_9 : decode cX4_visits 9 = .ok (.aload_n 0, 1) := by decide +kernel
theorem dX4_visits_10 : decode cX4_visits 10 = .ok (.ldc 48, 2) := by decide +kernel
theorem dX4_visits_12 : decode cX4_visits 12 = .ok (.invokevirtual 49, 3) := by decide +kernel
theorem dX4_visits_15 : decode cX4_visits 15 = .ok (.ireturn, 1) := by decide +kernel
theorem dX4_visits_16 : decode cX4_visits 16 = .ok (.aload_n 0, 1) := by decide +kernel
theorem dX4_visits_17 : decode cX4_visits 17 = .ok (.getfield 12, 3) := by decide +kernel
theorem dX4_visits_20 : decode cX4_visits 20 = .ok (.getfield 60, 3) := by decide +kernel
theorem dX4_visits_23 : decode cX4_visits 23 = .ok (.iload_n 1, 1) := by decide +kernel
theorem dX4_visits_24 : decode cX4_visits 24 = .ok (.iaload, 1) := by decide +kernel
theorem dX4_visits_25 : decode cX4_visits 25 = .ok (.ireturn, 1) := by decide +kernel
theorem dX4_resident_0 : decode cX4_resident 0 = .ok (.iload_n 1, 1) := by decide +kernel
theorem dX4_resident_1 : decode cX4_resident 1 = .ok (.iconst 0, 1) := by decide +kernel
theorem dX4_resident_2 : decode cX4_resident 2 = .ok (.bipush 6, 2) := by decide +kernel
theorem dX4_resident_4 : decode cX4_resident 4 = .ok (.invokestatic 56, 3) := by decide +kernel
theorem dX4_resident_7 : decode cX4_resident 7 = .ok (.ifCond .ne 10, 3) := by decide +kernel
theorem dX4_resident_10 : decode cX4_resident 10 = .ok (.aload_n 0, 1) := by decide +kernel
theorem dX4_resident_11 : decode cX4_resident 11 = .ok (.ldc 48, 2) := by decide +kernel
theorem dX4_resident_13 : decode cX4_resident 13 = .ok (.invokevirtual 49, 3) := by decide +kernel
theorem dX4_resident_16 : decode cX4_resident 16 = .ok (.ireturn, 1) := by decide +kernel
theorem dX4_resident_17 : decode cX4_resident 17 = .ok (.aload_n 0, 1) := by decide +kernel
theorem dX4_resident_18 : decode cX4_resident 18 = .ok (.getfield 12, 3) := by decide +kernel
theorem dX4_resident_21 : decode cX4_resident 21 = .ok (.iload_n 1, 1) := by decide +kernel
theorem dX4_resident_22 : decode cX4_resident 22 = .ok (.invokevirtual 63, 3) := by decide +kernel
theorem dX4_resident_25 : decode cX4_resident 25 = .ok (.istore_n 2, 1) := by decide +kernel
theorem dX4_resident_26 : decode cX4_resident 26 = .ok (.iload_n 2, 1) := by decide +kernel
theorem dX4_resident_27 : decode cX4_resident 27 = .ok (.iconst (-1), 1) := by decide +kernel
theorem dX4_resident_28 : decode cX4_resident 28 = .ok (.if_icmp .ne 12, 3) := by decide +kernel
theorem dX4_resident_31 : decode cX4_resident 31 = .ok (.aload_n 0, 1) := by decide +kernel
theorem dX4_resident_32 : decode cX4_resident 32 = .ok (.ldc 66, 2) := by decide +kernel
theorem dX4_resident_34 : decode cX4_resident 34 = .ok (.invokevirtual 49, 3) := by decide +kernel
theorem dX4_resident_37 : decode cX4_resident 37 = .ok (.goto 4, 3) := by decide +kernel
theorem dX4_resident_40 : decode cX4_resident 40 = .ok (.iload_n 2, 1) := by decide +kernel
theorem dX4_resident_41 : decode cX4_resident 41 = .ok (.ireturn, 1) := by decide +kernel
theorem dX4_of_0 : decode cX4_of 0 = .ok (.aload_n 0, 1) := by decide +kernel
theorem dX4_of_1 : decode cX4_of 1 = .ok (.getfield 12, 3) := by decide +kernel
theorem dX4_of_4 : decode cX4_of 4 = .ok (.iload_n 1, 1) := by decide +kernel
theorem dX4_of_5 : decode cX4_of 5 = .ok (.invokevirtual 67, 3) := by decide +kernel
theorem dX4_of_8 : decode cX4_of 8 = .ok (.ifCond .ne 10, 3) := by decide +kernel
theorem dX4_of_11 : decode cX4_of 11 = .ok (.aload_n 0, 1) := by decide +kernel
theorem dX4_of_12 : decode cX4_of 12 = .ok (.ldc 48, 2) := by decide +kernel
theorem dX4_of_14 : decode cX4_of 14 = .ok (.invokevirtual 49, 3) := by decide +kernel
theorem dX4_of_17 : decode cX4_of 17 = .ok (.ireturn, 1) := by decide +kernel
theorem dX4_of_18 : decode cX4_of 18 = .ok (.aload_n 0, 1) := by decide +kernel
theorem dX4_of_19 : decode cX4_of 19 = .ok (.getfield 12, 3) := by decide +kernel
theorem dX4_of_22 : decode cX4_of 22 = .ok (.getfield 71, 3) := by decide +kernel
theorem dX4_of_25 : decode cX4_of 25 = .ok (.iload_n 1, 1) := by decide +kernel
theorem dX4_of_26 : decode cX4_of 26 = .ok (.aaload, 1) := by decide +kernel
theorem dX4_of_27 : decode cX4_of 27 = .ok (.astore_n 3, 1) := by decide +kernel
theorem dX4_of_28 : decode cX4_of 28 = .ok (.iload_n 2, 1) := by decide +kernel
theorem dX4_of_29 : decode cX4_of 29 = .ok (.tableswitch 95 0 8 #[51, 51, 51, 51, 51, 57, 62, 76, 82], 51) := by decide +kernel
theorem dX4_of_80 : decode cX4_of 80 = .ok (.aload_n 3, 1) := by decide +kernel
theorem dX4_of_81 : decode cX4_of 81 = .ok (.iload_n 2, 1) := by decide +kernel
theorem dX4_of_82 : decode cX4_of 82 = .ok (.invokevirtual 75, 3) := by decide +kernel
theorem dX4_of_85 : decode cX4_of 85 = .ok (.ireturn, 1) := by decide +kernel
theorem dX4_of_86 : decode cX4_of 86 = .ok (.aload_n 3, 1) := by decide +kernel
theorem dX4_of_87 : decode cX4_of 87 = .ok (.invokevirtual 80, 3) := by decide +kernel
theorem dX4_of_90 : decode cX4_of 90 = .ok (.ireturn, 1) := by decide +kernel
theorem dX4_of_91 : decode cX4_of 91 = .ok (.aload_n 3, 1) := by decide +kernel
theorem dX4_of_92 : decode cX4_of 92 = .ok (.aload_n 0, 1) := by decide +kernel
theorem dX4_of_93 : decode cX4_of 93 = .ok (.getfield 12, 3) := by decide +kernel
theorem dX4_of_96 : decode cX4_of 96 = .ok (.getfield 53, 3) := by decide +kernel
theorem dX4_of_99 : decode cX4_of 99 = .ok (.iconst 3, 1) := by decide +kernel
theorem dX4_of_100 : decode cX4_of 100 = .ok (.iaload, 1) := by decide +kernel
theorem dX4_of_101 : decode cX4_of 101 = .ok (.invokevirtual 84, 3) := by decide +kernel
theorem dX4_of_104 : decode cX4_of 104 = .ok (.ireturn, 1) := by decide +kernel
theorem dX4_of_105 : decode cX4_of 105 = .ok (.aload_n 3, 1) := by decide +kernel
theorem dX4_of_106 : decode cX4_of 106 = .ok (.iconst 0, 1) := by decide +kernel
theorem dX4_of_107 : decode cX4_of 107 = .ok (.invokevirtual 87, 3) := by decide +kernel
theorem dX4_of_110 : decode cX4_of 110 = .ok (.ireturn, 1) := by decide +kernel
theorem dX4_of_111 : decode cX4_of 111 = .ok (.aload_n 3, 1) := by decide +kernel
theorem dX4_of_112 : decode cX4_of 112 = .ok (.invokevirtual 90, 3) := by decide +kernel
theorem dX4_of_115 : decode cX4_of 115 = .ok (.ifCond .eq 7, 3) := by decide +kernel
theorem dX4_of_118 : decode cX4_of 118 = .ok (.iconst 1, 1) := by decide +kernel
theorem dX4_of_119 : decode cX4_of 119 = .ok (.goto 4, 3) := by decide +kernel
theorem dX4_of_122 : decode cX4_of 122 = .ok (.iconst 0, 1) := by decide +kernel
theorem dX4_of_123 : decode cX4_of 123 = .ok (.ireturn, 1) := by decide +kernel
theorem dX4_of_124 : decode cX4_of 124 = .ok (.aload_n 0, 1) := by decide +kernel
theorem dX4_of_125 : decode cX4_of 125 = .ok (.ldc 48, 2) := by decide +kernel
theorem dX4_of_127 : decode cX4_of 127 = .ok (.invokevirtual 49, 3) := by decide +kernel
theorem dX4_of_130 : decode cX4_of 130 = .ok (.ireturn, 1) := by decide +kernel
theorem dX4_change_0 : decode cX4_change 0 = .ok (.aload_n 0, 1) := by decide +kernel
theorem dX4_change_1 : decode cX4_change 1 = .ok (.getfield 12, 3) := by decide +kernel
theorem dX4_change_4 : decode cX4_change 4 = .ok (.iload_n 1, 1) := by decide +kernel
theorem dX4_change_5 : decode cX4_change 5 = .ok (.invokevirtual 67, 3) := by decide +kernel
theorem dX4_change_8 : decode cX4_change 8 = .ok (.ifCond .eq 16, 3) := by decide +kernel
theorem dX4_change_11 : decode cX4_change 11 = .ok (.aload_n 0, 1) := by decide +kernel
theorem dX4_change_12 : decode cX4_change 12 = .ok (.getfield 12, 3) := by decide +kernel
theorem dX4_change_15 : decode cX4_change 15 = .ok (.iload_n 1, 1) := by decide +kernel
theorem dX4_change_16 : decode cX4_change 16 = .ok (.iload_n 2, 1) := by decide +kernel
theorem dX4_change_17 : decode cX4_change 17 = .ok (.iload_n 3, 1) := by decide +kernel
theorem dX4_change_18 : decode cX4_change 18 = .ok (.invokevirtual 94, 3) := by decide +kernel
theorem dX4_change_21 : decode cX4_change 21 = .ok (.ifCond .ne 10, 3) := by decide +kernel
theorem dX4_change_24 : decode cX4_change 24 = .ok (.aload_n 0, 1) := by decide +kernel
theorem dX4_change_25 : decode cX4_change 25 = .ok (.ldc 48, 2) := by decide +kernel
theorem dX4_change_27 : decode cX4_change 27 = .ok (.invokevirtual 49, 3) := by decide +kernel
theorem dX4_change_30 : decode cX4_change 30 = .ok (.ireturn, 1) := by decide +kernel
theorem dX4_change_31 : decode cX4_change 31 = .ok (.aload_n 0, 1) := by decide +kernel
theorem dX4_change_32 : decode cX4_change 32 = .ok (.getfield 12, 3) := by decide +kernel
theorem dX4_change_35 : decode cX4_change 35 = .ok (.getfield 71, 3) := by decide +kernel
theorem dX4_change_38 : decode cX4_change 38 = .ok (.iload_n 1, 1) := by decide +kernel
theorem dX4_change_39 : decode cX4_change 39 = .ok (.aaload, 1) := by decide +kernel
theorem dX4_change_40 : decode cX4_change 40 = .ok (.astore 4, 2) := by decide +kernel
theorem dX4_change_42 : decode cX4_change 42 = .ok (.aload 4, 2) := by decide +kernel
theorem dX4_change_44 : decode cX4_change 44 = .ok (.iload_n 2, 1) := by decide +kernel
theorem dX4_change_45 : decode cX4_change 45 = .ok (.invokevirtual 75, 3) := by decide +kernel
theorem dX4_change_48 : decode cX4_change 48 = .ok (.istore 5, 2) := by decide +kernel
theorem dX4_change_50 : decode cX4_change 50 = .ok (.aload 4, 2) := by decide +kernel
theorem dX4_change_52 : decode cX4_change 52 = .ok (.iload_n 2, 1) := by decide +kernel
theorem dX4_change_53 : decode cX4_change 53 = .ok (.iload_n 3, 1) := by decide +kernel
theorem dX4_change_54 : decode cX4_change 54 = .ok (.invokevirtual 97, 3) := by decide +kernel
theorem dX4_change_57 : decode cX4_change 57 = .ok (.iload 5, 2) := by decide +kernel
theorem dX4_change_59 : decode cX4_change 59 = .ok (.ireturn, 1) := by decide +kernel
theorem dX4_go_0 : decode cX4_go 0 = .ok (.iload_n 1, 1) := by decide +kernel
theorem dX4_go_1 : decode cX4_go 1 = .ok (.iconst 1, 1) := by decide +kernel
theorem dX4_go_2 : decode cX4_go 2 = .ok (.bipush 60, 2) := by decide +kernel
theorem dX4_go_4 : decode cX4_go 4 = .ok (.invokestatic 56, 3) := by decide +kernel
theorem dX4_go_7 : decode cX4_go 7 = .ok (.ifCond .ne 10, 3) := by decide +kernel
theorem dX4_go_10 : decode cX4_go 10 = .ok (.aload_n 0, 1) := by decide +kernel
theorem dX4_go_11 : decode cX4_go 11 = .ok (.ldc 48, 2) := by decide +kernel
theorem dX4_go_13 : decode cX4_go 13 = .ok (.invokevirtual 49, 3) := by decide +kernel
theorem dX4_go_16 : decode cX4_go 16 = .ok (.ireturn, 1) := by decide +kernel
theorem dX4_go_17 : decode cX4_go 17 = .ok (.aload_n 0, 1) := by decide +kernel
theorem dX4_go_18 : decode cX4_go 18 = .ok (.getfield 12, 3) := by decide +kernel
theorem dX4_go_21 : decode cX4_go 21 = .ok (.getfield 101, 3) := by decide +kernel
theorem dX4_go_24 : decode cX4_go 24 = .ok (.iload_n 1, 1) := by decide +kernel
theorem dX4_go_25 : decode cX4_go 25 = .ok (.iadd, 1) := by decide +kernel
theorem dX4_go_26 : decode cX4_go 26 = .ok (.ldc 105, 2) := by decide +kernel
theorem dX4_go_28 : decode cX4_go 28 = .ok (.if_icmp .le 10, 3) := by decide +kernel
theorem dX4_go_31 : decode cX4_go 31 = .ok (.aload_n 0, 1) := by decide +kernel
theorem dX4_go_32 : decode cX4_go 32 = .ok (.ldc 106, 2) := by decide +kernel
theorem dX4_go_34 : decode cX4_go 34 = .ok (.invokevirtual 49, 3) := by decide +kernel
theorem dX4_go_37 : decode cX4_go 37 = .ok (.ireturn, 1) := by decide +kernel
theorem dX4_go_38 : decode cX4_go 38 = .ok (.aload_n 0, 1) := by decide +kernel
theorem dX4_go_39 : decode cX4_go 39 = .ok (.getfield 12, 3) := by decide +kernel
theorem dX4_go_42 : decode cX4_go 42 = .ok (.iload_n 1, 1) := by decide +kernel
theorem dX4_go_43 : decode cX4_go 43 = .ok (.invokevirtual 107, 3) := by decide +kernel
theorem dX4_go_46 : decode cX4_go 46 = .ok (.aload_n 0, 1) := by decide +kernel
theorem dX4_go_47 : decode cX4_go 47 = .ok (.getfield 12, 3) := by decide +kernel
theorem dX4_go_50 : decode cX4_go 50 = .ok (.invokevirtual 111, 3) := by decide +kernel
theorem dX4_go_53 : decode cX4_go 53 = .ok (.ireturn, 1) := by decide +kernel
theorem dX4_now_0 : decode cX4_now 0 = .ok (.iload_n 1, 1) := by decide +kernel
theorem dX4_now_1 : decode cX4_now 1 = .ok (.tableswitch 133 0 7 #[47, 55, 63, 71, 86, 101, 116, 125], 47) := by decide +kernel
theorem dX4_now_48 : decode cX4_now 48 = .ok (.aload_n 0, 1) := by decide +kernel
theorem dX4_now_49 : decode cX4_now 49 = .ok (.getfield 12, 3) := by decide +kernel
theorem dX4_now_52 : decode cX4_now 52 = .ok (.getfield 101, 3) := by decide +kernel
theorem dX4_now_55 : decode cX4_now 55 = .ok (.ireturn, 1) := by decide +kernel
theorem dX4_now_56 : decode cX4_now 56 = .ok (.aload_n 0, 1) := by decide +kernel
theorem dX4_now_57 : decode cX4_now 57 = .ok (.getfield 12, 3) := by decide +kernel
theorem dX4_now_60 : decode cX4_now 60 = .ok (.invokevirtual 111, 3) := by decide +kernel
theorem dX4_now_63 : decode cX4_now 63 = .ok (.ireturn, 1) := by decide +kernel
theorem dX4_now_64 : decode cX4_now 64 = .ok (.aload_n 0, 1) := by decide +kernel
theorem dX4_now_65 : decode cX4_now 65 = .ok (.getfield 12, 3) := by decide +kernel
theorem dX4_now_68 : decode cX4_now 68 = .ok (.invokevirtual 114, 3) := by decide +kernel
theorem dX4_now_71 : decode cX4_now 71 = .ok (.ireturn, 1) := by decide +kernel
theorem dX4_now_72 : decode cX4_now 72 = .ok (.aload_n 0, 1) := by decide +kernel
theorem dX4_now_73 : decode cX4_now 73 = .ok (.getfield 12, 3) := by decide +kernel
theorem dX4_now_76 : decode cX4_now 76 = .ok (.invokevirtual 117, 3) := by decide +kernel
theorem dX4_now_79 : decode cX4_now 79 = .ok (.aload_n 0, 1) := by decide +kernel
theorem dX4_now_80 : decode cX4_now 80 = .ok (.getfield 12, 3) := by decide +kernel
theorem dX4_now_83 : decode cX4_now 83 = .ok (.getfield 120, 3) := by decide +kernel
theorem dX4_now_86 : decode cX4_now 86 = .ok (.ireturn, 1) := by decide +kernel
theorem dX4_now_87 : decode cX4_now 87 = .ok (.aload_n 0, 1) := by decide +kernel
theorem dX4_now_88 : decode cX4_now 88 = .ok (.getfield 12, 3) := by decide +kernel
theorem dX4_now_91 : decode cX4_now 91 = .ok (.invokevirtual 117, 3) := by decide +kernel
theorem dX4_now_94 : decode cX4_now 94 = .ok (.aload_n 0, 1) := by decide +kernel
theorem dX4_now_95 : decode cX4_now 95 = .ok (.getfield 12, 3) := by decide +kernel
theorem dX4_now_98 : decode cX4_now 98 = .ok (.getfield 123, 3) := by decide +kernel
theorem dX4_now_101 : decode cX4_now 101 = .ok (.ireturn, 1) := by decide +kernel
theorem dX4_now_102 : decode cX4_now 102 = .ok (.aload_n 0, 1) := by decide +kernel
theorem dX4_now_103 : decode cX4_now 103 = .ok (.getfield 12, 3) := by decide +kernel
theorem dX4_now_106 : decode cX4_now 106 = .ok (.invokevirtual 117, 3) := by decide +kernel
theorem dX4_now_109 : decode cX4_now 109 = .ok (.aload_n 0, 1) := by decide +kernel
theorem dX4_now_110 : decode cX4_now 110 = .ok (.getfield 12, 3) := by decide +kernel
theorem dX4_now_113 : decode cX4_now 113 = .ok (.getfield 126, 3) := by decide +kernel
theorem dX4_now_116 : decode cX4_now 116 = .ok (.ireturn, 1) := by decide +kernel
theorem dX4_now_117 : decode cX4_now 117 = .ok (.aload_n 0, 1) := by decide +kernel
theorem dX4_now_118 : decode cX4_now 118 = .ok (.getfield 12, 3) := by decide +kernel
theorem dX4_now_121 : decode cX4_now 121 = .ok (.iconst 0, 1) := by decide +kernel
theorem dX4_now_122 : decode cX4_now 122 = .ok (.invokevirtual 129, 3) := by decide +kernel
theorem dX4_now_125 : decode cX4_now 125 = .ok (.ireturn, 1) := by decide +kernel
theorem dX4_now_126 : decode cX4_now 126 = .ok (.aload_n 0, 1) := by decide +kernel
theorem dX4_now_127 : decode cX4_now 127 = .ok (.getfield 12, 3) := by decide +kernel
theorem dX4_now_130 : decode cX4_now 130 = .ok (.invokevirtual 132, 3) := by decide +kernel
theorem dX4_now_133 : decode cX4_now 133 = .ok (.ireturn, 1) := by decide +kernel
theorem dX4_now_134 : decode cX4_now 134 = .ok (.aload_n 0, 1) := by decide +kernel
theorem dX4_now_135 : decode cX4_now 135 = .ok (.ldc 48, 2) := by decide +kernel
theorem dX4_now_137 : decode cX4_now 137 = .ok (.invokevirtual 49, 3) := by decide +kernel
theorem dX4_now_140 : decode cX4_now 140 = .ok (.ireturn, 1) := by decide +kernel
theorem dX4_ahead_0 : decode cX4_ahead 0 = .ok (.iload_n 2, 1) := by decide +kernel
theorem dX4_ahead_1 : decode cX4_ahead 1 = .ok (.iconst 1, 1) := by decide +kernel
theorem dX4_ahead_2 : decode cX4_ahead 2 = .ok (.if_icmp .eq 13, 3) := by decide +kernel
theorem dX4_ahead_5 : decode cX4_ahead 5 = .ok (.iload_n 2, 1) := by decide +kernel
theorem dX4_ahead_6 : decode cX4_ahead 6 = .ok (.iconst 3, 1) := by decide +kernel
theorem dX4_ahead_7 : decode cX4_ahead 7 = .ok (.if_icmp .eq 8, 3) := by decide +kernel
theorem dX4_ahead_10 : decode cX4_ahead 10 = .ok (.iload_n 2, 1) := by decide +kernel
theorem dX4_ahead_11 : decode cX4_ahead 11 = .ok (.iconst 4, 1) := by decide +kernel
theorem dX4_ahead_12 : decode cX4_ahead 12 = .ok (.if_icmp .ne 7, 3) := by decide +kernel
theorem dX4_ahead_15 : decode cX4_ahead 15 = .ok (.iconst 1, 1) := by decide +kernel
theorem dX4_ahead_16 : decode cX4_ahead 16 = .ok (.goto 4, 3) := by decide +kernel
theorem dX4_ahead_19 : decode cX4_ahead 19 = .ok (.iconst 0, 1) := by decide +kernel
theorem dX4_ahead_20 : decode cX4_ahead 20 = .ok (.istore 4, 2) := by decide +kernel
theorem dX4_ahead_22 : decode cX4_ahead 22 = .ok (.aload_n 0, 1) := by decide +kernel
theorem dX4_ahead_23 : decode cX4_ahead 23 = .ok (.getfield 12, 3) := by decide +kernel
theorem dX4_ahead_26 : decode cX4_ahead 26 = .ok (.iload_n 1, 1) := by decide +kernel
theorem dX4_ahead_27 : decode cX4_ahead 27 = .ok (.invokevirtual 67, 3) := by decide +kernel
theorem dX4_ahead_30 : decode cX4_ahead 30 = .ok (.ifCond .eq 18, 3) := by decide +kernel
theorem dX4_ahead_33 : decode cX4_ahead 33 = .ok (.iload 4, 2) := by decide +kernel
theorem dX4_ahead_35 : decode cX4_ahead 35 = .ok (.ifCond .eq 13, 3) := by decide +kernel
theorem dX4_ahead_38 : decode cX4_ahead 38 = .ok (.iload_n 3, 1) := by decide +kernel
theorem dX4_ahead_39 : decode cX4_ahead 39 = .ok (.iconst 0, 1) := by decide +kernel
theorem dX4_ahead_40 : decode cX4_ahead 40 = .ok (.bipush 100, 2) := by decide +kernel
theorem dX4_ahead_42 : decode cX4_ahead 42 = .ok (.invokestatic 56, 3) := by decide +kernel
theorem dX4_ahead_45 : decode cX4_ahead 45 = .ok (.ifCond .ne 10, 3) := by decide +kernel
theorem dX4_ahead_48 : decode cX4_ahead 48 = .ok (.aload_n 0, 1) := by decide +kernel
theorem dX4_ahead_49 : decode cX4_ahead 49 = .ok (.ldc 48, 2) := by decide +kernel
theorem dX4_ahead_51 : decode cX4_ahead 51 = .ok (.invokevirtual 49, 3) := by decide +kernel
theorem dX4_ahead_54 : decode cX4_ahead 54 = .ok (.ireturn, 1) := by decide +kernel
theorem dX4_ahead_55 : decode cX4_ahead 55 = .ok (.aload_n 0, 1) := by decide +kernel
theorem dX4_ahead_56 : decode cX4_ahead 56 = .ok (.invokevirtual 135, 3) := by decide +kernel
theorem dX4_ahead_59 : decode cX4_ahead 59 = .ok (.aload_n 0, 1) := by decide +kernel
theorem dX4_ahead_60 : decode cX4_ahead 60 = .ok (.getfield 16, 3) := by decide +kernel
theorem dX4_ahead_63 : decode cX4_ahead 63 = .ok (.iload_n 3, 1) := by decide +kernel
theorem dX4_ahead_64 : decode cX4_ahead 64 = .ok (.invokevirtual 107, 3) := by decide +kernel
theorem dX4_ahead_67 : decode cX4_ahead 67 = .ok (.aload_n 0, 1) := by decide +kernel
theorem dX4_ahead_68 : decode cX4_ahead 68 = .ok (.getfield 16, 3) := by decide +kernel
theorem dX4_ahead_71 : decode cX4_ahead 71 = .ok (.getfield 71, 3) := by decide +kernel
theorem dX4_ahead_74 : decode cX4_ahead 74 = .ok (.iload_n 1, 1) := by decide +kernel
theorem dX4_ahead_75 : decode cX4_ahead 75 = .ok (.aaload, 1) := by decide +kernel
theorem dX4_ahead_76 : decode cX4_ahead 76 = .ok (.iload_n 2, 1) := by decide +kernel
theorem dX4_ahead_77 : decode cX4_ahead 77 = .ok (.invokevirtual 75, 3) := by decide +kernel
theorem dX4_ahead_80 : decode cX4_ahead 80 = .ok (.ireturn, 1) := by decide +kernel
theorem dX4_glad_0 : decode cX4_glad 0 = .ok (.aload_n 0, 1) := by decide +kernel
theorem dX4_glad_1 : decode cX4_glad 1 = .ok (.getfield 12, 3) := by decide +kernel
theorem dX4_glad_4 : decode cX4_glad 4 = .ok (.iload_n 1, 1) := by decide +kernel
theorem dX4_glad_5 : decode cX4_glad 5 = .ok (.invokevirtual 67, 3) := by decide +kernel
theorem dX4_glad_8 : decode cX4_glad 8 = .ok (.ifCond .eq 13, 3) := by decide +kernel
theorem dX4_glad_11 : decode cX4_glad 11 = .ok (.iload_n 2, 1) := by decide +kernel
theorem dX4_glad_12 : decode cX4_glad 12 = .ok (.iconst 0, 1) := by decide +kernel
theorem dX4_glad_13 : decode cX4_glad 13 = .ok (.bipush 99, 2) := by decide +kernel
theorem dX4_glad_15 : decode cX4_glad 15 = .ok (.invokestatic 56, 3) := by decide +kernel
theorem dX4_glad_18 : decode cX4_glad 18 = .ok (.ifCond .ne 10, 3) := by decide +kernel
theorem dX4_glad_21 : decode cX4_glad 21 = .ok (.aload_n 0, 1) := by decide +kernel
theorem dX4_glad_22 : decode cX4_glad 22 = .ok (.ldc 48, 2) := by decide +kernel
theorem dX4_glad_24 : decode cX4_glad 24 = .ok (.invokevirtual 49, 3) := by decide +kernel
theorem dX4_glad_27 : decode cX4_glad 27 = .ok (.ireturn, 1) := by decide +kernel
theorem dX4_glad_28 : decode cX4_glad 28 = .ok (.aload_n 0, 1) := by decide +kernel
theorem dX4_glad_29 : decode cX4_glad 29 = .ok (.iload_n 1, 1) := by decide +kernel
theorem dX4_glad_30 : decode cX4_glad 30 = .ok (.iconst 0, 1) := by decide +kernel
theorem dX4_glad_31 : decode cX4_glad 31 = .ok (.iload_n 2, 1) := by decide +kernel
theorem dX4_glad_32 : decode cX4_glad 32 = .ok (.invokevirtual 138, 3) := by decide +kernel
theorem dX4_glad_35 : decode cX4_glad 35 = .ok (.ireturn, 1) := by decide +kernel
theorem dX4_sad_0 : decode cX4_sad 0 = .ok (.aload_n 0, 1) := by decide +kernel
theorem dX4_sad_1 : decode cX4_sad 1 = .ok (.getfield 12, 3) := by decide +kernel
theorem dX4_sad_4 : decode cX4_sad 4 = .ok (.iload_n 1, 1) := by decide +kernel
theorem dX4_sad_5 : decode cX4_sad 5 = .ok (.invokevirtual 67, 3) := by decide +kernel
theorem dX4_sad_8 : decode cX4_sad 8 = .ok (.ifCond .eq 13, 3) := by decide +kernel
theorem dX4_sad_11 : decode cX4_sad 11 = .ok (.iload_n 2, 1) := by decide +kernel
theorem dX4_sad_12 : decode cX4_sad 12 = .ok (.iconst 0, 1) := by decide +kernel
theorem dX4_sad_13 : decode cX4_sad 13 = .ok (.bipush 99, 2) := by decide +kernel
theorem dX4_sad_15 : decode cX4_sad 15 = .ok (.invokestatic 56, 3) := by decide +kernel
theorem dX4_sad_18 : decode cX4_sad 18 = .ok (.ifCond .ne 10, 3) := by decide +kernel
theorem dX4_sad_21 : decode cX4_sad 21 = .ok (.aload_n 0, 1) := by decide +kernel
theorem dX4_sad_22 : decode cX4_sad 22 = .ok (.ldc 48, 2) := by decide +kernel
theorem dX4_sad_24 : decode cX4_sad 24 = .ok (.invokevirtual 49, 3) := by decide +kernel
theorem dX4_sad_27 : decode cX4_sad 27 = .ok (.ireturn, 1) := by decide +kernel
theorem dX4_sad_28 : decode cX4_sad 28 = .ok (.aload_n 0, 1) := by decide +kernel
theorem dX4_sad_29 : decode cX4_sad 29 = .ok (.iload_n 1, 1) := by decide +kernel
theorem dX4_sad_30 : decode cX4_sad 30 = .ok (.iconst 1, 1) := by decide +kernel
theorem dX4_sad_31 : decode cX4_sad 31 = .ok (.iload_n 2, 1) := by decide +kernel
theorem dX4_sad_32 : decode cX4_sad 32 = .ok (.invokevirtual 138, 3) := by decide +kernel
theorem dX4_sad_35 : decode cX4_sad 35 = .ok (.ireturn, 1) := by decide +kernel
theorem dX4_when_0 : decode cX4_when 0 = .ok (.aload_n 0, 1) := by decide +kernel
theorem dX4_when_1 : decode cX4_when 1 = .ok (.getfield 12, 3) := by decide +kernel
theorem dX4_when_4 : decode cX4_when 4 = .ok (.iload_n 1, 1) := by decide +kernel
theorem dX4_when_5 : decode cX4_when 5 = .ok (.invokevirtual 67, 3) := by decide +kernel
theorem dX4_when_8 : decode cX4_when 8 = .ok (.ifCond .eq 14, 3) := by decide +kernel
theorem dX4_when_11 : decode cX4_when 11 = .ok (.iload_n 2, 1) := by decide +kernel
theorem dX4_when_12 : decode cX4_when 12 = .ok (.iconst 0, 1) := by decide +kernel
theorem dX4_when_13 : decode cX4_when 13 = .ok (.sipush 9999, 3) := by decide +kernel
theorem dX4_when_16 : decode cX4_when 16 = .ok (.invokestatic 56, 3) := by decide +kernel
theorem dX4_when_19 : decode cX4_when 19 = .ok (.ifCond .ne 10, 3) := by decide +kernel
theorem dX4_when_22 : decode cX4_when 22 = .ok (.aload_n 0, 1) := by decide +kernel
theorem dX4_when_23 : decode cX4_when 23 = .ok (.ldc 48, 2) := by decide +kernel
theorem dX4_when_25 : decode cX4_when 25 = .ok (.invokevirtual 49, 3) := by decide +kernel
theorem dX4_when_28 : decode cX4_when 28 = .ok (.ireturn, 1) := by decide +kernel
theorem dX4_when_29 : decode cX4_when 29 = .ok (.aload_n 0, 1) := by decide +kernel
theorem dX4_when_30 : decode cX4_when 30 = .ok (.iload_n 1, 1) := by decide +kernel
theorem dX4_when_31 : decode cX4_when 31 = .ok (.iconst 2, 1) := by decide +kernel
theorem dX4_when_32 : decode cX4_when 32 = .ok (.iload_n 2, 1) := by decide +kernel
theorem dX4_when_33 : decode cX4_when 33 = .ok (.invokevirtual 138, 3) := by decide +kernel
theorem dX4_when_36 : decode cX4_when 36 = .ok (.ireturn, 1) := by decide +kernel
theorem dX4_well_0 : decode cX4_well 0 = .ok (.aload_n 0, 1) := by decide +kernel
theorem dX4_well_1 : decode cX4_well 1 = .ok (.invokevirtual 135, 3) := by decide +kernel
theorem dX4_well_4 : decode cX4_well 4 = .ok (.iconst 0, 1) := by decide +kernel
theorem dX4_well_5 : decode cX4_well 5 = .ok (.istore_n 1, 1) := by decide +kernel
theorem dX4_well_6 : decode cX4_well 6 = .ok (.iload_n 1, 1) := by decide +kernel
theorem dX4_well_7 : decode cX4_well 7 = .ok (.sipush 200, 3) := by decide +kernel
theorem dX4_well_10 : decode cX4_well 10 = .ok (.if_icmp .gt 38, 3) := by decide +kernel
theorem dX4_well_13 : decode cX4_well 13 = .ok (.aload_n 0, 1) := by decide +kernel
theorem dX4_well_14 : decode cX4_well 14 = .ok (.getfield 16, 3) := by decide +kernel
theorem dX4_well_17 : decode cX4_well 17 = .ok (.invokevirtual 114, 3) := by decide +kernel
theorem dX4_well_20 : decode cX4_well 20 = .ok (.invokestatic 142, 3) := by decide +kernel
theorem dX4_well_23 : decode cX4_well 23 = .ok (.aload_n 0, 1) := by decide +kernel
theorem dX4_well_24 : decode cX4_well 24 = .ok (.getfield 16, 3) := by decide +kernel
theorem dX4_well_27 : decode cX4_well 27 = .ok (.getfield 147, 3) := by decide +kernel
theorem dX4_well_30 : decode cX4_well 30 = .ok (.if_icmp .ne 5, 3) := by decide +kernel
theorem dX4_well_33 : decode cX4_well 33 = .ok (.iload_n 1, 1) := by decide +kernel
theorem dX4_well_34 : decode cX4_well 34 = .ok (.ireturn, 1) := by decide +kernel
theorem dX4_well_35 : decode cX4_well 35 = .ok (.aload_n 0, 1) := by decide +kernel
theorem dX4_well_36 : decode cX4_well 36 = .ok (.getfield 16, 3) := by decide +kernel
theorem dX4_well_39 : decode cX4_well 39 = .ok (.invokevirtual 150, 3) := by decide +kernel
theorem dX4_well_42 : decode cX4_well 42 = .ok (.iinc 1 1, 3) := by decide +kernel
theorem dX4_well_45 : decode cX4_well 45 = .ok (.goto (-39), 3) := by decide +kernel
theorem dX4_well_48 : decode cX4_well 48 = .ok (.aload_n 0, 1) := by decide +kernel
theorem dX4_well_49 : decode cX4_well 49 = .ok (.ldc 153, 2) := by decide +kernel
theorem dX4_well_51 : decode cX4_well 51 = .ok (.invokevirtual 49, 3) := by decide +kernel
theorem dX4_well_54 : decode cX4_well 54 = .ok (.ireturn, 1) := by decide +kernel
theorem dX4_longFor_0 : decode cX4_longFor 0 = .ok (.iload_n 1, 1) := by decide +kernel
theorem dX4_longFor_1 : decode cX4_longFor 1 = .ok (.iconst 0, 1) := by decide +kernel
theorem dX4_longFor_2 : decode cX4_longFor 2 = .ok (.bipush 40, 2) := by decide +kernel
theorem dX4_longFor_4 : decode cX4_longFor 4 = .ok (.invokestatic 56, 3) := by decide +kernel
theorem dX4_longFor_7 : decode cX4_longFor 7 = .ok (.ifCond .ne 10, 3) := by decide +kernel
theorem dX4_longFor_10 : decode cX4_longFor 10 = .ok (.aload_n 0, 1) := by decide +kernel
theorem dX4_longFor_11 : decode cX4_longFor 11 = .ok (.ldc 48, 2) := by decide +kernel
theorem dX4_longFor_13 : decode cX4_longFor 13 = .ok (.invokevirtual 49, 3) := by decide +kernel
theorem dX4_longFor_16 : decode cX4_longFor 16 = .ok (.ireturn, 1) := by decide +kernel
theorem dX4_longFor_17 : decode cX4_longFor 17 = .ok (.iconst 3, 1) := by decide +kernel
theorem dX4_longFor_18 : decode cX4_longFor 18 = .ok (.invokestatic 154, 3) := by decide +kernel
theorem dX4_longFor_21 : decode cX4_longFor 21 = .ok (.istore_n 2, 1) := by decide +kernel
theorem dX4_longFor_22 : decode cX4_longFor 22 = .ok (.iconst (-1), 1) := by decide +kernel
theorem dX4_longFor_23 : decode cX4_longFor 23 = .ok (.istore_n 3, 1) := by decide +kernel
theorem dX4_longFor_24 : decode cX4_longFor 24 = .ok (.iconst 3, 1) := by decide +kernel
theorem dX4_longFor_25 : decode cX4_longFor 25 = .ok (.invokestatic 154, 3) := by decide +kernel
theorem dX4_longFor_28 : decode cX4_longFor 28 = .ok (.istore 4, 2) := by decide +kernel
theorem dX4_longFor_30 : decode cX4_longFor 30 = .ok (.iload 4, 2) := by decide +kernel
theorem dX4_longFor_32 : decode cX4_longFor 32 = .ok (.iconst 3, 1) := by decide +kernel
theorem dX4_longFor_33 : decode cX4_longFor 33 = .ok (.invokestatic 157, 3) := by decide +kernel
theorem dX4_longFor_36 : decode cX4_longFor 36 = .ok (.if_icmp .gt 38, 3) := by decide +kernel
theorem dX4_longFor_39 : decode cX4_longFor 39 = .ok (.aload_n 0, 1) := by decide +kernel
theorem dX4_longFor_40 : decode cX4_longFor 40 = .ok (.iconst 3, 1) := by decide +kernel
theorem dX4_longFor_41 : decode cX4_longFor 41 = .ok (.iload 4, 2) := by decide +kernel
theorem dX4_longFor_43 : decode cX4_longFor 43 = .ok (.iload_n 1, 1) := by decide +kernel
theorem dX4_longFor_44 : decode cX4_longFor 44 = .ok (.invokevirtual 160, 3) := by decide +kernel
theorem dX4_longFor_47 : decode cX4_longFor 47 = .ok (.aload_n 0, 1) := by decide +kernel
theorem dX4_longFor_48 : decode cX4_longFor 48 = .ok (.getfield 16, 3) := by decide +kernel
theorem dX4_longFor_51 : decode cX4_longFor 51 = .ok (.invokevirtual 111, 3) := by decide +kernel
theorem dX4_longFor_54 : decode cX4_longFor 54 = .ok (.istore 5, 2) := by decide +kernel
theorem dX4_longFor_56 : decode cX4_longFor 56 = .ok (.iload 5, 2) := by decide +kernel
theorem dX4_longFor_58 : decode cX4_longFor 58 = .ok (.iload_n 3, 1) := by decide +kernel
theorem dX4_longFor_59 : decode cX4_longFor 59 = .ok (.if_icmp .le 9, 3) := by decide +kernel
theorem dX4_longFor_62 : decode cX4_longFor 62 = .ok (.iload 5, 2) := by decide +kernel
theorem dX4_longFor_64 : decode cX4_longFor 64 = .ok (.istore_n 3, 1) := by decide +kernel
theorem dX4_longFor_65 : decode cX4_longFor 65 = .ok (.iload 4, 2) := by decide +kernel
theorem dX4_longFor_67 : decode cX4_longFor 67 = .ok (.istore_n 2, 1) := by decide +kernel
theorem dX4_longFor_68 : decode cX4_longFor 68 = .ok (.iinc 4 1, 3) := by decide +kernel
theorem dX4_longFor_71 : decode cX4_longFor 71 = .ok (.goto (-41), 3) := by decide +kernel
theorem dX4_longFor_74 : decode cX4_longFor 74 = .ok (.iload_n 2, 1) := by decide +kernel
theorem dX4_longFor_75 : decode cX4_longFor 75 = .ok (.ireturn, 1) := by decide +kernel
theorem dX4_chairsFor_0 : decode cX4_chairsFor 0 = .ok (.iload_n 1, 1) := by decide +kernel
theorem dX4_chairsFor_1 : decode cX4_chairsFor 1 = .ok (.iconst 0, 1) := by decide +kernel
theorem dX4_chairsFor_2 : decode cX4_chairsFor 2 = .ok (.sipush 9999, 3) := by decide +kernel
theorem dX4_chairsFor_5 : decode cX4_chairsFor 5 = .ok (.invokestatic 56, 3) := by decide +kernel
theorem dX4_chairsFor_8 : decode cX4_chairsFor 8 = .ok (.ifCond .eq 13, 3) := by decide +kernel
theorem dX4_chairsFor_11 : decode cX4_chairsFor 11 = .ok (.iload_n 2, 1) := by decide +kernel
theorem dX4_chairsFor_12 : decode cX4_chairsFor 12 = .ok (.iconst 0, 1) := by decide +kernel
theorem dX4_chairsFor_13 : decode cX4_chairsFor 13 = .ok (.bipush 40, 2) := by decide +kernel
theorem dX4_chairsFor_15 : decode cX4_chairsFor 15 = .ok (.invokestatic 56, 3) := by decide +kernel
theorem dX4_chairsFor_18 : decode cX4_chairsFor 18 = .ok (.ifCond .ne 10, 3) := by decide +kernel
theorem dX4_chairsFor_21 : decode cX4_chairsFor 21 = .ok (.aload_n 0, 1) := by decide +kernel
theorem dX4_chairsFor_22 : decode cX4_chairsFor 22 = .ok (.ldc 48, 2) := by decide +kernel
theorem dX4_chairsFor_24 : decode cX4_chairsFor 24 = .ok (.invokevirtual 49, 3) := by decide +kernel
theorem dX4_chairsFor_27 : decode cX4_chairsFor 27 = .ok (.ireturn, 1) := by decide +kernel
theorem dX4_chairsFor_28 : decode cX4_chairsFor 28 = .ok (.iconst 0, 1) := by decide +kernel
theorem dX4_chairsFor_29 : decode cX4_chairsFor 29 = .ok (.invokestatic 154, 3) := by decide +kernel
theorem dX4_chairsFor_32 : decode cX4_chairsFor 32 = .ok (.istore_n 3, 1) := by decide +kernel
theorem dX4_chairsFor_33 : decode cX4_chairsFor 33 = .ok (.iload_n 3, 1) := by decide +kernel
theorem dX4_chairsFor_34 : decode cX4_chairsFor 34 = .ok (.iconst 0, 1) := by decide +kernel
theorem dX4_chairsFor_35 : decode cX4_chairsFor 35 = .ok (.invokestatic 157, 3) := by decide +kernel
theorem dX4_chairsFor_38 : decode cX4_chairsFor 38 = .ok (.if_icmp .gt 29, 3) := by decide +kernel
theorem dX4_chairsFor_41 : decode cX4_chairsFor 41 = .ok (.aload_n 0, 1) := by decide +kernel
theorem dX4_chairsFor_42 : decode cX4_chairsFor 42 = .ok (.iconst 0, 1) := by decide +kernel
theorem dX4_chairsFor_43 : decode cX4_chairsFor 43 = .ok (.iload_n 3, 1) := by decide +kernel
theorem dX4_chairsFor_44 : decode cX4_chairsFor 44 = .ok (.iload_n 2, 1) := by decide +kernel
theorem dX4_chairsFor_45 : decode cX4_chairsFor 45 = .ok (.invokevirtual 160, 3) := by decide +kernel
theorem dX4_chairsFor_48 : decode cX4_chairsFor 48 = .ok (.aload_n 0, 1) := by decide +kernel
theorem dX4_chairsFor_49 : decode cX4_chairsFor 49 = .ok (.getfield 16, 3) := by decide +kernel
theorem dX4_chairsFor_52 : decode cX4_chairsFor 52 = .ok (.invokevirtual 132, 3) := by decide +kernel
theorem dX4_chairsFor_55 : decode cX4_chairsFor 55 = .ok (.iload_n 1, 1) := by decide +kernel
theorem dX4_chairsFor_56 : decode cX4_chairsFor 56 = .ok (.if_icmp .lt 5, 3) := by decide +kernel
theorem dX4_chairsFor_59 : decode cX4_chairsFor 59 = .ok (.iload_n 3, 1) := by decide +kernel
theorem dX4_chairsFor_60 : decode cX4_chairsFor 60 = .ok (.ireturn, 1) := by decide +kernel
theorem dX4_chairsFor_61 : decode cX4_chairsFor 61 = .ok (.iinc 3 1, 3) := by decide +kernel
theorem dX4_chairsFor_64 : decode cX4_chairsFor 64 = .ok (.goto (-31), 3) := by decide +kernel
theorem dX4_chairsFor_67 : decode cX4_chairsFor 67 = .ok (.aload_n 0, 1) := by decide +kernel
theorem dX4_chairsFor_68 : decode cX4_chairsFor 68 = .ok (.ldc 153, 2) := by decide +kernel
theorem dX4_chairsFor_70 : decode cX4_chairsFor 70 = .ok (.invokevirtual 49, 3) := by decide +kernel
theorem dX4_chairsFor_73 : decode cX4_chairsFor 73 = .ok (.ireturn, 1) := by decide +kernel
theorem dX4_volunteersFor_0 : decode cX4_volunteersFor 0 = .ok (.iload_n 1, 1) := by decide +kernel
theorem dX4_volunteersFor_1 : decode cX4_volunteersFor 1 = .ok (.iconst 0, 1) := by decide +kernel
theorem dX4_volunteersFor_2 : decode cX4_volunteersFor 2 = .ok (.bipush 99, 2) := by decide +kernel
theorem dX4_volunteersFor_4 : decode cX4_volunteersFor 4 = .ok (.invokestatic 56, 3) := by decide +kernel
theorem dX4_volunteersFor_7 : decode cX4_volunteersFor 7 = .ok (.ifCond .eq 13, 3) := by decide +kernel
theorem dX4_volunteersFor_10 : decode cX4_volunteersFor 10 = .ok (.iload_n 2, 1) := by decide +kernel
theorem dX4_volunteersFor_11 : decode cX4_volunteersFor 11 = .ok (.iconst 0, 1) := by decide +kernel
theorem dX4_volunteersFor_12 : decode cX4_volunteersFor 12 = .ok (.bipush 40, 2) := by decide +kernel
theorem dX4_volunteersFor_14 : decode cX4_volunteersFor 14 = .ok (.invokestatic 56, 3) := by decide +kernel
theorem dX4_volunteersFor_17 : decode cX4_volunteersFor 17 = .ok (.ifCond .ne 10, 3) := by decide +kernel
theorem dX4_volunteersFor_20 : decode cX4_volunteersFor 20 = .ok (.aload_n 0, 1) := by decide +kernel
theorem dX4_volunteersFor_21 : decode cX4_volunteersFor 21 = .ok (.ldc 48, 2) := by decide +kernel
theorem dX4_volunteersFor_23 : decode cX4_volunteersFor 23 = .ok (.invokevirtual 49, 3) := by decide +kernel
theorem dX4_volunteersFor_26 : decode cX4_volunteersFor 26 = .ok (.ireturn, 1) := by decide +kernel
theorem dX4_volunteersFor_27 : decode cX4_volunteersFor 27 = .ok (.iconst 2, 1) := by decide +kernel
theorem dX4_volunteersFor_28 : decode cX4_volunteersFor 28 = .ok (.invokestatic 154, 3) := by decide +kernel
theorem dX4_volunteersFor_31 : decode cX4_volunteersFor 31 = .ok (.istore_n 3, 1) := by decide +kernel
theorem dX4_volunteersFor_32 : decode cX4_volunteersFor 32 = .ok (.iload_n 3, 1) := by decide +kernel
theorem dX4_volunteersFor_33 : decode cX4_volunteersFor 33 = .ok (.iconst 2, 1) := by decide +kernel
theorem dX4_volunteersFor_34 : decode cX4_volunteersFor 34 = .ok (.invokestatic 157, 3) := by decide +kernel
theorem dX4_volunteersFor_37 : decode cX4_volunteersFor 37 = .ok (.if_icmp .gt 29, 3) := by decide +kernel
theorem dX4_volunteersFor_40 : decode cX4_volunteersFor 40 = .ok (.aload_n 0, 1) := by decide +kernel
theorem dX4_volunteersFor_41 : decode cX4_volunteersFor 41 = .ok (.iconst 2, 1) := by decide +kernel
theorem dX4_volunteersFor_42 : decode cX4_volunteersFor 42 = .ok (.iload_n 3, 1) := by decide +kernel
theorem dX4_volunteersFor_43 : decode cX4_volunteersFor 43 = .ok (.iload_n 2, 1) := by decide +kernel
theorem dX4_volunteersFor_44 : decode cX4_volunteersFor 44 = .ok (.invokevirtual 160, 3) := by decide +kernel
theorem dX4_volunteersFor_47 : decode cX4_volunteersFor 47 = .ok (.aload_n 0, 1) := by decide +kernel
theorem dX4_volunteersFor_48 : decode cX4_volunteersFor 48 = .ok (.getfield 16, 3) := by decide +kernel
theorem dX4_volunteersFor_51 : decode cX4_volunteersFor 51 = .ok (.invokevirtual 164, 3) := by decide +kernel
theorem dX4_volunteersFor_54 : decode cX4_volunteersFor 54 = .ok (.iload_n 1, 1) := by decide +kernel
theorem dX4_volunteersFor_55 : decode cX4_volunteersFor 55 = .ok (.if_icmp .lt 5, 3) := by decide +kernel
theorem dX4_volunteersFor_58 : decode cX4_volunteersFor 58 = .ok (.iload_n 3, 1) := by decide +kernel
theorem dX4_volunteersFor_59 : decode cX4_volunteersFor 59 = .ok (.ireturn, 1) := by decide +kernel
theorem dX4_volunteersFor_60 : decode cX4_volunteersFor 60 = .ok (.iinc 3 1, 3) := by decide +kernel
theorem dX4_volunteersFor_63 : decode cX4_volunteersFor 63 = .ok (.goto (-31), 3) := by decide +kernel
theorem dX4_volunteersFor_66 : decode cX4_volunteersFor 66 = .ok (.aload_n 0, 1) := by decide +kernel
theorem dX4_volunteersFor_67 : decode cX4_volunteersFor 67 = .ok (.ldc 153, 2) := by decide +kernel
theorem dX4_volunteersFor_69 : decode cX4_volunteersFor 69 = .ok (.invokevirtual 49, 3) := by decide +kernel
theorem dX4_volunteersFor_72 : decode cX4_volunteersFor 72 = .ok (.ireturn, 1) := by decide +kernel
theorem dX4_comeOn_0 : decode cX4_comeOn 0 = .ok (.aload_n 0, 1) := by decide +kernel
theorem dX4_comeOn_1 : decode cX4_comeOn 1 = .ok (.iconst 0, 1) := by decide +kernel
theorem dX4_comeOn_2 : decode cX4_comeOn 2 = .ok (.bipush 6, 2) := by decide +kernel
theorem dX4_comeOn_4 : decode cX4_comeOn 4 = .ok (.iload_n 1, 1) := by decide +kernel
theorem dX4_comeOn_5 : decode cX4_comeOn 5 = .ok (.iload_n 2, 1) := by decide +kernel
theorem dX4_comeOn_6 : decode cX4_comeOn 6 = .ok (.invokevirtual 167, 3) := by decide +kernel
theorem dX4_comeOn_9 : decode cX4_comeOn 9 = .ok (.ireturn, 1) := by decide +kernel
theorem dX4_kindFor_0 : decode cX4_kindFor 0 = .ok (.aload_n 0, 1) := by decide +kernel
theorem dX4_kindFor_1 : decode cX4_kindFor 1 = .ok (.iconst 1, 1) := by decide +kernel
theorem dX4_kindFor_2 : decode cX4_kindFor 2 = .ok (.bipush 7, 2) := by decide +kernel
theorem dX4_kindFor_4 : decode cX4_kindFor 4 = .ok (.iload_n 1, 1) := by decide +kernel
theorem dX4_kindFor_5 : decode cX4_kindFor 5 = .ok (.iload_n 2, 1) := by decide +kernel
theorem dX4_kindFor_6 : decode cX4_kindFor 6 = .ok (.invokevirtual 167, 3) := by decide +kernel
theorem dX4_kindFor_9 : decode cX4_kindFor 9 = .ok (.ireturn, 1) := by decide +kernel
theorem dX4_friendFor_0 : decode cX4_friendFor 0 = .ok (.aload_n 0, 1) := by decide +kernel
theorem dX4_friendFor_1 : decode cX4_friendFor 1 = .ok (.iconst 2, 1) := by decide +kernel
theorem dX4_friendFor_2 : decode cX4_friendFor 2 = .ok (.aload_n 0, 1) := by decide +kernel
theorem dX4_friendFor_3 : decode cX4_friendFor 3 = .ok (.getfield 12, 3) := by decide +kernel
theorem dX4_friendFor_6 : decode cX4_friendFor 6 = .ok (.getfield 147, 3) := by decide +kernel
theorem dX4_friendFor_9 : decode cX4_friendFor 9 = .ok (.iload_n 1, 1) := by decide +kernel
theorem dX4_friendFor_10 : decode cX4_friendFor 10 = .ok (.iload_n 2, 1) := by decide +kernel
theorem dX4_friendFor_11 : decode cX4_friendFor 11 = .ok (.invokevirtual 167, 3) := by decide +kernel
theorem dX4_friendFor_14 : decode cX4_friendFor 14 = .ok (.istore_n 3, 1) := by decide +kernel
theorem dX4_friendFor_15 : decode cX4_friendFor 15 = .ok (.iload_n 3, 1) := by decide +kernel
theorem dX4_friendFor_16 : decode cX4_friendFor 16 = .ok (.ifCond .ge 7, 3) := by decide +kernel
theorem dX4_friendFor_19 : decode cX4_friendFor 19 = .ok (.iload_n 3, 1) := by decide +kernel
theorem dX4_friendFor_20 : decode cX4_friendFor 20 = .ok (.goto 9, 3) := by decide +kernel
theorem dX4_friendFor_23 : decode cX4_friendFor 23 = .ok (.aload_n 0, 1) := by decide +kernel
theorem dX4_friendFor_24 : decode cX4_friendFor 24 = .ok (.iload_n 3, 1) := by decide +kernel
theorem dX4_friendFor_25 : decode cX4_friendFor 25 = .ok (.iload_n 1, 1) := by decide +kernel
theorem dX4_friendFor_26 : decode cX4_friendFor 26 = .ok (.invokevirtual 171, 3) := by decide +kernel
theorem dX4_friendFor_29 : decode cX4_friendFor 29 = .ok (.ireturn, 1) := by decide +kernel
theorem dX4_away_0 : decode cX4_away 0 = .ok (.aload_n 0, 1) := by decide +kernel
theorem dX4_away_1 : decode cX4_away 1 = .ok (.getfield 12, 3) := by decide +kernel
theorem dX4_away_4 : decode cX4_away 4 = .ok (.iload_n 1, 1) := by decide +kernel
theorem dX4_away_5 : decode cX4_away 5 = .ok (.invokevirtual 67, 3) := by decide +kernel
theorem dX4_away_8 : decode cX4_away 8 = .ok (.ifCond .eq 13, 3) := by decide +kernel
theorem dX4_away_11 : decode cX4_away 11 = .ok (.iload_n 2, 1) := by decide +kernel
theorem dX4_away_12 : decode cX4_away 12 = .ok (.iconst 0, 1) := by decide +kernel
theorem dX4_away_13 : decode cX4_away 13 = .ok (.bipush 20, 2) := by decide +kernel
theorem dX4_away_15 : decode cX4_away 15 = .ok (.invokestatic 56, 3) := by decide +kernel
theorem dX4_away_18 : decode cX4_away 18 = .ok (.ifCond .ne 10, 3) := by decide +kernel
theorem dX4_away_21 : decode cX4_away 21 = .ok (.aload_n 0, 1) := by decide +kernel
theorem dX4_away_22 : decode cX4_away 22 = .ok (.ldc 48, 2) := by decide +kernel
theorem dX4_away_24 : decode cX4_away 24 = .ok (.invokevirtual 49, 3) := by decide +kernel
theorem dX4_away_27 : decode cX4_away 27 = .ok (.ireturn, 1) := by decide +kernel
theorem dX4_away_28 : decode cX4_away 28 = .ok (.ldc 153, 2) := by decide +kernel
theorem dX4_away_30 : decode cX4_away 30 = .ok (.istore_n 3, 1) := by decide +kernel
theorem dX4_away_31 : decode cX4_away 31 = .ok (.bipush 8, 2) := by decide +kernel
theorem dX4_away_33 : decode cX4_away 33 = .ok (.istore 4, 2) := by decide +kernel
theorem dX4_away_35 : decode cX4_away 35 = .ok (.iconst 0, 1) := by decide +kernel
theorem dX4_away_36 : decode cX4_away 36 = .ok (.istore 5, 2) := by decide +kernel
theorem dX4_away_38 : decode cX4_away 38 = .ok (.iload 5, 2) := by decide +kernel
theorem dX4_away_40 : decode cX4_away 40 = .ok (.iconst 1, 1) := by decide +kernel
theorem dX4_away_41 : decode cX4_away 41 = .ok (.aload_n 0, 1) := by decide +kernel
theorem dX4_away_42 : decode cX4_away 42 = .ok (.getfield 12, 3) := by decide +kernel
theorem dX4_away_45 : decode cX4_away 45 = .ok (.getfield 147, 3) := by decide +kernel
theorem dX4_away_48 : decode cX4_away 48 = .ok (.ishl, 1) := by decide +kernel
theorem dX4_away_49 : decode cX4_away 49 = .ok (.if_icmp .ge 77, 3) := by decide +kernel
theorem dX4_away_52 : decode cX4_away 52 = .ok (.iload 5, 2) := by decide +kernel
theorem dX4_away_54 : decode cX4_away 54 = .ok (.iload_n 1, 1) := by decide +kernel
theorem dX4_away_55 : decode cX4_away 55 = .ok (.invokestatic 175, 3) := by decide +kernel
theorem dX4_away_58 : decode cX4_away 58 = .ok (.ifCond .ne 62, 3) := by decide +kernel
theorem dX4_away_61 : decode cX4_away 61 = .ok (.iload 5, 2) := by decide +kernel
theorem dX4_away_63 : decode cX4_away 63 = .ok (.invokestatic 142, 3) := by decide +kernel
theorem dX4_away_66 : decode cX4_away 66 = .ok (.iload 4, 2) := by decide +kernel
theorem dX4_away_68 : decode cX4_away 68 = .ok (.if_icmp .lt 6, 3) := by decide +kernel
theorem dX4_away_71 : decode cX4_away 71 = .ok (.goto 49, 3) := by decide +kernel
theorem dX4_away_74 : decode cX4_away 74 = .ok (.aload_n 0, 1) := by decide +kernel
theorem dX4_away_75 : decode cX4_away 75 = .ok (.invokevirtual 135, 3) := by decide +kernel
theorem dX4_away_78 : decode cX4_away 78 = .ok (.aload_n 0, 1) := by decide +kernel
theorem dX4_away_79 : decode cX4_away 79 = .ok (.getfield 16, 3) := by decide +kernel
theorem dX4_away_82 : decode cX4_away 82 = .ok (.iload 5, 2) := by decide +kernel
theorem dX4_away_84 : decode cX4_away 84 = .ok (.invokevirtual 178, 3) := by decide +kernel
theorem dX4_away_87 : decode cX4_away 87 = .ok (.aload_n 0, 1) := by decide +kernel
theorem dX4_away_88 : decode cX4_away 88 = .ok (.getfield 16, 3) := by decide +kernel
theorem dX4_away_91 : decode cX4_away 91 = .ok (.iload_n 2, 1) := by decide +kernel
theorem dX4_away_92 : decode cX4_away 92 = .ok (.invokevirtual 107, 3) := by decide +kernel
theorem dX4_away_95 : decode cX4_away 95 = .ok (.aload_n 0, 1) := by decide +kernel
theorem dX4_away_96 : decode cX4_away 96 = .ok (.getfield 16, 3) := by decide +kernel
theorem dX4_away_99 : decode cX4_away 99 = .ok (.getfield 71, 3) := by decide +kernel
theorem dX4_away_102 : decode cX4_away 102 = .ok (.iload_n 1, 1) := by decide +kernel
theorem dX4_away_103 : decode cX4_away 103 = .ok (.aaload, 1) := by decide +kernel
theorem dX4_away_104 : decode cX4_away 104 = .ok (.invokevirtual 181, 3) := by decide +kernel
theorem dX4_away_107 : decode cX4_away 107 = .ok (.ifCond .eq 13, 3) := by decide +kernel
theorem dX4_away_110 : decode cX4_away 110 = .ok (.iload 5, 2) := by decide +kernel
theorem dX4_away_112 : decode cX4_away 112 = .ok (.istore_n 3, 1) := by decide +kernel
theorem dX4_away_113 : decode cX4_away 113 = .ok (.iload 5, 2) := by decide +kernel
theorem dX4_away_115 : decode cX4_away 115 = .ok (.invokestatic 142, 3) := by decide +kernel
theorem dX4_away_118 : decode cX4_away 118 = .ok (.istore 4, 2) := by decide +kernel
theorem dX4_away_120 : decode cX4_away 120 = .ok (.iinc 5 1, 3) := by decide +kernel
theorem dX4_away_123 : decode cX4_away 123 = .ok (.goto (-85), 3) := by decide +kernel
theorem dX4_away_126 : decode cX4_away 126 = .ok (.iload_n 3, 1) := by decide +kernel
theorem dX4_away_127 : decode cX4_away 127 = .ok (.ldc 153, 2) := by decide +kernel
theorem dX4_away_129 : decode cX4_away 129 = .ok (.if_icmp .ne 12, 3) := by decide +kernel
theorem dX4_away_132 : decode cX4_away 132 = .ok (.aload_n 0, 1) := by decide +kernel
theorem dX4_away_133 : decode cX4_away 133 = .ok (.ldc 153, 2) := by decide +kernel
theorem dX4_away_135 : decode cX4_away 135 = .ok (.invokevirtual 49, 3) := by decide +kernel
theorem dX4_away_138 : decode cX4_away 138 = .ok (.goto 4, 3) := by decide +kernel
theorem dX4_away_141 : decode cX4_away 141 = .ok (.iload_n 3, 1) := by decide +kernel
theorem dX4_away_142 : decode cX4_away 142 = .ok (.ireturn, 1) := by decide +kernel
theorem dX4_fits_0 : decode cX4_fits 0 = .ok (.aload_n 0, 1) := by decide +kernel
theorem dX4_fits_1 : decode cX4_fits 1 = .ok (.iload_n 1, 1) := by decide +kernel
theorem dX4_fits_2 : decode cX4_fits 2 = .ok (.iload_n 2, 1) := by decide +kernel
theorem dX4_fits_3 : decode cX4_fits 3 = .ok (.invokevirtual 184, 3) := by decide +kernel
theorem dX4_fits_6 : decode cX4_fits 6 = .ok (.istore_n 3, 1) := by decide +kernel
theorem dX4_fits_7 : decode cX4_fits 7 = .ok (.iload_n 3, 1) := by decide +kernel
theorem dX4_fits_8 : decode cX4_fits 8 = .ok (.ifCond .eq 9, 3) := by decide +kernel
theorem dX4_fits_11 : decode cX4_fits 11 = .ok (.aload_n 0, 1) := by decide +kernel
theorem dX4_fits_12 : decode cX4_fits 12 = .ok (.iload_n 3, 1) := by decide +kernel
theorem dX4_fits_13 : decode cX4_fits 13 = .ok (.invokevirtual 49, 3) := by decide +kernel
theorem dX4_fits_16 : decode cX4_fits 16 = .ok (.ireturn, 1) := by decide +kernel
theorem dX4_fits_17 : decode cX4_fits 17 = .ok (.iconst 0, 1) := by decide +kernel
theorem dX4_fits_18 : decode cX4_fits 18 = .ok (.istore 4, 2) := by decide +kernel
theorem dX4_fits_20 : decode cX4_fits 20 = .ok (.iconst 0, 1) := by decide +kernel
theorem dX4_fits_21 : decode cX4_fits 21 = .ok (.istore 5, 2) := by decide +kernel
theorem dX4_fits_23 : decode cX4_fits 23 = .ok (.iload 5, 2) := by decide +kernel
theorem dX4_fits_25 : decode cX4_fits 25 = .ok (.bipush 99, 2) := by decide +kernel
theorem dX4_fits_27 : decode cX4_fits 27 = .ok (.if_icmp .gt 28, 3) := by decide +kernel
theorem dX4_fits_30 : decode cX4_fits 30 = .ok (.aload_n 0, 1) := by decide +kernel
theorem dX4_fits_31 : decode cX4_fits 31 = .ok (.aload_n 0, 1) := by decide +kernel
theorem dX4_fits_32 : decode cX4_fits 32 = .ok (.getfield 35, 3) := by decide +kernel
theorem dX4_fits_35 : decode cX4_fits 35 = .ok (.iload_n 1, 1) := by decide +kernel
theorem dX4_fits_36 : decode cX4_fits 36 = .ok (.aaload, 1) := by decide +kernel
theorem dX4_fits_37 : decode cX4_fits 37 = .ok (.iload_n 2, 1) := by decide +kernel
theorem dX4_fits_38 : decode cX4_fits 38 = .ok (.iload 5, 2) := by decide +kernel
theorem dX4_fits_40 : decode cX4_fits 40 = .ok (.invokevirtual 187, 3) := by decide +kernel
theorem dX4_fits_43 : decode cX4_fits 43 = .ok (.ifCond .eq 6, 3) := by decide +kernel
theorem dX4_fits_46 : decode cX4_fits 46 = .ok (.iinc 4 1, 3) := by decide +kernel
theorem dX4_fits_49 : decode cX4_fits 49 = .ok (.iinc 5 1, 3) := by decide +kernel
theorem dX4_fits_52 : decode cX4_fits 52 = .ok (.goto (-29), 3) := by decide +kernel
theorem dX4_fits_55 : decode cX4_fits 55 = .ok (.iload 4, 2) := by decide +kernel
theorem dX4_fits_57 : decode cX4_fits 57 = .ok (.ireturn, 1) := by decide +kernel
theorem dX4_mood_0 : decode cX4_mood 0 = .ok (.aload_n 0, 1) := by decide +kernel
theorem dX4_mood_1 : decode cX4_mood 1 = .ok (.iload_n 1, 1) := by decide +kernel
theorem dX4_mood_2 : decode cX4_mood 2 = .ok (.iload_n 2, 1) := by decide +kernel
theorem dX4_mood_3 : decode cX4_mood 3 = .ok (.invokevirtual 184, 3) := by decide +kernel
theorem dX4_mood_6 : decode cX4_mood 6 = .ok (.istore_n 3, 1) := by decide +kernel
theorem dX4_mood_7 : decode cX4_mood 7 = .ok (.iload_n 3, 1) := by decide +kernel
theorem dX4_mood_8 : decode cX4_mood 8 = .ok (.ifCond .eq 9, 3) := by decide +kernel
theorem dX4_mood_11 : decode cX4_mood 11 = .ok (.aload_n 0, 1) := by decide +kernel
theorem dX4_mood_12 : decode cX4_mood 12 = .ok (.iload_n 3, 1) := by decide +kernel
theorem dX4_mood_13 : decode cX4_mood 13 = .ok (.invokevirtual 49, 3) := by decide +kernel
theorem dX4_mood_16 : decode cX4_mood 16 = .ok (.ireturn, 1) := by decide +kernel
theorem dX4_mood_17 : decode cX4_mood 17 = .ok (.iconst 0, 1) := by decide +kernel
theorem dX4_mood_18 : decode cX4_mood 18 = .ok (.istore 4, 2) := by decide +kernel
theorem dX4_mood_20 : decode cX4_mood 20 = .ok (.iload 4, 2) := by decide +kernel
theorem dX4_mood_22 : decode cX4_mood 22 = .ok (.bipush 99, 2) := by decide +kernel
theorem dX4_mood_24 : decode cX4_mood 24 = .ok (.if_icmp .gt 28, 3) := by decide +kernel
theorem dX4_mood_27 : decode cX4_mood 27 = .ok (.aload_n 0, 1) := by decide +kernel
theorem dX4_mood_28 : decode cX4_mood 28 = .ok (.aload_n 0, 1) := by decide +kernel
theorem dX4_mood_29 : decode cX4_mood 29 = .ok (.getfield 35, 3) := by decide +kernel
theorem dX4_mood_32 : decode cX4_mood 32 = .ok (.iload_n 1, 1) := by decide +kernel
theorem dX4_mood_33 : decode cX4_mood 33 = .ok (.aaload, 1) := by decide +kernel
theorem dX4_mood_34 : decode cX4_mood 34 = .ok (.iload_n 2, 1) := by decide +kernel
theorem dX4_mood_35 : decode cX4_mood 35 = .ok (.iload 4, 2) := by decide +kernel
theorem dX4_mood_37 : decode cX4_mood 37 = .ok (.invokevirtual 187, 3) := by decide +kernel
theorem dX4_mood_40 : decode cX4_mood 40 = .ok (.ifCond .eq 6, 3) := by decide +kernel
theorem dX4_mood_43 : decode cX4_mood 43 = .ok (.iload 4, 2) := by decide +kernel
theorem dX4_mood_45 : decode cX4_mood 45 = .ok (.ireturn, 1) := by decide +kernel
theorem dX4_mood_46 : decode cX4_mood 46 = .ok (.iinc 4 1, 3) := by decide +kernel
theorem dX4_mood_49 : decode cX4_mood 49 = .ok (.goto (-29), 3) := by decide +kernel
theorem dX4_mood_52 : decode cX4_mood 52 = .ok (.aload_n 0, 1) := by decide +kernel
theorem dX4_mood_53 : decode cX4_mood 53 = .ok (.ldc 153, 2) := by decide +kernel
theorem dX4_mood_55 : decode cX4_mood 55 = .ok (.invokevirtual 49, 3) := by decide +kernel
theorem dX4_mood_58 : decode cX4_mood 58 = .ok (.ireturn, 1) := by decide +kernel
theorem dX4_kinds_0 : decode cX4_kinds 0 = .ok (.aload_n 0, 1) := by decide +kernel
theorem dX4_kinds_1 : decode cX4_kinds 1 = .ok (.iload_n 1, 1) := by decide +kernel
theorem dX4_kinds_2 : decode cX4_kinds 2 = .ok (.iload_n 2, 1) := by decide +kernel
theorem dX4_kinds_3 : decode cX4_kinds 3 = .ok (.invokevirtual 184, 3) := by decide +kernel
theorem dX4_kinds_6 : decode cX4_kinds 6 = .ok (.istore_n 3, 1) := by decide +kernel
theorem dX4_kinds_7 : decode cX4_kinds 7 = .ok (.iload_n 3, 1) := by decide +kernel
theorem dX4_kinds_8 : decode cX4_kinds 8 = .ok (.ifCond .eq 9, 3) := by decide +kernel
theorem dX4_kinds_11 : decode cX4_kinds 11 = .ok (.aload_n 0, 1) := by decide +kernel
theorem dX4_kinds_12 : decode cX4_kinds 12 = .ok (.iload_n 3, 1) := by decide +kernel
theorem dX4_kinds_13 : decode cX4_kinds 13 = .ok (.invokevirtual 49, 3) := by decide +kernel
theorem dX4_kinds_16 : decode cX4_kinds 16 = .ok (.ireturn, 1) := by decide +kernel
theorem dX4_kinds_17 : decode cX4_kinds 17 = .ok (.iconst 0, 1) := by decide +kernel
theorem dX4_kinds_18 : decode cX4_kinds 18 = .ok (.istore 4, 2) := by decide +kernel
theorem dX4_kinds_20 : decode cX4_kinds 20 = .ok (.iconst 0, 1) := by decide +kernel
theorem dX4_kinds_21 : decode cX4_kinds 21 = .ok (.istore 5, 2) := by decide +kernel
theorem dX4_kinds_23 : decode cX4_kinds 23 = .ok (.iload 5, 2) := by decide +kernel
theorem dX4_kinds_25 : decode cX4_kinds 25 = .ok (.bipush 7, 2) := by decide +kernel
theorem dX4_kinds_27 : decode cX4_kinds 27 = .ok (.if_icmp .ge 34, 3) := by decide +kernel
theorem dX4_kinds_30 : decode cX4_kinds 30 = .ok (.aload_n 0, 1) := by decide +kernel
theorem dX4_kinds_31 : decode cX4_kinds 31 = .ok (.aload_n 0, 1) := by decide +kernel
theorem dX4_kinds_32 : decode cX4_kinds 32 = .ok (.getfield 35, 3) := by decide +kernel
theorem dX4_kinds_35 : decode cX4_kinds 35 = .ok (.iload_n 1, 1) := by decide +kernel
theorem dX4_kinds_36 : decode cX4_kinds 36 = .ok (.aaload, 1) := by decide +kernel
theorem dX4_kinds_37 : decode cX4_kinds 37 = .ok (.iload_n 2, 1) := by decide +kernel
theorem dX4_kinds_38 : decode cX4_kinds 38 = .ok (.iload 5, 2) := by decide +kernel
theorem dX4_kinds_40 : decode cX4_kinds 40 = .ok (.invokevirtual 191, 3) := by decide +kernel
theorem dX4_kinds_43 : decode cX4_kinds 43 = .ok (.ifCond .eq 12, 3) := by decide +kernel
theorem dX4_kinds_46 : decode cX4_kinds 46 = .ok (.iload 4, 2) := by decide +kernel
theorem dX4_kinds_48 : decode cX4_kinds 48 = .ok (.iconst 1, 1) := by decide +kernel
theorem dX4_kinds_49 : decode cX4_kinds 49 = .ok (.iload 5, 2) := by decide +kernel
theorem dX4_kinds_51 : decode cX4_kinds 51 = .ok (.ishl, 1) := by decide +kernel
theorem dX4_kinds_52 : decode cX4_kinds 52 = .ok (.ior, 1) := by decide +kernel
theorem dX4_kinds_53 : decode cX4_kinds 53 = .ok (.istore 4, 2) := by decide +kernel
theorem dX4_kinds_55 : decode cX4_kinds 55 = .ok (.iinc 5 1, 3) := by decide +kernel
theorem dX4_kinds_58 : decode cX4_kinds 58 = .ok (.goto (-35), 3) := by decide +kernel
theorem dX4_kinds_61 : decode cX4_kinds 61 = .ok (.iload 4, 2) := by decide +kernel
theorem dX4_kinds_63 : decode cX4_kinds 63 = .ok (.ireturn, 1) := by decide +kernel
theorem dX4_come_0 : decode cX4_come 0 = .ok (.iload_n 1, 1) := by decide +kernel
theorem dX4_come_1 : decode cX4_come 1 = .ok (.iconst 1, 1) := by decide +kernel
theorem dX4_come_2 : decode cX4_come 2 = .ok (.bipush 20, 2) := by decide +kernel
theorem dX4_come_4 : decode cX4_come 4 = .ok (.invokestatic 56, 3) := by decide +kernel
theorem dX4_come_7 : decode cX4_come 7 = .ok (.ifCond .ne 10, 3) := by decide +kernel
theorem dX4_come_10 : decode cX4_come 10 = .ok (.aload_n 0, 1) := by decide +kernel
theorem dX4_come_11 : decode cX4_come 11 = .ok (.ldc 48, 2) := by decide +kernel
theorem dX4_come_13 : decode cX4_come 13 = .ok (.invokevirtual 49, 3) := by decide +kernel
theorem dX4_come_16 : decode cX4_come 16 = .ok (.ireturn, 1) := by decide +kernel
theorem dX4_come_17 : decode cX4_come 17 = .ok (.aload_n 0, 1) := by decide +kernel
theorem dX4_come_18 : decode cX4_come 18 = .ok (.getfield 12, 3) := by decide +kernel
theorem dX4_come_21 : decode cX4_come 21 = .ok (.getfield 101, 3) := by decide +kernel
theorem dX4_come_24 : decode cX4_come 24 = .ok (.iload_n 1, 1) := by decide +kernel
theorem dX4_come_25 : decode cX4_come 25 = .ok (.iadd, 1) := by decide +kernel
theorem dX4_come_26 : decode cX4_come 26 = .ok (.ldc 105, 2) := by decide +kernel
theorem dX4_come_28 : decode cX4_come 28 = .ok (.if_icmp .le 10, 3) := by decide +kernel
theorem dX4_come_31 : decode cX4_come 31 = .ok (.aload_n 0, 1) := by decide +kernel
theorem dX4_come_32 : decode cX4_come 32 = .ok (.ldc 106, 2) := by decide +kernel
theorem dX4_come_34 : decode cX4_come 34 = .ok (.invokevirtual 49, 3) := by decide +kernel
theorem dX4_come_37 : decode cX4_come 37 = .ok (.ireturn, 1) := by decide +kernel
theorem dX4_come_38 : decode cX4_come 38 = .ok (.iconst 0, 1) := by decide +kernel
theorem dX4_come_39 : decode cX4_come 39 = .ok (.istore_n 2, 1) := by decide +kernel
theorem dX4_come_40 : decode cX4_come 40 = .ok (.iload_n 2, 1) := by decide +kernel
theorem dX4_come_41 : decode cX4_come 41 = .ok (.iload_n 1, 1) := by decide +kernel
theorem dX4_come_42 : decode cX4_come 42 = .ok (.if_icmp .ge 66, 3) := by decide +kernel
theorem dX4_come_45 : decode cX4_come 45 = .ok (.aload_n 0, 1) := by decide +kernel
theorem dX4_come_46 : decode cX4_come 46 = .ok (.getfield 12, 3) := by decide +kernel
theorem dX4_come_49 : decode cX4_come 49 = .ok (.getfield 60, 3) := by decide +kernel
theorem dX4_come_52 : decode cX4_come 52 = .ok (.aload_n 0, 1) := by decide +kernel
theorem dX4_come_53 : decode cX4_come 53 = .ok (.getfield 12, 3) := by decide +kernel
theorem dX4_come_56 : decode cX4_come 56 = .ok (.getfield 101, 3) := by decide +kernel
theorem dX4_come_59 : decode cX4_come 59 = .ok (.bipush 6, 2) := by decide +kernel
theorem dX4_come_61 : decode cX4_come 61 = .ok (.irem, 1) := by decide +kernel
theorem dX4_come_62 : decode cX4_come 62 = .ok (.aload_n 0, 1) := by decide +kernel
theorem dX4_come_63 : decode cX4_come 63 = .ok (.getfield 12, 3) := by decide +kernel
theorem dX4_come_66 : decode cX4_come 66 = .ok (.invokevirtual 194, 3) := by decide +kernel
theorem dX4_come_69 : decode cX4_come 69 = .ok (.sipush 256, 3) := by decide +kernel
theorem dX4_come_72 : decode cX4_come 72 = .ok (.irem, 1) := by decide +kernel
theorem dX4_come_73 : decode cX4_come 73 = .ok (.iastore, 1) := by decide +kernel
theorem dX4_come_74 : decode cX4_come 74 = .ok (.aload_n 0, 1) := by decide +kernel
theorem dX4_come_75 : decode cX4_come 75 = .ok (.getfield 12, 3) := by decide +kernel
theorem dX4_come_78 : decode cX4_come 78 = .ok (.getfield 53, 3) := by decide +kernel
theorem dX4_come_81 : decode cX4_come 81 = .ok (.iconst 3, 1) := by decide +kernel
theorem dX4_come_82 : decode cX4_come 82 = .ok (.iconst 1, 1) := by decide +kernel
theorem dX4_come_83 : decode cX4_come 83 = .ok (.aload_n 0, 1) := by decide +kernel
theorem dX4_come_84 : decode cX4_come 84 = .ok (.getfield 12, 3) := by decide +kernel
theorem dX4_come_87 : decode cX4_come 87 = .ok (.invokevirtual 194, 3) := by decide +kernel
theorem dX4_come_90 : decode cX4_come 90 = .ok (.bipush 12, 2) := by decide +kernel
theorem dX4_come_92 : decode cX4_come 92 = .ok (.irem, 1) := by decide +kernel
theorem dX4_come_93 : decode cX4_come 93 = .ok (.iadd, 1) := by decide +kernel
theorem dX4_come_94 : decode cX4_come 94 = .ok (.iastore, 1) := by decide +kernel
theorem dX4_come_95 : decode cX4_come 95 = .ok (.aload_n 0, 1) := by decide +kernel
theorem dX4_come_96 : decode cX4_come 96 = .ok (.getfield 12, 3) := by decide +kernel
theorem dX4_come_99 : decode cX4_come 99 = .ok (.invokevirtual 150, 3) := by decide +kernel
theorem dX4_come_102 : decode cX4_come 102 = .ok (.iinc 2 1, 3) := by decide +kernel
theorem dX4_come_105 : decode cX4_come 105 = .ok (.goto (-65), 3) := by decide +kernel
theorem dX4_come_108 : decode cX4_come 108 = .ok (.aload_n 0, 1) := by decide +kernel
theorem dX4_come_109 : decode cX4_come 109 = .ok (.getfield 12, 3) := by decide +kernel
theorem dX4_come_112 : decode cX4_come 112 = .ok (.invokevirtual 111, 3) := by decide +kernel
theorem dX4_come_115 : decode cX4_come 115 = .ok (.ireturn, 1) := by decide +kernel
theorem dX4_odds_0 : decode cX4_odds 0 = .ok (.aload_n 0, 1) := by decide +kernel
theorem dX4_odds_1 : decode cX4_odds 1 = .ok (.getfield 12, 3) := by decide +kernel
theorem dX4_odds_4 : decode cX4_odds 4 = .ok (.iload_n 1, 1) := by decide +kernel
theorem dX4_odds_5 : decode cX4_odds 5 = .ok (.invokevirtual 67, 3) := by decide +kernel
theorem dX4_odds_8 : decode cX4_odds 8 = .ok (.ifCond .eq 22, 3) := by decide +kernel
theorem dX4_odds_11 : decode cX4_odds 11 = .ok (.iload_n 2, 1) := by decide +kernel
theorem dX4_odds_12 : decode cX4_odds 12 = .ok (.iconst 0, 1) := by decide +kernel
theorem dX4_odds_13 : decode cX4_odds 13 = .ok (.bipush 7, 2) := by decide +kernel
theorem dX4_odds_15 : decode cX4_odds 15 = .ok (.invokestatic 56, 3) := by decide +kernel
theorem dX4_odds_18 : decode cX4_odds 18 = .ok (.ifCond .eq 12, 3) := by decide +kernel
theorem dX4_odds_21 : decode cX4_odds 21 = .ok (.iload_n 3, 1) := by decide +kernel
theorem dX4_odds_22 : decode cX4_odds 22 = .ok (.iconst 0, 1) := by decide +kernel
theorem dX4_odds_23 : decode cX4_odds 23 = .ok (.iconst 1, 1) := by decide +kernel
theorem dX4_odds_24 : decode cX4_odds 24 = .ok (.invokestatic 56, 3) := by decide +kernel
theorem dX4_odds_27 : decode cX4_odds 27 = .ok (.ifCond .ne 11, 3) := by decide +kernel
theorem dX4_odds_30 : decode cX4_odds 30 = .ok (.aload_n 0, 1) := by decide +kernel
theorem dX4_odds_31 : decode cX4_odds 31 = .ok (.ldc 48, 2) := by decide +kernel
theorem dX4_odds_33 : decode cX4_odds 33 = .ok (.invokevirtual 49, 3) := by decide +kernel
theorem dX4_odds_36 : decode cX4_odds 36 = .ok (.i2l, 1) := by decide +kernel
theorem dX4_odds_37 : decode cX4_odds 37 = .ok (.lreturn, 1) := by decide +kernel
theorem dX4_odds_38 : decode cX4_odds 38 = .ok (.iconst 0, 1) := by decide +kernel
theorem dX4_odds_39 : decode cX4_odds 39 = .ok (.istore 4, 2) := by decide +kernel
theorem dX4_odds_41 : decode cX4_odds 41 = .ok (.iconst 0, 1) := by decide +kernel
theorem dX4_odds_42 : decode cX4_odds 42 = .ok (.istore 5, 2) := by decide +kernel
theorem dX4_odds_44 : decode cX4_odds 44 = .ok (.iload 5, 2) := by decide +kernel
theorem dX4_odds_46 : decode cX4_odds 46 = .ok (.sipush 256, 3) := by decide +kernel
theorem dX4_odds_49 : decode cX4_odds 49 = .ok (.if_icmp .ge 28, 3) := by decide +kernel
theorem dX4_odds_52 : decode cX4_odds 52 = .ok (.aload_n 0, 1) := by decide +kernel
theorem dX4_odds_53 : decode cX4_odds 53 = .ok (.getfield 12, 3) := by decide +kernel
theorem dX4_odds_56 : decode cX4_odds 56 = .ok (.iload 5, 2) := by decide +kernel
theorem dX4_odds_58 : decode cX4_odds 58 = .ok (.invokevirtual 197, 3) := by decide +kernel
theorem dX4_odds_61 : decode cX4_odds 61 = .ok (.iload_n 1, 1) := by decide +kernel
theorem dX4_odds_62 : decode cX4_odds 62 = .ok (.invokestatic 175, 3) := by decide +kernel
theorem dX4_odds_65 : decode cX4_odds 65 = .ok (.ifCond .eq 6, 3) := by decide +kernel
theorem dX4_odds_68 : decode cX4_odds 68 = .ok (.iinc 4 1, 3) := by decide +kernel
theorem dX4_odds_71 : decode cX4_odds 71 = .ok (.iinc 5 1, 3) := by decide +kernel
theorem dX4_odds_74 : decode cX4_odds 74 = .ok (.goto (-30), 3) := by decide +kernel
theorem dX4_odds_77 : decode cX4_odds 77 = .ok (.sipush 256, 3) := by decide +kernel
theorem dX4_odds_80 : decode cX4_odds 80 = .ok (.istore 5, 2) := by decide +kernel
theorem dX4_odds_82 : decode cX4_odds 82 = .ok (.iload 5, 2) := by decide +kernel
theorem dX4_odds_84 : decode cX4_odds 84 = .ok (.iconst 1, 1) := by decide +kernel
theorem dX4_odds_85 : decode cX4_odds 85 = .ok (.if_icmp .le 25, 3) := by decide +kernel
theorem dX4_odds_88 : decode cX4_odds 88 = .ok (.iload 4, 2) := by decide +kernel
theorem dX4_odds_90 : decode cX4_odds 90 = .ok (.iconst 2, 1) := by decide +kernel
theorem dX4_odds_91 : decode cX4_odds 91 = .ok (.irem, 1) := by decide +kernel
theorem dX4_odds_92 : decode cX4_odds 92 = .ok (.ifCond .ne 18, 3) := by decide +kernel
theorem dX4_odds_95 : decode cX4_odds 95 = .ok (.iload 4, 2) := by decide +kernel
theorem dX4_odds_97 : decode cX4_odds 97 = .ok (.iconst 2, 1) := by decide +kernel
theorem dX4_odds_98 : decode cX4_odds 98 = .ok (.idiv, 1) := by decide +kernel
theorem dX4_odds_99 : decode cX4_odds 99 = .ok (.istore 4, 2) := by decide +kernel
theorem dX4_odds_101 : decode cX4_odds 101 = .ok (.iload 5, 2) := by decide +kernel
theorem dX4_odds_103 : decode cX4_odds 103 = .ok (.iconst 2, 1) := by decide +kernel
theorem dX4_odds_104 : decode cX4_odds 104 = .ok (.idiv, 1) := by decide +kernel
theorem dX4_odds_105 : decode cX4_odds 105 = .ok (.istore 5, 2) := by decide +kernel
theorem dX4_odds_107 : decode cX4_odds 107 = .ok (.goto (-25), 3) := by decide +kernel
theorem dX4_odds_110 : decode cX4_odds 110 = .ok (.iload_n 3, 1) := by decide +kernel
theorem dX4_odds_111 : decode cX4_odds 111 = .ok (.ifCond .ne 8, 3) := by decide +kernel
theorem dX4_odds_114 : decode cX4_odds 114 = .ok (.iload 4, 2) := by decide +kernel
theorem dX4_odds_116 : decode cX4_odds 116 = .ok (.goto 5, 3) := by decide +kernel
theorem dX4_odds_119 : decode cX4_odds 119 = .ok (.iload 5, 2) := by decide +kernel
theorem dX4_odds_121 : decode cX4_odds 121 = .ok (.iload_n 2, 1) := by decide +kernel
theorem dX4_odds_122 : decode cX4_odds 122 = .ok (.invokestatic 200, 3) := by decide +kernel
theorem dX4_odds_125 : decode cX4_odds 125 = .ok (.lreturn, 1) := by decide +kernel
theorem dX4_seed_0 : decode cX4_seed 0 = .ok (.aload_n 0, 1) := by decide +kernel
theorem dX4_seed_1 : decode cX4_seed 1 = .ok (.getfield 12, 3) := by decide +kernel
theorem dX4_seed_4 : decode cX4_seed 4 = .ok (.getfield 204, 3) := by decide +kernel
theorem dX4_seed_7 : decode cX4_seed 7 = .ok (.istore_n 2, 1) := by decide +kernel
theorem dX4_seed_8 : decode cX4_seed 8 = .ok (.aload_n 0, 1) := by decide +kernel
theorem dX4_seed_9 : decode cX4_seed 9 = .ok (.getfield 12, 3) := by decide +kernel
theorem dX4_seed_12 : decode cX4_seed 12 = .ok (.iload_n 1, 1) := by decide +kernel
theorem dX4_seed_13 : decode cX4_seed 13 = .ok (.putfield 204, 3) := by decide +kernel
theorem dX4_seed_16 : decode cX4_seed 16 = .ok (.iload_n 2, 1) := by decide +kernel
theorem dX4_seed_17 : decode cX4_seed 17 = .ok (.ireturn, 1) := by decide +kernel
theorem dX4_feed_0 : decode cX4_feed 0 = .ok (.iload_n 2, 1) := by decide +kernel
theorem dX4_feed_1 : decode cX4_feed 1 = .ok (.iconst 1, 1) := by decide +kernel
theorem dX4_feed_2 : decode cX4_feed 2 = .ok (.iconst 4, 1) := by decide +kernel
theorem dX4_feed_3 : decode cX4_feed 3 = .ok (.invokestatic 56, 3) := by decide +kernel
theorem dX4_feed_6 : decode cX4_feed 6 = .ok (.ifCond .ne 10, 3) := by decide +kernel
theorem dX4_feed_9 : decode cX4_feed 9 = .ok (.aload_n 0, 1) := by decide +kernel
theorem dX4_feed_10 : decode cX4_feed 10 = .ok (.ldc 48, 2) := by decide +kernel
theorem dX4_feed_12 : decode cX4_feed 12 = .ok (.invokevirtual 49, 3) := by decide +kernel
theorem dX4_feed_15 : decode cX4_feed 15 = .ok (.ireturn, 1) := by decide +kernel
theorem dX4_feed_16 : decode cX4_feed 16 = .ok (.aload_n 0, 1) := by decide +kernel
theorem dX4_feed_17 : decode cX4_feed 17 = .ok (.getfield 29, 3) := by decide +kernel
theorem dX4_feed_20 : decode cX4_feed 20 = .ok (.getfield 207, 3) := by decide +kernel
theorem dX4_feed_23 : decode cX4_feed 23 = .ok (.iload_n 2, 1) := by decide +kernel
theorem dX4_feed_24 : decode cX4_feed 24 = .ok (.iadd, 1) := by decide +kernel
theorem dX4_feed_25 : decode cX4_feed 25 = .ok (.bipush 120, 2) := by decide +kernel
theorem dX4_feed_27 : decode cX4_feed 27 = .ok (.if_icmp .le 10, 3) := by decide +kernel
theorem dX4_feed_30 : decode cX4_feed 30 = .ok (.aload_n 0, 1) := by decide +kernel
theorem dX4_feed_31 : decode cX4_feed 31 = .ok (.ldc 66, 2) := by decide +kernel
theorem dX4_feed_33 : decode cX4_feed 33 = .ok (.invokevirtual 49, 3) := by decide +kernel
theorem dX4_feed_36 : decode cX4_feed 36 = .ok (.ireturn, 1) := by decide +kernel
theorem dX4_feed_37 : decode cX4_feed 37 = .ok (.iload_n 2, 1) := by decide +kernel
theorem dX4_feed_38 : decode cX4_feed 38 = .ok (.iconst 1, 1) := by decide +kernel
theorem dX4_feed_39 : decode cX4_feed 39 = .ok (.isub, 1) := by decide +kernel
theorem dX4_feed_40 : decode cX4_feed 40 = .ok (.istore_n 3, 1) := by decide +kernel
theorem dX4_feed_41 : decode cX4_feed 41 = .ok (.iload_n 3, 1) := by decide +kernel
theorem dX4_feed_42 : decode cX4_feed 42 = .ok (.ifCond .lt 26, 3) := by decide +kernel
theorem dX4_feed_45 : decode cX4_feed 45 = .ok (.aload_n 0, 1) := by decide +kernel
theorem dX4_feed_46 : decode cX4_feed 46 = .ok (.getfield 29, 3) := by decide +kernel
theorem dX4_feed_49 : decode cX4_feed 49 = .ok (.iload_n 1, 1) := by decide +kernel
theorem dX4_feed_50 : decode cX4_feed 50 = .ok (.bipush 8, 2) := by decide +kernel
theorem dX4_feed_52 : decode cX4_feed 52 = .ok (.iload_n 3, 1) := by decide +kernel
theorem dX4_feed_53 : decode cX4_feed 53 = .ok (.imul, 1) := by decide +kernel
theorem dX4_feed_54 : decode cX4_feed 54 = .ok (.iushr, 1) := by decide +kernel
theorem dX4_feed_55 : decode cX4_feed 55 = .ok (.sipush 255, 3) := by decide +kernel
theorem dX4_feed_58 : decode cX4_feed 58 = .ok (.iand, 1) := by decide +kernel
theorem dX4_feed_59 : decode cX4_feed 59 = .ok (.invokevirtual 210, 3) := by decide +kernel
theorem dX4_feed_62 : decode cX4_feed 62 = .ok (.iinc 3 (-1), 3) := by decide +kernel
theorem dX4_feed_65 : decode cX4_feed 65 = .ok (.goto (-24), 3) := by decide +kernel
theorem dX4_feed_68 : decode cX4_feed 68 = .ok (.aload_n 0, 1) := by decide +kernel
theorem dX4_feed_69 : decode cX4_feed 69 = .ok (.getfield 29, 3) := by decide +kernel
theorem dX4_feed_72 : decode cX4_feed 72 = .ok (.getfield 207, 3) := by decide +kernel
theorem dX4_feed_75 : decode cX4_feed 75 = .ok (.ireturn, 1) := by decide +kernel
theorem dX4_wipe_0 : decode cX4_wipe 0 = .ok (.aload_n 0, 1) := by decide +kernel
theorem dX4_wipe_1 : decode cX4_wipe 1 = .ok (.getfield 29, 3) := by decide +kernel
theorem dX4_wipe_4 : decode cX4_wipe 4 = .ok (.getfield 207, 3) := by decide +kernel
theorem dX4_wipe_7 : decode cX4_wipe 7 = .ok (.istore_n 1, 1) := by decide +kernel
theorem dX4_wipe_8 : decode cX4_wipe 8 = .ok (.aload_n 0, 1) := by decide +kernel
theorem dX4_wipe_9 : decode cX4_wipe 9 = .ok (.getfield 29, 3) := by decide +kernel
theorem dX4_wipe_12 : decode cX4_wipe 12 = .ok (.iconst 0, 1) := by decide +kernel
theorem dX4_wipe_13 : decode cX4_wipe 13 = .ok (.putfield 207, 3) := by decide +kernel
theorem dX4_wipe_16 : decode cX4_wipe 16 = .ok (.iload_n 1, 1) := by decide +kernel
theorem dX4_wipe_17 : decode cX4_wipe 17 = .ok (.ireturn, 1) := by decide +kernel
theorem dX4_text_0 : decode cX4_text 0 = .ok (.aload_n 0, 1) := by decide +kernel
theorem dX4_text_1 : decode cX4_text 1 = .ok (.invokevirtual 135, 3) := by decide +kernel
theorem dX4_text_4 : decode cX4_text 4 = .ok (.aload_n 0, 1) := by decide +kernel
theorem dX4_text_5 : decode cX4_text 5 = .ok (.getfield 29, 3) := by decide +kernel
theorem dX4_text_8 : decode cX4_text 8 = .ok (.aload_n 0, 1) := by decide +kernel
theorem dX4_text_9 : decode cX4_text 9 = .ok (.getfield 16, 3) := by decide +kernel
theorem dX4_text_12 : decode cX4_text 12 = .ok (.invokevirtual 213, 3) := by decide +kernel
theorem dX4_text_15 : decode cX4_text 15 = .ok (.istore_n 1, 1) := by decide +kernel
theorem dX4_text_16 : decode cX4_text 16 = .ok (.aload_n 0, 1) := by decide +kernel
theorem dX4_text_17 : decode cX4_text 17 = .ok (.getfield 29, 3) := by decide +kernel
theorem dX4_text_20 : decode cX4_text 20 = .ok (.iconst 0, 1) := by decide +kernel
theorem dX4_text_21 : decode cX4_text 21 = .ok (.putfield 207, 3) := by decide +kernel
theorem dX4_text_24 : decode cX4_text 24 = .ok (.iload_n 1, 1) := by decide +kernel
theorem dX4_text_25 : decode cX4_text 25 = .ok (.ifCond .le 14, 3) := by decide +kernel
theorem dX4_text_28 : decode cX4_text 28 = .ok (.aload_n 0, 1) := by decide +kernel
theorem dX4_text_29 : decode cX4_text 29 = .ok (.getfield 12, 3) := by decide +kernel
theorem dX4_text_32 : decode cX4_text 32 = .ok (.aload_n 0, 1) := by decide +kernel
theorem dX4_text_33 : decode cX4_text 33 = .ok (.getfield 16, 3) := by decide +kernel
theorem dX4_text_36 : decode cX4_text 36 = .ok (.invokevirtual 217, 3) := by decide +kernel
theorem dX4_text_39 : decode cX4_text 39 = .ok (.iload_n 1, 1) := by decide +kernel
theorem dX4_text_40 : decode cX4_text 40 = .ok (.ireturn, 1) := by decide +kernel
theorem dX4_hold_0 : decode cX4_hold 0 = .ok (.iload_n 1, 1) := by decide +kernel
theorem dX4_hold_1 : decode cX4_hold 1 = .ok (.iconst 0, 1) := by decide +kernel
theorem dX4_hold_2 : decode cX4_hold 2 = .ok (.bipush 9, 2) := by decide +kernel
theorem dX4_hold_4 : decode cX4_hold 4 = .ok (.invokestatic 56, 3) := by decide +kernel
theorem dX4_hold_7 : decode cX4_hold 7 = .ok (.ifCond .eq 19, 3) := by decide +kernel
theorem dX4_hold_10 : decode cX4_hold 10 = .ok (.iload_n 2, 1) := by decide +kernel
theorem dX4_hold_11 : decode cX4_hold 11 = .ok (.iconst (-1), 1) := by decide +kernel
theorem dX4_hold_12 : decode cX4_hold 12 = .ok (.if_icmp .eq 21, 3) := by decide +kernel
theorem dX4_hold_15 : decode cX4_hold 15 = .ok (.aload_n 0, 1) := by decide +kernel
theorem dX4_hold_16 : decode cX4_hold 16 = .ok (.getfield 12, 3) := by decide +kernel
theorem dX4_hold_19 : decode cX4_hold 19 = .ok (.iload_n 2, 1) := by decide +kernel
theorem dX4_hold_20 : decode cX4_hold 20 = .ok (.invokevirtual 67, 3) := by decide +kernel
theorem dX4_hold_23 : decode cX4_hold 23 = .ok (.ifCond .ne 10, 3) := by decide +kernel
theorem dX4_hold_26 : decode cX4_hold 26 = .ok (.aload_n 0, 1) := by decide +kernel
theorem dX4_hold_27 : decode cX4_hold 27 = .ok (.ldc 48, 2) := by decide +kernel
theorem dX4_hold_29 : decode cX4_hold 29 = .ok (.invokevirtual 49, 3) := by decide +kernel
theorem dX4_hold_32 : decode cX4_hold 32 = .ok (.ireturn, 1) := by decide +kernel
theorem dX4_hold_33 : decode cX4_hold 33 = .ok (.aload_n 0, 1) := by decide +kernel
theorem dX4_hold_34 : decode cX4_hold 34 = .ok (.getfield 12, 3) := by decide +kernel
theorem dX4_hold_37 : decode cX4_hold 37 = .ok (.getfield 221, 3) := by decide +kernel
theorem dX4_hold_40 : decode cX4_hold 40 = .ok (.iload_n 1, 1) := by decide +kernel
theorem dX4_hold_41 : decode cX4_hold 41 = .ok (.iload_n 2, 1) := by decide +kernel
theorem dX4_hold_42 : decode cX4_hold 42 = .ok (.iastore, 1) := by decide +kernel
theorem dX4_hold_43 : decode cX4_hold 43 = .ok (.iconst 1, 1) := by decide +kernel
theorem dX4_hold_44 : decode cX4_hold 44 = .ok (.ireturn, 1) := by decide +kernel
theorem dX4_as_0 : decode cX4_as 0 = .ok (.iload_n 1, 1) := by decide +kernel
theorem dX4_as_1 : decode cX4_as 1 = .ok (.iconst 0, 1) := by decide +kernel
theorem dX4_as_2 : decode cX4_as 2 = .ok (.bipush 9, 2) := by decide +kernel
theorem dX4_as_4 : decode cX4_as 4 = .ok (.invokestatic 56, 3) := by decide +kernel
theorem dX4_as_7 : decode cX4_as 7 = .ok (.ifCond .eq 13, 3) := by decide +kernel
theorem dX4_as_10 : decode cX4_as 10 = .ok (.iload_n 2, 1) := by decide +kernel
theorem dX4_as_11 : decode cX4_as 11 = .ok (.iconst 0, 1) := by decide +kernel
theorem dX4_as_12 : decode cX4_as 12 = .ok (.bipush 6, 2) := by decide +kernel
theorem dX4_as_14 : decode cX4_as 14 = .ok (.invokestatic 56, 3) := by decide +kernel
theorem dX4_as_17 : decode cX4_as 17 = .ok (.ifCond .ne 10, 3) := by decide +kernel
theorem dX4_as_20 : decode cX4_as 20 = .ok (.aload_n 0, 1) := by decide +kernel
theorem dX4_as_21 : decode cX4_as 21 = .ok (.ldc 48, 2) := by decide +kernel
theorem dX4_as_23 : decode cX4_as 23 = .ok (.invokevirtual 49, 3) := by decide +kernel
theorem dX4_as_26 : decode cX4_as 26 = .ok (.ireturn, 1) := by decide +kernel
theorem dX4_as_27 : decode cX4_as 27 = .ok (.aload_n 0, 1) := by decide +kernel
theorem dX4_as_28 : decode cX4_as 28 = .ok (.getfield 12, 3) := by decide +kernel
theorem dX4_as_31 : decode cX4_as 31 = .ok (.getfield 221, 3) := by decide +kernel
theorem dX4_as_34 : decode cX4_as 34 = .ok (.iload_n 1, 1) := by decide +kernel
theorem dX4_as_35 : decode cX4_as 35 = .ok (.iaload, 1) := by decide +kernel
theorem dX4_as_36 : decode cX4_as 36 = .ok (.istore_n 3, 1) := by decide +kernel
theorem dX4_as_37 : decode cX4_as 37 = .ok (.aload_n 0, 1) := by decide +kernel
theorem dX4_as_38 : decode cX4_as 38 = .ok (.getfield 12, 3) := by decide +kernel
theorem dX4_as_41 : decode cX4_as 41 = .ok (.iload_n 3, 1) := by decide +kernel
theorem dX4_as_42 : decode cX4_as 42 = .ok (.invokevirtual 67, 3) := by decide +kernel
theorem dX4_as_45 : decode cX4_as 45 = .ok (.ifCond .ne 10, 3) := by decide +kernel
theorem dX4_as_48 : decode cX4_as 48 = .ok (.aload_n 0, 1) := by decide +kernel
theorem dX4_as_49 : decode cX4_as 49 = .ok (.ldc 224, 2) := by decide +kernel
theorem dX4_as_51 : decode cX4_as 51 = .ok (.invokevirtual 49, 3) := by decide +kernel
theorem dX4_as_54 : decode cX4_as 54 = .ok (.ireturn, 1) := by decide +kernel
theorem dX4_as_55 : decode cX4_as 55 = .ok (.aload_n 0, 1) := by decide +kernel
theorem dX4_as_56 : decode cX4_as 56 = .ok (.getfield 12, 3) := by decide +kernel
theorem dX4_as_59 : decode cX4_as 59 = .ok (.getfield 71, 3) := by decide +kernel
theorem dX4_as_62 : decode cX4_as 62 = .ok (.iload_n 3, 1) := by decide +kernel
theorem dX4_as_63 : decode cX4_as 63 = .ok (.aaload, 1) := by decide +kernel
theorem dX4_as_64 : decode cX4_as 64 = .ok (.getfield 225, 3) := by decide +kernel
theorem dX4_as_67 : decode cX4_as 67 = .ok (.iload_n 2, 1) := by decide +kernel
theorem dX4_as_68 : decode cX4_as 68 = .ok (.invokestatic 228, 3) := by decide +kernel
theorem dX4_as_71 : decode cX4_as 71 = .ok (.ifCond .ne 10, 3) := by decide +kernel
theorem dX4_as_74 : decode cX4_as 74 = .ok (.aload_n 0, 1) := by decide +kernel
theorem dX4_as_75 : decode cX4_as 75 = .ok (.ldc 231, 2) := by decide +kernel
theorem dX4_as_77 : decode cX4_as 77 = .ok (.invokevirtual 49, 3) := by decide +kernel
theorem dX4_as_80 : decode cX4_as 80 = .ok (.ireturn, 1) := by decide +kernel
theorem dX4_as_81 : decode cX4_as 81 = .ok (.iload_n 3, 1) := by decide +kernel
theorem dX4_as_82 : decode cX4_as 82 = .ok (.ireturn, 1) := by decide +kernel
theorem dX4_sheet_0 : decode cX4_sheet 0 = .ok (.iload_n 2, 1) := by decide +kernel
theorem dX4_sheet_1 : decode cX4_sheet 1 = .ok (.ifCond .eq 21, 3) := by decide +kernel
theorem dX4_sheet_4 : decode cX4_sheet 4 = .ok (.iload_n 2, 1) := by decide +kernel
theorem dX4_sheet_5 : decode cX4_sheet 5 = .ok (.bipush 8, 2) := by decide +kernel
theorem dX4_sheet_7 : decode cX4_sheet 7 = .ok (.if_icmp .eq 15, 3) := by decide +kernel
theorem dX4_sheet_10 : decode cX4_sheet 10 = .ok (.iload_n 2, 1) := by decide +kernel
theorem dX4_sheet_11 : decode cX4_sheet 11 = .ok (.bipush 16, 2) := by decide +kernel
theorem dX4_sheet_13 : decode cX4_sheet 13 = .ok (.if_icmp .eq 9, 3) := by decide +kernel
theorem dX4_sheet_16 : decode cX4_sheet 16 = .ok (.iload_n 2, 1) := by decide +kernel
theorem dX4_sheet_17 : decode cX4_sheet 17 = .ok (.bipush 32, 2) := by decide +kernel
theorem dX4_sheet_19 : decode cX4_sheet 19 = .ok (.if_icmp .ne 7, 3) := by decide +kernel
theorem dX4_sheet_22 : decode cX4_sheet 22 = .ok (.iconst 1, 1) := by decide +kernel
theorem dX4_sheet_23 : decode cX4_sheet 23 = .ok (.goto 4, 3) := by decide +kernel
theorem dX4_sheet_26 : decode cX4_sheet 26 = .ok (.iconst 0, 1) := by decide +kernel
theorem dX4_sheet_27 : decode cX4_sheet 27 = .ok (.istore 4, 2) := by decide +kernel
theorem dX4_sheet_29 : decode cX4_sheet 29 = .ok (.iload_n 1, 1) := by decide +kernel
theorem dX4_sheet_30 : decode cX4_sheet 30 = .ok (.iconst 0, 1) := by decide +kernel
theorem dX4_sheet_31 : decode cX4_sheet 31 = .ok (.iconst 3, 1) := by decide +kernel
theorem dX4_sheet_32 : decode cX4_sheet 32 = .ok (.invokestatic 56, 3) := by decide +kernel
theorem dX4_sheet_35 : decode cX4_sheet 35 = .ok (.ifCond .eq 8, 3) := by decide +kernel
theorem dX4_sheet_38 : decode cX4_sheet 38 = .ok (.iload 4, 2) := by decide +kernel
theorem dX4_sheet_40 : decode cX4_sheet 40 = .ok (.ifCond .ne 10, 3) := by decide +kernel
theorem dX4_sheet_43 : decode cX4_sheet 43 = .ok (.aload_n 0, 1) := by decide +kernel
theorem dX4_sheet_44 : decode cX4_sheet 44 = .ok (.ldc 48, 2) := by decide +kernel
theorem dX4_sheet_46 : decode cX4_sheet 46 = .ok (.invokevirtual 49, 3) := by decide +kernel
theorem dX4_sheet_49 : decode cX4_sheet 49 = .ok (.ireturn, 1) := by decide +kernel
theorem dX4_sheet_50 : decode cX4_sheet 50 = .ok (.iload_n 3, 1) := by decide +kernel
theorem dX4_sheet_51 : decode cX4_sheet 51 = .ok (.ifCond .ge 10, 3) := by decide +kernel
theorem dX4_sheet_54 : decode cX4_sheet 54 = .ok (.aload_n 0, 1) := by decide +kernel
theorem dX4_sheet_55 : decode cX4_sheet 55 = .ok (.ldc 232, 2) := by decide +kernel
theorem dX4_sheet_57 : decode cX4_sheet 57 = .ok (.invokevirtual 49, 3) := by decide +kernel
theorem dX4_sheet_60 : decode cX4_sheet 60 = .ok (.ireturn, 1) := by decide +kernel
theorem dX4_sheet_61 : decode cX4_sheet 61 = .ok (.iload_n 3, 1) := by decide +kernel
theorem dX4_sheet_62 : decode cX4_sheet 62 = .ok (.bipush 40, 2) := by decide +kernel
theorem dX4_sheet_64 : decode cX4_sheet 64 = .ok (.if_icmp .le 10, 3) := by decide +kernel
theorem dX4_sheet_67 : decode cX4_sheet 67 = .ok (.aload_n 0, 1) := by decide +kernel
theorem dX4_sheet_68 : decode cX4_sheet 68 = .ok (.ldc 48, 2) := by decide +kernel
theorem dX4_sheet_70 : decode cX4_sheet 70 = .ok (.invokevirtual 49, 3) := by decide +kernel
theorem dX4_sheet_73 : decode cX4_sheet 73 = .ok (.ireturn, 1) := by decide +kernel
theorem dX4_sheet_74 : decode cX4_sheet 74 = .ok (.aload_n 0, 1) := by decide +kernel
theorem dX4_sheet_75 : decode cX4_sheet 75 = .ok (.getfield 35, 3) := by decide +kernel
theorem dX4_sheet_78 : decode cX4_sheet 78 = .ok (.iload_n 1, 1) := by decide +kernel
theorem dX4_sheet_79 : decode cX4_sheet 79 = .ok (.aaload, 1) := by decide +kernel
theorem dX4_sheet_80 : decode cX4_sheet 80 = .ok (.iload_n 2, 1) := by decide +kernel
theorem dX4_sheet_81 : decode cX4_sheet 81 = .ok (.iload_n 3, 1) := by decide +kernel
theorem dX4_sheet_82 : decode cX4_sheet 82 = .ok (.invokevirtual 233, 3) := by decide +kernel
theorem dX4_sheet_85 : decode cX4_sheet 85 = .ok (.aload_n 0, 1) := by decide +kernel
theorem dX4_sheet_86 : decode cX4_sheet 86 = .ok (.getfield 35, 3) := by decide +kernel
theorem dX4_sheet_89 : decode cX4_sheet 89 = .ok (.iload_n 1, 1) := by decide +kernel
theorem dX4_sheet_90 : decode cX4_sheet 90 = .ok (.aaload, 1) := by decide +kernel
theorem dX4_sheet_91 : decode cX4_sheet 91 = .ok (.getfield 236, 3) := by decide +kernel
theorem dX4_sheet_94 : decode cX4_sheet 94 = .ok (.ireturn, 1) := by decide +kernel
theorem dX4_write_0 : decode cX4_write 0 = .ok (.aload_n 0, 1) := by decide +kernel
theorem dX4_write_1 : decode cX4_write 1 = .ok (.iload_n 1, 1) := by decide +kernel
theorem dX4_write_2 : decode cX4_write 2 = .ok (.invokevirtual 237, 3) := by decide +kernel
theorem dX4_write_5 : decode cX4_write 5 = .ok (.istore 4, 2) := by decide +kernel
theorem dX4_write_7 : decode cX4_write 7 = .ok (.iload 4, 2) := by decide +kernel
theorem dX4_write_9 : decode cX4_write 9 = .ok (.ifCond .eq 10, 3) := by decide +kernel
theorem dX4_write_12 : decode cX4_write 12 = .ok (.aload_n 0, 1) := by decide +kernel
theorem dX4_write_13 : decode cX4_write 13 = .ok (.iload 4, 2) := by decide +kernel
theorem dX4_write_15 : decode cX4_write 15 = .ok (.invokevirtual 49, 3) := by decide +kernel
theorem dX4_write_18 : decode cX4_write 18 = .ok (.ireturn, 1) := by decide +kernel
theorem dX4_write_19 : decode cX4_write 19 = .ok (.iload_n 2, 1) := by decide +kernel
theorem dX4_write_20 : decode cX4_write 20 = .ok (.iconst 0, 1) := by decide +kernel
theorem dX4_write_21 : decode cX4_write 21 = .ok (.aload_n 0, 1) := by decide +kernel
theorem dX4_write_22 : decode cX4_write 22 = .ok (.getfield 35, 3) := by decide +kernel
theorem dX4_write_25 : decode cX4_write 25 = .ok (.iload_n 1, 1) := by decide +kernel
theorem dX4_write_26 : decode cX4_write 26 = .ok (.aaload, 1) := by decide +kernel
theorem dX4_write_27 : decode cX4_write 27 = .ok (.getfield 236, 3) := by decide +kernel
theorem dX4_write_30 : decode cX4_write 30 = .ok (.iconst 1, 1) := by decide +kernel
theorem dX4_write_31 : decode cX4_write 31 = .ok (.isub, 1) := by decide +kernel
theorem dX4_write_32 : decode cX4_write 32 = .ok (.invokestatic 56, 3) := by decide +kernel
theorem dX4_write_35 : decode cX4_write 35 = .ok (.ifCond .ne 10, 3) := by decide +kernel
theorem dX4_write_38 : decode cX4_write 38 = .ok (.aload_n 0, 1) := by decide +kernel
theorem dX4_write_39 : decode cX4_write 39 = .ok (.ldc 48, 2) := by decide +kernel
theorem dX4_write_41 : decode cX4_write 41 = .ok (.invokevirtual 49, 3) := by decide +kernel
theorem dX4_write_44 : decode cX4_write 44 = .ok (.ireturn, 1) := by decide +kernel
theorem dX4_write_45 : decode cX4_write 45 = .ok (.aload_n 0, 1) := by decide +kernel
theorem dX4_write_46 : decode cX4_write 46 = .ok (.getfield 35, 3) := by decide +kernel
theorem dX4_write_49 : decode cX4_write 49 = .ok (.iload_n 1, 1) := by decide +kernel
theorem dX4_write_50 : decode cX4_write 50 = .ok (.aaload, 1) := by decide +kernel
theorem dX4_write_51 : decode cX4_write 51 = .ok (.getfield 240, 3) := by decide +kernel
theorem dX4_write_54 : decode cX4_write 54 = .ok (.iload_n 2, 1) := by decide +kernel
theorem dX4_write_55 : decode cX4_write 55 = .ok (.aload_n 0, 1) := by decide +kernel
theorem dX4_write_56 : decode cX4_write 56 = .ok (.getfield 35, 3) := by decide +kernel
theorem dX4_write_59 : decode cX4_write 59 = .ok (.iload_n 1, 1) := by decide +kernel
theorem dX4_write_60 : decode cX4_write 60 = .ok (.aaload, 1) := by decide +kernel
theorem dX4_write_61 : decode cX4_write 61 = .ok (.iload_n 3, 1) := by decide +kernel
theorem dX4_write_62 : decode cX4_write 62 = .ok (.invokevirtual 243, 3) := by decide +kernel
theorem dX4_write_65 : decode cX4_write 65 = .ok (.iastore, 1) := by decide +kernel
theorem dX4_write_66 : decode cX4_write 66 = .ok (.iconst 1, 1) := by decide +kernel
theorem dX4_write_67 : decode cX4_write 67 = .ok (.ireturn, 1) := by decide +kernel
theorem dX4_copy_0 : decode cX4_copy 0 = .ok (.iload_n 1, 1) := by decide +kernel
theorem dX4_copy_1 : decode cX4_copy 1 = .ok (.iconst 0, 1) := by decide +kernel
theorem dX4_copy_2 : decode cX4_copy 2 = .ok (.iconst 3, 1) := by decide +kernel
theorem dX4_copy_3 : decode cX4_copy 3 = .ok (.invokestatic 56, 3) := by decide +kernel
theorem dX4_copy_6 : decode cX4_copy 6 = .ok (.ifCond .eq 12, 3) := by decide +kernel
theorem dX4_copy_9 : decode cX4_copy 9 = .ok (.iload_n 3, 1) := by decide +kernel
theorem dX4_copy_10 : decode cX4_copy 10 = .ok (.iconst 0, 1) := by decide +kernel
theorem dX4_copy_11 : decode cX4_copy 11 = .ok (.iconst 3, 1) := by decide +kernel
theorem dX4_copy_12 : decode cX4_copy 12 = .ok (.invokestatic 56, 3) := by decide +kernel
theorem dX4_copy_15 : decode cX4_copy 15 = .ok (.ifCond .ne 10, 3) := by decide +kernel
theorem dX4_copy_18 : decode cX4_copy 18 = .ok (.aload_n 0, 1) := by decide +kernel
theorem dX4_copy_19 : decode cX4_copy 19 = .ok (.ldc 48, 2) := by decide +kernel
theorem dX4_copy_21 : decode cX4_copy 21 = .ok (.invokevirtual 49, 3) := by decide +kernel
theorem dX4_copy_24 : decode cX4_copy 24 = .ok (.ireturn, 1) := by decide +kernel
theorem dX4_copy_25 : decode cX4_copy 25 = .ok (.aload_n 0, 1) := by decide +kernel
theorem dX4_copy_26 : decode cX4_copy 26 = .ok (.getfield 35, 3) := by decide +kernel
theorem dX4_copy_29 : decode cX4_copy 29 = .ok (.iload_n 1, 1) := by decide +kernel
theorem dX4_copy_30 : decode cX4_copy 30 = .ok (.aaload, 1) := by decide +kernel
theorem dX4_copy_31 : decode cX4_copy 31 = .ok (.astore 6, 2) := by decide +kernel
theorem dX4_copy_33 : decode cX4_copy 33 = .ok (.aload_n 0, 1) := by decide +kernel
theorem dX4_copy_34 : decode cX4_copy 34 = .ok (.getfield 35, 3) := by decide +kernel
theorem dX4_copy_37 : decode cX4_copy 37 = .ok (.iload_n 3, 1) := by decide +kernel
theorem dX4_copy_38 : decode cX4_copy 38 = .ok (.aaload, 1) := by decide +kernel
theorem dX4_copy_39 : decode cX4_copy 39 = .ok (.astore 7, 2) := by decide +kernel
theorem dX4_copy_41 : decode cX4_copy 41 = .ok (.aload 6, 2) := by decide +kernel
theorem dX4_copy_43 : decode cX4_copy 43 = .ok (.invokevirtual 246, 3) := by decide +kernel
theorem dX4_copy_46 : decode cX4_copy 46 = .ok (.ifCond .ne 11, 3) := by decide +kernel
theorem dX4_copy_49 : decode cX4_copy 49 = .ok (.aload 7, 2) := by decide +kernel
theorem dX4_copy_51 : decode cX4_copy 51 = .ok (.invokevirtual 246, 3) := by decide +kernel
theorem dX4_copy_54 : decode cX4_copy 54 = .ok (.ifCond .eq 10, 3) := by decide +kernel
theorem dX4_copy_57 : decode cX4_copy 57 = .ok (.aload_n 0, 1) := by decide +kernel
theorem dX4_copy_58 : decode cX4_copy 58 = .ok (.ldc 224, 2) := by decide +kernel
theorem dX4_copy_60 : decode cX4_copy 60 = .ok (.invokevirtual 49, 3) := by decide +kernel
theorem dX4_copy_63 : decode cX4_copy 63 = .ok (.ireturn, 1) := by decide +kernel
theorem dX4_copy_64 : decode cX4_copy 64 = .ok (.aload 6, 2) := by decide +kernel
theorem dX4_copy_66 : decode cX4_copy 66 = .ok (.getfield 249, 3) := by decide +kernel
theorem dX4_copy_69 : decode cX4_copy 69 = .ok (.aload 7, 2) := by decide +kernel
theorem dX4_copy_71 : decode cX4_copy 71 = .ok (.getfield 249, 3) := by decide +kernel
theorem dX4_copy_74 : decode cX4_copy 74 = .ok (.if_icmp .eq 10, 3) := by decide +kernel
theorem dX4_copy_77 : decode cX4_copy 77 = .ok (.aload_n 0, 1) := by decide +kernel
theorem dX4_copy_78 : decode cX4_copy 78 = .ok (.ldc 231, 2) := by decide +kernel
theorem dX4_copy_80 : decode cX4_copy 80 = .ok (.invokevirtual 49, 3) := by decide +kernel
theorem dX4_copy_83 : decode cX4_copy 83 = .ok (.ireturn, 1) := by decide +kernel
theorem dX4_copy_84 : decode cX4_copy 84 = .ok (.aload 6, 2) := by decide +kernel
theorem dX4_copy_86 : decode cX4_copy 86 = .ok (.iload_n 2, 1) := by decide +kernel
theorem dX4_copy_87 : decode cX4_copy 87 = .ok (.iload 5, 2) := by decide +kernel
theorem dX4_copy_89 : decode cX4_copy 89 = .ok (.invokevirtual 252, 3) := by decide +kernel
theorem dX4_copy_92 : decode cX4_copy 92 = .ok (.ifCond .eq 15, 3) := by decide +kernel
theorem dX4_copy_95 : decode cX4_copy 95 = .ok (.aload 7, 2) := by decide +kernel
theorem dX4_copy_97 : decode cX4_copy 97 = .ok (.iload 4, 2) := by decide +kernel
theorem dX4_copy_99 : decode cX4_copy 99 = .ok (.iload 5, 2) := by decide +kernel
theorem dX4_copy_101 : decode cX4_copy 101 = .ok (.invokevirtual 252, 3) := by decide +kernel
theorem dX4_copy_104 : decode cX4_copy 104 = .ok (.ifCond .ne 10, 3) := by decide +kernel
theorem dX4_copy_107 : decode cX4_copy 107 = .ok (.aload_n 0, 1) := by decide +kernel
theorem dX4_copy_108 : decode cX4_copy 108 = .ok (.ldc 48, 2) := by decide +kernel
theorem dX4_copy_110 : decode cX4_copy 110 = .ok (.invokevirtual 49, 3) := by decide +kernel
theorem dX4_copy_113 : decode cX4_copy 113 = .ok (.ireturn, 1) := by decide +kernel
theorem dX4_copy_114 : decode cX4_copy 114 = .ok (.aload 6, 2) := by decide +kernel
theorem dX4_copy_116 : decode cX4_copy 116 = .ok (.getfield 240, 3) := by decide +kernel
theorem dX4_copy_119 : decode cX4_copy 119 = .ok (.iload_n 2, 1) := by decide +kernel
theorem dX4_copy_120 : decode cX4_copy 120 = .ok (.aload 7, 2) := by decide +kernel
theorem dX4_copy_122 : decode cX4_copy 122 = .ok (.getfield 240, 3) := by decide +kernel
theorem dX4_copy_125 : decode cX4_copy 125 = .ok (.iload 4, 2) := by decide +kernel
theorem dX4_copy_127 : decode cX4_copy 127 = .ok (.iload 5, 2) := by decide +kernel
theorem dX4_copy_129 : decode cX4_copy 129 = .ok (.invokestatic 255, 3) := by decide +kernel
theorem dX4_copy_132 : decode cX4_copy 132 = .ok (.iload 5, 2) := by decide +kernel
theorem dX4_copy_134 : decode cX4_copy 134 = .ok (.ireturn, 1) := by decide +kernel
theorem dX4_load_0 : decode cX4_load 0 = .ok (.aload_n 0, 1) := by decide +kernel
theorem dX4_load_1 : decode cX4_load 1 = .ok (.iload_n 1, 1) := by decide +kernel
theorem dX4_load_2 : decode cX4_load 2 = .ok (.invokevirtual 237, 3) := by decide +kernel
theorem dX4_load_5 : decode cX4_load 5 = .ok (.istore_n 2, 1) := by decide +kernel
theorem dX4_load_6 : decode cX4_load 6 = .ok (.iload_n 2, 1) := by decide +kernel
theorem dX4_load_7 : decode cX4_load 7 = .ok (.ifCond .eq 9, 3) := by decide +kernel
theorem dX4_load_10 : decode cX4_load 10 = .ok (.aload_n 0, 1) := by decide +kernel
theorem dX4_load_11 : decode cX4_load 11 = .ok (.iload_n 2, 1) := by decide +kernel
theorem dX4_load_12 : decode cX4_load 12 = .ok (.invokevirtual 49, 3) := by decide +kernel
theorem dX4_load_15 : decode cX4_load 15 = .ok (.ireturn, 1) := by decide +kernel
theorem dX4_load_16 : decode cX4_load 16 = .ok (.aload_n 0, 1) := by decide +kernel
theorem dX4_load_17 : decode cX4_load 17 = .ok (.getfield 35, 3) := by decide +kernel
theorem dX4_load_20 : decode cX4_load 20 = .ok (.iload_n 1, 1) := by decide +kernel
theorem dX4_load_21 : decode cX4_load 21 = .ok (.aaload, 1) := by decide +kernel
theorem dX4_load_22 : decode cX4_load 22 = .ok (.astore_n 3, 1) := by decide +kernel
theorem dX4_load_23 : decode cX4_load 23 = .ok (.iconst 0, 1) := by decide +kernel
theorem dX4_load_24 : decode cX4_load 24 = .ok (.istore 4, 2) := by decide +kernel
theorem dX4_load_26 : decode cX4_load 26 = .ok (.iload 4, 2) := by decide +kernel
theorem dX4_load_28 : decode cX4_load 28 = .ok (.bipush 6, 2) := by decide +kernel
theorem dX4_load_30 : decode cX4_load 30 = .ok (.if_icmp .ge 52, 3) := by decide +kernel
theorem dX4_load_33 : decode cX4_load 33 = .ok (.iload 4, 2) := by decide +kernel
theorem dX4_load_35 : decode cX4_load 35 = .ok (.aload_n 3, 1) := by decide +kernel
theorem dX4_load_36 : decode cX4_load 36 = .ok (.getfield 236, 3) := by decide +kernel
theorem dX4_load_39 : decode cX4_load 39 = .ok (.if_icmp .ge 43, 3) := by decide +kernel
theorem dX4_load_42 : decode cX4_load 42 = .ok (.aload_n 3, 1) := by decide +kernel
theorem dX4_load_43 : decode cX4_load 43 = .ok (.getfield 240, 3) := by decide +kernel
theorem dX4_load_46 : decode cX4_load 46 = .ok (.iload 4, 2) := by decide +kernel
theorem dX4_load_48 : decode cX4_load 48 = .ok (.iaload, 1) := by decide +kernel
theorem dX4_load_49 : decode cX4_load 49 = .ok (.iconst 0, 1) := by decide +kernel
theorem dX4_load_50 : decode cX4_load 50 = .ok (.sipush 255, 3) := by decide +kernel
theorem dX4_load_53 : decode cX4_load 53 = .ok (.invokestatic 56, 3) := by decide +kernel
theorem dX4_load_56 : decode cX4_load 56 = .ok (.ifCond .eq 26, 3) := by decide +kernel
theorem dX4_load_59 : decode cX4_load 59 = .ok (.aload_n 0, 1) := by decide +kernel
theorem dX4_load_60 : decode cX4_load 60 = .ok (.getfield 12, 3) := by decide +kernel
theorem dX4_load_63 : decode cX4_load 63 = .ok (.getfield 60, 3) := by decide +kernel
theorem dX4_load_66 : decode cX4_load 66 = .ok (.iload 4, 2) := by decide +kernel
theorem dX4_load_68 : decode cX4_load 68 = .ok (.aload_n 3, 1) := by decide +kernel
theorem dX4_load_69 : decode cX4_load 69 = .ok (.getfield 240, 3) := by decide +kernel
theorem dX4_load_72 : decode cX4_load 72 = .ok (.iload 4, 2) := by decide +kernel
theorem dX4_load_74 : decode cX4_load 74 = .ok (.iaload, 1) := by decide +kernel
theorem dX4_load_75 : decode cX4_load 75 = .ok (.iastore, 1) := by decide +kernel
theorem dX4_load_76 : decode cX4_load 76 = .ok (.iinc 4 1, 3) := by decide +kernel
theorem dX4_load_79 : decode cX4_load 79 = .ok (.goto (-53), 3) := by decide +kernel
theorem dX4_load_82 : decode cX4_load 82 = .ok (.iload 4, 2) := by decide +kernel
theorem dX4_load_84 : decode cX4_load 84 = .ok (.ireturn, 1) := by decide +kernel
theorem dX4_judge_0 : decode cX4_judge 0 = .ok (.aload_n 0, 1) := by decide +kernel
theorem dX4_judge_1 : decode cX4_judge 1 = .ok (.iload_n 1, 1) := by decide +kernel
theorem dX4_judge_2 : decode cX4_judge 2 = .ok (.invokevirtual 237, 3) := by decide +kernel
theorem dX4_judge_5 : decode cX4_judge 5 = .ok (.istore_n 2, 1) := by decide +kernel
theorem dX4_judge_6 : decode cX4_judge 6 = .ok (.iload_n 2, 1) := by decide +kernel
theorem dX4_judge_7 : decode cX4_judge 7 = .ok (.ifCond .eq 9, 3) := by decide +kernel
theorem dX4_judge_10 : decode cX4_judge 10 = .ok (.aload_n 0, 1) := by decide +kernel
theorem dX4_judge_11 : decode cX4_judge 11 = .ok (.iload_n 2, 1) := by decide +kernel
theorem dX4_judge_12 : decode cX4_judge 12 = .ok (.invokevirtual 49, 3) := by decide +kernel
theorem dX4_judge_15 : decode cX4_judge 15 = .ok (.ireturn, 1) := by decide +kernel
theorem dX4_judge_16 : decode cX4_judge 16 = .ok (.aload_n 0, 1) := by decide +kernel
theorem dX4_judge_17 : decode cX4_judge 17 = .ok (.getfield 35, 3) := by decide +kernel
theorem dX4_judge_20 : decode cX4_judge 20 = .ok (.iload_n 1, 1) := by decide +kernel
theorem dX4_judge_21 : decode cX4_judge 21 = .ok (.aaload, 1) := by decide +kernel
theorem dX4_judge_22 : decode cX4_judge 22 = .ok (.astore_n 3, 1) := by decide +kernel
theorem dX4_judge_23 : decode cX4_judge 23 = .ok (.iconst 0, 1) := by decide +kernel
theorem dX4_judge_24 : decode cX4_judge 24 = .ok (.istore 4, 2) := by decide +kernel
theorem dX4_judge_26 : decode cX4_judge 26 = .ok (.iload 4, 2) := by decide +kernel
theorem dX4_judge_28 : decode cX4_judge 28 = .ok (.aload_n 3, 1) := by decide +kernel
theorem dX4_judge_29 : decode cX4_judge 29 = .ok (.getfield 236, 3) := by decide +kernel
theorem dX4_judge_32 : decode cX4_judge 32 = .ok (.if_icmp .ge 49, 3) := by decide +kernel
theorem dX4_judge_35 : decode cX4_judge 35 = .ok (.aload_n 0, 1) := by decide +kernel
theorem dX4_judge_36 : decode cX4_judge 36 = .ok (.getfield 12, 3) := by decide +kernel
theorem dX4_judge_39 : decode cX4_judge 39 = .ok (.iload 4, 2) := by decide +kernel
theorem dX4_judge_41 : decode cX4_judge 41 = .ok (.invokevirtual 67, 3) := by decide +kernel
theorem dX4_judge_44 : decode cX4_judge 44 = .ok (.ifCond .eq 26, 3) := by decide +kernel
theorem dX4_judge_47 : decode cX4_judge 47 = .ok (.aload_n 0, 1) := by decide +kernel
theorem dX4_judge_48 : decode cX4_judge 48 = .ok (.getfield 12, 3) := by decide +kernel
theorem dX4_judge_51 : decode cX4_judge 51 = .ok (.getfield 71, 3) := by decide +kernel
theorem dX4_judge_54 : decode cX4_judge 54 = .ok (.iload 4, 2) := by decide +kernel
theorem dX4_judge_56 : decode cX4_judge 56 = .ok (.aaload, 1) := by decide +kernel
theorem dX4_judge_57 : decode cX4_judge 57 = .ok (.getfield 261, 3) := by decide +kernel
theorem dX4_judge_60 : decode cX4_judge 60 = .ok (.aload_n 3, 1) := by decide +kernel
theorem dX4_judge_61 : decode cX4_judge 61 = .ok (.getfield 240, 3) := by decide +kernel
theorem dX4_judge_64 : decode cX4_judge 64 = .ok (.iload 4, 2) := by decide +kernel
theorem dX4_judge_66 : decode cX4_judge 66 = .ok (.iaload, 1) := by decide +kernel
theorem dX4_judge_67 : decode cX4_judge 67 = .ok (.if_icmp .eq 8, 3) := by decide +kernel
theorem dX4_judge_70 : decode cX4_judge 70 = .ok (.iconst 1, 1) := by decide +kernel
theorem dX4_judge_71 : decode cX4_judge 71 = .ok (.iload 4, 2) := by decide +kernel
theorem dX4_judge_73 : decode cX4_judge 73 = .ok (.iadd, 1) := by decide +kernel
theorem dX4_judge_74 : decode cX4_judge 74 = .ok (.ireturn, 1) := by decide +kernel
theorem dX4_judge_75 : decode cX4_judge 75 = .ok (.iinc 4 1, 3) := by decide +kernel
theorem dX4_judge_78 : decode cX4_judge 78 = .ok (.goto (-52), 3) := by decide +kernel
theorem dX4_judge_81 : decode cX4_judge 81 = .ok (.iconst 0, 1) := by decide +kernel
theorem dX4_judge_82 : decode cX4_judge 82 = .ok (.ireturn, 1) := by decide +kernel
theorem dX4_image_0 : decode cX4_image 0 = .ok (.aload_n 0, 1) := by decide +kernel
theorem dX4_image_1 : decode cX4_image 1 = .ok (.getfield 19, 3) := by decide +kernel
theorem dX4_image_4 : decode cX4_image 4 = .ok (.aload_n 0, 1) := by decide +kernel
theorem dX4_image_5 : decode cX4_image 5 = .ok (.getfield 12, 3) := by decide +kernel
theorem dX4_image_8 : decode cX4_image 8 = .ok (.invokevirtual 217, 3) := by decide +kernel
theorem dX4_image_11 : decode cX4_image 11 = .ok (.aload_n 0, 1) := by decide +kernel
theorem dX4_image_12 : decode cX4_image 12 = .ok (.iconst 1, 1) := by decide +kernel
theorem dX4_image_13 : decode cX4_image 13 = .ok (.putfield 22, 3) := by decide +kernel
theorem dX4_image_16 : decode cX4_image 16 = .ok (.iconst 1, 1) := by decide +kernel
theorem dX4_image_17 : decode cX4_image 17 = .ok (.ireturn, 1) := by decide +kernel
theorem dX4_undo_0 : decode cX4_undo 0 = .ok (.aload_n 0, 1) := by decide +kernel
theorem dX4_undo_1 : decode cX4_undo 1 = .ok (.getfield 22, 3) := by decide +kernel
theorem dX4_undo_4 : decode cX4_undo 4 = .ok (.ifCond .ne 10, 3) := by decide +kernel
theorem dX4_undo_7 : decode cX4_undo 7 = .ok (.aload_n 0, 1) := by decide +kernel
theorem dX4_undo_8 : decode cX4_undo 8 = .ok (.ldc 153, 2) := by decide +kernel
theorem dX4_undo_10 : decode cX4_undo 10 = .ok (.invokevirtual 49, 3) := by decide +kernel
theorem dX4_undo_13 : decode cX4_undo 13 = .ok (.ireturn, 1) := by decide +kernel
theorem dX4_undo_14 : decode cX4_undo 14 = .ok (.aload_n 0, 1) := by decide +kernel
theorem dX4_undo_15 : decode cX4_undo 15 = .ok (.getfield 12, 3) := by decide +kernel
theorem dX4_undo_18 : decode cX4_undo 18 = .ok (.aload_n 0, 1) := by decide +kernel
theorem dX4_undo_19 : decode cX4_undo 19 = .ok (.getfield 19, 3) := by decide +kernel
theorem dX4_undo_22 : decode cX4_undo 22 = .ok (.invokevirtual 217, 3) := by decide +kernel
theorem dX4_undo_25 : decode cX4_undo 25 = .ok (.aload_n 0, 1) := by decide +kernel
theorem dX4_undo_26 : decode cX4_undo 26 = .ok (.getfield 12, 3) := by decide +kernel
theorem dX4_undo_29 : decode cX4_undo 29 = .ok (.getfield 101, 3) := by decide +kernel
theorem dX4_undo_32 : decode cX4_undo 32 = .ok (.ireturn, 1) := by decide +kernel
theorem dX4_tear_0 : decode cX4_tear 0 = .ok (.aload_n 0, 1) := by decide +kernel
theorem dX4_tear_1 : decode cX4_tear 1 = .ok (.getfield 22, 3) := by decide +kernel
theorem dX4_tear_4 : decode cX4_tear 4 = .ok (.ifCond .eq 7, 3) := by decide +kernel
theorem dX4_tear_7 : decode cX4_tear 7 = .ok (.iconst 1, 1) := by decide +kernel
theorem dX4_tear_8 : decode cX4_tear 8 = .ok (.goto 4, 3) := by decide +kernel
theorem dX4_tear_11 : decode cX4_tear 11 = .ok (.iconst 0, 1) := by decide +kernel
theorem dX4_tear_12 : decode cX4_tear 12 = .ok (.istore_n 1, 1) := by decide +kernel
theorem dX4_tear_13 : decode cX4_tear 13 = .ok (.aload_n 0, 1) := by decide +kernel
theorem dX4_tear_14 : decode cX4_tear 14 = .ok (.iconst 0, 1) := by decide +kernel
theorem dX4_tear_15 : decode cX4_tear 15 = .ok (.putfield 22, 3) := by decide +kernel
theorem dX4_tear_18 : decode cX4_tear 18 = .ok (.iload_n 1, 1) := by decide +kernel
theorem dX4_tear_19 : decode cX4_tear 19 = .ok (.ireturn, 1) := by decide +kernel
theorem dX4_count_0 : decode cX4_count 0 = .ok (.iload_n 1, 1) := by decide +kernel
theorem dX4_count_1 : decode cX4_count 1 = .ok (.tableswitch 114 0 7 #[47, 55, 63, 71, 79, 90, 98, 106], 47) := by decide +kernel
theorem dX4_count_48 : decode cX4_count 48 = .ok (.aload_n 0, 1) := by decide +kernel
theorem dX4_count_49 : decode cX4_count 49 = .ok (.getfield 12, 3) := by decide +kernel
theorem dX4_count_52 : decode cX4_count 52 = .ok (.getfield 101, 3) := by decide +kernel
theorem dX4_count_55 : decode cX4_count 55 = .ok (.ireturn, 1) := by decide +kernel
theorem dX4_count_56 : decode cX4_count 56 = .ok (.aload_n 0, 1) := by decide +kernel
theorem dX4_count_57 : decode cX4_count 57 = .ok (.getfield 12, 3) := by decide +kernel
theorem dX4_count_60 : decode cX4_count 60 = .ok (.getfield 147, 3) := by decide +kernel
theorem dX4_count_63 : decode cX4_count 63 = .ok (.ireturn, 1) := by decide +kernel
theorem dX4_count_64 : decode cX4_count 64 = .ok (.aload_n 0, 1) := by decide +kernel
theorem dX4_count_65 : decode cX4_count 65 = .ok (.getfield 12, 3) := by decide +kernel
theorem dX4_count_68 : decode cX4_count 68 = .ok (.invokevirtual 111, 3) := by decide +kernel
theorem dX4_count_71 : decode cX4_count 71 = .ok (.ireturn, 1) := by decide +kernel
theorem dX4_count_72 : decode cX4_count 72 = .ok (.aload_n 0, 1) := by decide +kernel
theorem dX4_count_73 : decode cX4_count 73 = .ok (.getfield 12, 3) := by decide +kernel
theorem dX4_count_76 : decode cX4_count 76 = .ok (.invokevirtual 132, 3) := by decide +kernel
theorem dX4_count_79 : decode cX4_count 79 = .ok (.ireturn, 1) := by decide +kernel
theorem dX4_count_80 : decode cX4_count 80 = .ok (.aload_n 0, 1) := by decide +kernel
theorem dX4_count_81 : decode cX4_count 81 = .ok (.getfield 12, 3) := by decide +kernel
theorem dX4_count_84 : decode cX4_count 84 = .ok (.invokevirtual 114, 3) := by decide +kernel
theorem dX4_count_87 : decode cX4_count 87 = .ok (.invokestatic 142, 3) := by decide +kernel
theorem dX4_count_90 : decode cX4_count 90 = .ok (.ireturn, 1) := by decide +kernel
theorem dX4_count_91 : decode cX4_count 91 = .ok (.aload_n 0, 1) := by decide +kernel
theorem dX4_count_92 : decode cX4_count 92 = .ok (.getfield 29, 3) := by decide +kernel
theorem dX4_count_95 : decode cX4_count 95 = .ok (.getfield 207, 3) := by decide +kernel
theorem dX4_count_98 : decode cX4_count 98 = .ok (.ireturn, 1) := by decide +kernel
theorem dX4_count_99 : decode cX4_count 99 = .ok (.aload_n 0, 1) := by decide +kernel
theorem dX4_count_100 : decode cX4_count 100 = .ok (.getfield 12, 3) := by decide +kernel
theorem dX4_count_103 : decode cX4_count 103 = .ok (.getfield 204, 3) := by decide +kernel
theorem dX4_count_106 : decode cX4_count 106 = .ok (.ireturn, 1) := by decide +kernel
theorem dX4_count_107 : decode cX4_count 107 = .ok (.aload_n 0, 1) := by decide +kernel
theorem dX4_count_108 : decode cX4_count 108 = .ok (.getfield 12, 3) := by decide +kernel
theorem dX4_count_111 : decode cX4_count 111 = .ok (.invokevirtual 264, 3) := by decide +kernel
theorem dX4_count_114 : decode cX4_count 114 = .ok (.ireturn, 1) := by decide +kernel
theorem dX4_count_115 : decode cX4_count 115 = .ok (.aload_n 0, 1) := by decide +kernel
theorem dX4_count_116 : decode cX4_count 116 = .ok (.ldc 48, 2) := by decide +kernel
theorem dX4_count_118 : decode cX4_count 118 = .ok (.invokevirtual 49, 3) := by decide +kernel
theorem dX4_count_121 : decode cX4_count 121 = .ok (.ireturn, 1) := by decide +kernel
theorem dX4_status_0 : decode cX4_status 0 = .ok (.iload_n 1, 1) := by decide +kernel
theorem dX4_status_1 : decode cX4_status 1 = .ok (.iconst (-1), 1) := by decide +kernel
theorem dX4_status_2 : decode cX4_status 2 = .ok (.bipush 6, 2) := by decide +kernel
theorem dX4_status_4 : decode cX4_status 4 = .ok (.invokestatic 56, 3) := by decide +kernel
theorem dX4_status_7 : decode cX4_status 7 = .ok (.ifCond .ne 10, 3) := by decide +kernel
theorem dX4_status_10 : decode cX4_status 10 = .ok (.aload_n 0, 1) := by decide +kernel
theorem dX4_status_11 : decode cX4_status 11 = .ok (.ldc 48, 2) := by decide +kernel
theorem dX4_status_13 : decode cX4_status 13 = .ok (.invokevirtual 49, 3) := by decide +kernel
theorem dX4_status_16 : decode cX4_status 16 = .ok (.ireturn, 1) := by decide +kernel
theorem dX4_status_17 : decode cX4_status 17 = .ok (.iload_n 1, 1) := by decide +kernel
theorem dX4_status_18 : decode cX4_status 18 = .ok (.ifCond .lt 10, 3) := by decide +kernel
theorem dX4_status_21 : decode cX4_status 21 = .ok (.aload_n 0, 1) := by decide +kernel
theorem dX4_status_22 : decode cX4_status 22 = .ok (.getfield 40, 3) := by decide +kernel
theorem dX4_status_25 : decode cX4_status 25 = .ok (.iload_n 1, 1) := by decide +kernel
theorem dX4_status_26 : decode cX4_status 26 = .ok (.iaload, 1) := by decide +kernel
theorem dX4_status_27 : decode cX4_status 27 = .ok (.ireturn, 1) := by decide +kernel
theorem dX4_status_28 : decode cX4_status 28 = .ok (.iconst 0, 1) := by decide +kernel
theorem dX4_status_29 : decode cX4_status 29 = .ok (.istore_n 2, 1) := by decide +kernel
theorem dX4_status_30 : decode cX4_status 30 = .ok (.iconst 0, 1) := by decide +kernel
theorem dX4_status_31 : decode cX4_status 31 = .ok (.istore_n 3, 1) := by decide +kernel
theorem dX4_status_32 : decode cX4_status 32 = .ok (.iload_n 3, 1) := by decide +kernel
theorem dX4_status_33 : decode cX4_status 33 = .ok (.bipush 7, 2) := by decide +kernel
theorem dX4_status_35 : decode cX4_status 35 = .ok (.if_icmp .ge 18, 3) := by decide +kernel
theorem dX4_status_38 : decode cX4_status 38 = .ok (.iload_n 2, 1) := by decide +kernel
theorem dX4_status_39 : decode cX4_status 39 = .ok (.aload_n 0, 1) := by decide +kernel
theorem dX4_status_40 : decode cX4_status 40 = .ok (.getfield 40, 3) := by decide +kernel
theorem dX4_status_43 : decode cX4_status 43 = .ok (.iload_n 3, 1) := by decide +kernel
theorem dX4_status_44 : decode cX4_status 44 = .ok (.iaload, 1) := by decide +kernel
theorem dX4_status_45 : decode cX4_status 45 = .ok (.iadd, 1) := by decide +kernel
theorem dX4_status_46 : decode cX4_status 46 = .ok (.istore_n 2, 1) := by decide +kernel
theorem dX4_status_47 : decode cX4_status 47 = .ok (.iinc 3 1, 3) := by decide +kernel
theorem dX4_status_50 : decode cX4_status 50 = .ok (.goto (-18), 3) := by decide +kernel
theorem dX4_status_53 : decode cX4_status 53 = .ok (.iload_n 2, 1) := by decide +kernel
theorem dX4_status_54 : decode cX4_status 54 = .ok (.ireturn, 1) := by decide +kernel
theorem dX4_tell_0 : decode cX4_tell 0 = .ok (.ldc 48, 2) := by decide +kernel
theorem dX4_tell_2 : decode cX4_tell 2 = .ok (.iload_n 1, 1) := by decide +kernel
theorem dX4_tell_3 : decode cX4_tell 3 = .ok (.isub, 1) := by decide +kernel
theorem dX4_tell_4 : decode cX4_tell 4 = .ok (.istore_n 2, 1) := by decide +kernel
theorem dX4_tell_5 : decode cX4_tell 5 = .ok (.iload_n 2, 1) := by decide +kernel
theorem dX4_tell_6 : decode cX4_tell 6 = .ok (.iconst 0, 1) := by decide +kernel
theorem dX4_tell_7 : decode cX4_tell 7 = .ok (.bipush 6, 2) := by decide +kernel
theorem dX4_tell_9 : decode cX4_tell 9 = .ok (.invokestatic 56, 3) := by decide +kernel
theorem dX4_tell_12 : decode cX4_tell 12 = .ok (.ifCond .eq 13, 3) := by decide +kernel
theorem dX4_tell_15 : decode cX4_tell 15 = .ok (.aload_n 0, 1) := by decide +kernel
theorem dX4_tell_16 : decode cX4_tell 16 = .ok (.getfield 40, 3) := by decide +kernel
theorem dX4_tell_19 : decode cX4_tell 19 = .ok (.iload_n 2, 1) := by decide +kernel
theorem dX4_tell_20 : decode cX4_tell 20 = .ok (.dup2, 1) := by decide +kernel
theorem dX4_tell_21 : decode cX4_tell 21 = .ok (.iaload, 1) := by decide +kernel
theorem dX4_tell_22 : decode cX4_tell 22 = .ok (.iconst 1, 1) := by decide +kernel
theorem dX4_tell_23 : decode cX4_tell 23 = .ok (.iadd, 1) := by decide +kernel
theorem dX4_tell_24 : decode cX4_tell 24 = .ok (.iastore, 1) := by decide +kernel
theorem dX4_tell_25 : decode cX4_tell 25 = .ok (.iload_n 1, 1) := by decide +kernel
theorem dX4_tell_26 : decode cX4_tell 26 = .ok (.ireturn, 1) := by decide +kernel
theorem dX4_lackOf_0 : decode cX4_lackOf 0 = .ok (.iload_n 1, 1) := by decide +kernel
theorem dX4_lackOf_1 : decode cX4_lackOf 1 = .ok (.iconst 0, 1) := by decide +kernel
theorem dX4_lackOf_2 : decode cX4_lackOf 2 = .ok (.iconst 3, 1) := by decide +kernel
theorem dX4_lackOf_3 : decode cX4_lackOf 3 = .ok (.invokestatic 56, 3) := by decide +kernel
theorem dX4_lackOf_6 : decode cX4_lackOf 6 = .ok (.ifCond .ne 6, 3) := by decide +kernel
theorem dX4_lackOf_9 : decode cX4_lackOf 9 = .ok (.ldc 48, 2) := by decide +kernel
theorem dX4_lackOf_11 : decode cX4_lackOf 11 = .ok (.ireturn, 1) := by decide +kernel
theorem dX4_lackOf_12 : decode cX4_lackOf 12 = .ok (.aload_n 0, 1) := by decide +kernel
theorem dX4_lackOf_13 : decode cX4_lackOf 13 = .ok (.getfield 35, 3) := by decide +kernel
theorem dX4_lackOf_16 : decode cX4_lackOf 16 = .ok (.iload_n 1, 1) := by decide +kernel
theorem dX4_lackOf_17 : decode cX4_lackOf 17 = .ok (.aaload, 1) := by decide +kernel
theorem dX4_lackOf_18 : decode cX4_lackOf 18 = .ok (.invokevirtual 246, 3) := by decide +kernel
theorem dX4_lackOf_21 : decode cX4_lackOf 21 = .ok (.ifCond .eq 8, 3) := by decide +kernel
theorem dX4_lackOf_24 : decode cX4_lackOf 24 = .ok (.ldc 224, 2) := by decide +kernel
theorem dX4_lackOf_26 : decode cX4_lackOf 26 = .ok (.goto 4, 3) := by decide +kernel
theorem dX4_lackOf_29 : decode cX4_lackOf 29 = .ok (.iconst 0, 1) := by decide +kernel
theorem dX4_lackOf_30 : decode cX4_lackOf 30 = .ok (.ireturn, 1) := by decide +kernel
theorem dX4_lackFor_0 : decode cX4_lackFor 0 = .ok (.aload_n 0, 1) := by decide +kernel
theorem dX4_lackFor_1 : decode cX4_lackFor 1 = .ok (.iload_n 1, 1) := by decide +kernel
theorem dX4_lackFor_2 : decode cX4_lackFor 2 = .ok (.invokevirtual 237, 3) := by decide +kernel
theorem dX4_lackFor_5 : decode cX4_lackFor 5 = .ok (.istore_n 3, 1) := by decide +kernel
theorem dX4_lackFor_6 : decode cX4_lackFor 6 = .ok (.iload_n 3, 1) := by decide +kernel
theorem dX4_lackFor_7 : decode cX4_lackFor 7 = .ok (.ifCond .eq 5, 3) := by decide +kernel
theorem dX4_lackFor_10 : decode cX4_lackFor 10 = .ok (.iload_n 3, 1) := by decide +kernel
theorem dX4_lackFor_11 : decode cX4_lackFor 11 = .ok (.ireturn, 1) := by decide +kernel
theorem dX4_lackFor_12 : decode cX4_lackFor 12 = .ok (.aload_n 0, 1) := by decide +kernel
theorem dX4_lackFor_13 : decode cX4_lackFor 13 = .ok (.getfield 12, 3) := by decide +kernel
theorem dX4_lackFor_16 : decode cX4_lackFor 16 = .ok (.iload_n 2, 1) := by decide +kernel
theorem dX4_lackFor_17 : decode cX4_lackFor 17 = .ok (.invokevirtual 67, 3) := by decide +kernel
theorem dX4_lackFor_20 : decode cX4_lackFor 20 = .ok (.ifCond .eq 7, 3) := by decide +kernel
theorem dX4_lackFor_23 : decode cX4_lackFor 23 = .ok (.iconst 0, 1) := by decide +kernel
theorem dX4_lackFor_24 : decode cX4_lackFor 24 = .ok (.goto 5, 3) := by decide +kernel
theorem dX4_lackFor_27 : decode cX4_lackFor 27 = .ok (.ldc 48, 2) := by decide +kernel
theorem dX4_lackFor_29 : decode cX4_lackFor 29 = .ok (.ireturn, 1) := by decide +kernel
theorem dX4_beginTrial_0 : decode cX4_beginTrial 0 = .ok (.aload_n 0, 1) := by decide +kernel
theorem dX4_beginTrial_1 : decode cX4_beginTrial 1 = .ok (.getfield 16, 3) := by decide +kernel
theorem dX4_beginTrial_4 : decode cX4_beginTrial 4 = .ok (.aload_n 0, 1) := by decide +kernel
theorem dX4_beginTrial_5 : decode cX4_beginTrial 5 = .ok (.getfield 12, 3) := by decide +kernel
theorem dX4_beginTrial_8 : decode cX4_beginTrial 8 = .ok (.invokevirtual 217, 3) := by decide +kernel
theorem dX4_beginTrial_11 : decode cX4_beginTrial 11 = .ok (.return_, 1) := by decide +kernel
theorem dX4_tryWith_0 : decode cX4_tryWith 0 = .ok (.aload_n 0, 1) := by decide +kernel
theorem dX4_tryWith_1 : decode cX4_tryWith 1 = .ok (.invokevirtual 135, 3) := by decide +kernel
theorem dX4_tryWith_4 : decode cX4_tryWith 4 = .ok (.iload_n 1, 1) := by decide +kernel
theorem dX4_tryWith_5 : decode cX4_tryWith 5 = .ok (.iload_n 2, 1) := by decide +kernel
theorem dX4_tryWith_6 : decode cX4_tryWith 6 = .ok (.invokestatic 44, 3) := by decide +kernel
theorem dX4_tryWith_9 : decode cX4_tryWith 9 = .ok (.ifCond .eq 13, 3) := by decide +kernel
theorem dX4_tryWith_12 : decode cX4_tryWith 12 = .ok (.aload_n 0, 1) := by decide +kernel
theorem dX4_tryWith_13 : decode cX4_tryWith 13 = .ok (.getfield 16, 3) := by decide +kernel
theorem dX4_tryWith_16 : decode cX4_tryWith 16 = .ok (.getfield 53, 3) := by decide +kernel
theorem dX4_tryWith_19 : decode cX4_tryWith 19 = .ok (.iload_n 1, 1) := by decide +kernel
theorem dX4_tryWith_20 : decode cX4_tryWith 20 = .ok (.iload_n 2, 1) := by decide +kernel
theorem dX4_tryWith_21 : decode cX4_tryWith 21 = .ok (.iastore, 1) := by decide +kernel
theorem dX4_tryWith_22 : decode cX4_tryWith 22 = .ok (.aload_n 0, 1) := by decide +kernel
theorem dX4_tryWith_23 : decode cX4_tryWith 23 = .ok (.getfield 16, 3) := by decide +kernel
theorem dX4_tryWith_26 : decode cX4_tryWith 26 = .ok (.iload_n 3, 1) := by decide +kernel
theorem dX4_tryWith_27 : decode cX4_tryWith 27 = .ok (.invokevirtual 107, 3) := by decide +kernel
theorem dX4_tryWith_30 : decode cX4_tryWith 30 = .ok (.return_, 1) := by decide +kernel
theorem dX4_bestChoice_0 : decode cX4_bestChoice 0 = .ok (.aload_n 0, 1) := by decide +kernel
theorem dX4_bestChoice_1 : decode cX4_bestChoice 1 = .ok (.getfield 12, 3) := by decide +kernel
theorem dX4_bestChoice_4 : decode cX4_bestChoice 4 = .ok (.iload_n 3, 1) := by decide +kernel
theorem dX4_bestChoice_5 : decode cX4_bestChoice 5 = .ok (.invokevirtual 67, 3) := by decide +kernel
theorem dX4_bestChoice_8 : decode cX4_bestChoice 8 = .ok (.ifCond .eq 14, 3) := by decide +kernel
theorem dX4_bestChoice_11 : decode cX4_bestChoice 11 = .ok (.iload 4, 2) := by decide +kernel
theorem dX4_bestChoice_13 : decode cX4_bestChoice 13 = .ok (.iconst 0, 1) := by decide +kernel
theorem dX4_bestChoice_14 : decode cX4_bestChoice 14 = .ok (.bipush 40, 2) := by decide +kernel
theorem dX4_bestChoice_16 : decode cX4_bestChoice 16 = .ok (.invokestatic 56, 3) := by decide +kernel
theorem dX4_bestChoice_19 : decode cX4_bestChoice 19 = .ok (.ifCond .ne 10, 3) := by decide +kernel
theorem dX4_bestChoice_22 : decode cX4_bestChoice 22 = .ok (.aload_n 0, 1) := by decide +kernel
theorem dX4_bestChoice_23 : decode cX4_bestChoice 23 = .ok (.ldc 48, 2) := by decide +kernel
theorem dX4_bestChoice_25 : decode cX4_bestChoice 25 = .ok (.invokevirtual 49, 3) := by decide +kernel
theorem dX4_bestChoice_28 : decode cX4_bestChoice 28 = .ok (.ireturn, 1) := by decide +kernel
theorem dX4_bestChoice_29 : decode cX4_bestChoice 29 = .ok (.iconst 0, 1) := by decide +kernel
theorem dX4_bestChoice_30 : decode cX4_bestChoice 30 = .ok (.istore 5, 2) := by decide +kernel
theorem dX4_bestChoice_32 : decode cX4_bestChoice 32 = .ok (.iconst (-1), 1) := by decide +kernel
theorem dX4_bestChoice_33 : decode cX4_bestChoice 33 = .ok (.istore 6, 2) := by decide +kernel
theorem dX4_bestChoice_35 : decode cX4_bestChoice 35 = .ok (.iconst 0, 1) := by decide +kernel
theorem dX4_bestChoice_36 : decode cX4_bestChoice 36 = .ok (.istore 7, 2) := by decide +kernel
theorem dX4_bestChoice_38 : decode cX4_bestChoice 38 = .ok (.iload 7, 2) := by decide +kernel
theorem dX4_bestChoice_40 : decode cX4_bestChoice 40 = .ok (.iload_n 2, 1) := by decide +kernel
theorem dX4_bestChoice_41 : decode cX4_bestChoice 41 = .ok (.if_icmp .ge 59, 3) := by decide +kernel
theorem dX4_bestChoice_44 : decode cX4_bestChoice 44 = .ok (.aload_n 0, 1) := by decide +kernel
theorem dX4_bestChoice_45 : decode cX4_bestChoice 45 = .ok (.invokevirtual 135, 3) := by decide +kernel
theorem dX4_bestChoice_48 : decode cX4_bestChoice 48 = .ok (.aload_n 0, 1) := by decide +kernel
theorem dX4_bestChoice_49 : decode cX4_bestChoice 49 = .ok (.iload_n 1, 1) := by decide +kernel
theorem dX4_bestChoice_50 : decode cX4_bestChoice 50 = .ok (.iload 7, 2) := by decide +kernel
theorem dX4_bestChoice_52 : decode cX4_bestChoice 52 = .ok (.iload_n 3, 1) := by decide +kernel
theorem dX4_bestChoice_53 : decode cX4_bestChoice 53 = .ok (.invokevirtual 267, 3) := by decide +kernel
theorem dX4_bestChoice_56 : decode cX4_bestChoice 56 = .ok (.aload_n 0, 1) := by decide +kernel
theorem dX4_bestChoice_57 : decode cX4_bestChoice 57 = .ok (.getfield 16, 3) := by decide +kernel
theorem dX4_bestChoice_60 : decode cX4_bestChoice 60 = .ok (.iload 4, 2) := by decide +kernel
theorem dX4_bestChoice_62 : decode cX4_bestChoice 62 = .ok (.invokevirtual 107, 3) := by decide +kernel
theorem dX4_bestChoice_65 : decode cX4_bestChoice 65 = .ok (.aload_n 0, 1) := by decide +kernel
theorem dX4_bestChoice_66 : decode cX4_bestChoice 66 = .ok (.getfield 16, 3) := by decide +kernel
theorem dX4_bestChoice_69 : decode cX4_bestChoice 69 = .ok (.getfield 71, 3) := by decide +kernel
theorem dX4_bestChoice_72 : decode cX4_bestChoice 72 = .ok (.iload_n 3, 1) := by decide +kernel
theorem dX4_bestChoice_73 : decode cX4_bestChoice 73 = .ok (.aaload, 1) := by decide +kernel
theorem dX4_bestChoice_74 : decode cX4_bestChoice 74 = .ok (.getfield 261, 3) := by decide +kernel
theorem dX4_bestChoice_77 : decode cX4_bestChoice 77 = .ok (.istore 8, 2) := by decide +kernel
theorem dX4_bestChoice_79 : decode cX4_bestChoice 79 = .ok (.iload 8, 2) := by decide +kernel
theorem dX4_bestChoice_81 : decode cX4_bestChoice 81 = .ok (.iload 6, 2) := by decide +kernel
theorem dX4_bestChoice_83 : decode cX4_bestChoice 83 = .ok (.if_icmp .le 11, 3) := by decide +kernel
theorem dX4_bestChoice_86 : decode cX4_bestChoice 86 = .ok (.iload 8, 2) := by decide +kernel
theorem dX4_bestChoice_88 : decode cX4_bestChoice 88 = .ok (.istore 6, 2) := by decide +kernel
theorem dX4_bestChoice_90 : decode cX4_bestChoice 90 = .ok (.iload 7, 2) := by decide +kernel
theorem dX4_bestChoice_92 : decode cX4_bestChoice 92 = .ok (.istore 5, 2) := by decide +kernel
theorem dX4_bestChoice_94 : decode cX4_bestChoice 94 = .ok (.iinc 7 1, 3) := by decide +kernel
theorem dX4_bestChoice_97 : decode cX4_bestChoice 97 = .ok (.goto (-59), 3) := by decide +kernel
theorem dX4_bestChoice_100 : decode cX4_bestChoice 100 = .ok (.iload 5, 2) := by decide +kernel
theorem dX4_bestChoice_102 : decode cX4_bestChoice 102 = .ok (.ireturn, 1) := by decide +kernel
theorem dX4_suppose_0 : decode cX4_suppose 0 = .ok (.iload_n 1, 1) := by decide +kernel
theorem dX4_suppose_1 : decode cX4_suppose 1 = .ok (.lookupswitch 61 #[(0, 27), (1, 45)], 27) := by decide +kernel
theorem dX4_suppose_28 : decode cX4_suppose 28 = .ok (.aload_n 0, 1) := by decide +kernel
theorem dX4_suppose_29 : decode cX4_suppose 29 = .ok (.getfield 16, 3) := by decide +kernel
theorem dX4_suppose_32 : decode cX4_suppose 32 = .ok (.getfield 60, 3) := by decide +kernel
theorem dX4_suppose_35 : decode cX4_suppose 35 = .ok (.iload_n 2, 1) := by decide +kernel
theorem dX4_suppose_36 : decode cX4_suppose 36 = .ok (.dup2, 1) := by decide +kernel
theorem dX4_suppose_37 : decode cX4_suppose 37 = .ok (.iaload, 1) := by decide +kernel
theorem dX4_suppose_38 : decode cX4_suppose 38 = .ok (.iconst 1, 1) := by decide +kernel
theorem dX4_suppose_39 : decode cX4_suppose 39 = .ok (.iload_n 3, 1) := by decide +kernel
theorem dX4_suppose_40 : decode cX4_suppose 40 = .ok (.ishl, 1) := by decide +kernel
theorem dX4_suppose_41 : decode cX4_suppose 41 = .ok (.ior, 1) := by decide +kernel
theorem dX4_suppose_42 : decode cX4_suppose 42 = .ok (.iastore, 1) := by decide +kernel
theorem dX4_suppose_43 : decode cX4_suppose 43 = .ok (.goto 37, 3) := by decide +kernel
theorem dX4_suppose_46 : decode cX4_suppose 46 = .ok (.aload_n 0, 1) := by decide +kernel
theorem dX4_suppose_47 : decode cX4_suppose 47 = .ok (.getfield 16, 3) := by decide +kernel
theorem dX4_suppose_50 : decode cX4_suppose 50 = .ok (.getfield 71, 3) := by decide +kernel
theorem dX4_suppose_53 : decode cX4_suppose 53 = .ok (.iload_n 3, 1) := by decide +kernel
theorem dX4_suppose_54 : decode cX4_suppose 54 = .ok (.aaload, 1) := by decide +kernel
theorem dX4_suppose_55 : decode cX4_suppose 55 = .ok (.iload_n 2, 1) := by decide +kernel
theorem dX4_suppose_56 : decode cX4_suppose 56 = .ok (.putfield 225, 3) := by decide +kernel
theorem dX4_suppose_59 : decode cX4_suppose 59 = .ok (.goto 21, 3) := by decide +kernel
theorem dX4_suppose_62 : decode cX4_suppose 62 = .ok (.aload_n 0, 1) := by decide +kernel
theorem dX4_suppose_63 : decode cX4_suppose 63 = .ok (.getfield 16, 3) := by decide +kernel
theorem dX4_suppose_66 : decode cX4_suppose 66 = .ok (.getfield 71, 3) := by decide +kernel
theorem dX4_suppose_69 : decode cX4_suppose 69 = .ok (.iload_n 3, 1) := by decide +kernel
theorem dX4_suppose_70 : decode cX4_suppose 70 = .ok (.aaload, 1) := by decide +kernel
theorem dX4_suppose_71 : decode cX4_suppose 71 = .ok (.aload_n 0, 1) := by decide +kernel
theorem dX4_suppose_72 : decode cX4_suppose 72 = .ok (.iload_n 2, 1) := by decide +kernel
theorem dX4_suppose_73 : decode cX4_suppose 73 = .ok (.iload_n 3, 1) := by decide +kernel
theorem dX4_suppose_74 : decode cX4_suppose 74 = .ok (.invokevirtual 171, 3) := by decide +kernel
theorem dX4_suppose_77 : decode cX4_suppose 77 = .ok (.putfield 270, 3) := by decide +kernel
theorem dX4_suppose_80 : decode cX4_suppose 80 = .ok (.return_, 1) := by decide +kernel
theorem dX4_friendOfChoice_0 : decode cX4_friendOfChoice 0 = .ok (.iload_n 1, 1) := by decide +kernel
theorem dX4_friendOfChoice_1 : decode cX4_friendOfChoice 1 = .ok (.iload_n 2, 1) := by decide +kernel
theorem dX4_friendOfChoice_2 : decode cX4_friendOfChoice 2 = .ok (.if_icmp .ge 7, 3) := by decide +kernel
theorem dX4_friendOfChoice_5 : decode cX4_friendOfChoice 5 = .ok (.iload_n 1, 1) := by decide +kernel
theorem dX4_friendOfChoice_6 : decode cX4_friendOfChoice 6 = .ok (.goto 6, 3) := by decide +kernel
theorem dX4_friendOfChoice_9 : decode cX4_friendOfChoice 9 = .ok (.iload_n 1, 1) := by decide +kernel
theorem dX4_friendOfChoice_10 : decode cX4_friendOfChoice 10 = .ok (.iconst 1, 1) := by decide +kernel
theorem dX4_friendOfChoice_11 : decode cX4_friendOfChoice 11 = .ok (.iadd, 1) := by decide +kernel
theorem dX4_friendOfChoice_12 : decode cX4_friendOfChoice 12 = .ok (.istore_n 3, 1) := by decide +kernel
theorem dX4_friendOfChoice_13 : decode cX4_friendOfChoice 13 = .ok (.iload_n 3, 1) := by decide +kernel
theorem dX4_friendOfChoice_14 : decode cX4_friendOfChoice 14 = .ok (.aload_n 0, 1) := by decide +kernel
theorem dX4_friendOfChoice_15 : decode cX4_friendOfChoice 15 = .ok (.getfield 12, 3) := by decide +kernel
theorem dX4_friendOfChoice_18 : decode cX4_friendOfChoice 18 = .ok (.getfield 147, 3) := by decide +kernel
theorem dX4_friendOfChoice_21 : decode cX4_friendOfChoice 21 = .ok (.if_icmp .ge 7, 3) := by decide +kernel
theorem dX4_friendOfChoice_24 : decode cX4_friendOfChoice 24 = .ok (.iload_n 3, 1) := by decide +kernel
theorem dX4_friendOfChoice_25 : decode cX4_friendOfChoice 25 = .ok (.goto 4, 3) := by decide +kernel
theorem dX4_friendOfChoice_28 : decode cX4_friendOfChoice 28 = .ok (.iconst (-1), 1) := by decide +kernel
theorem dX4_friendOfChoice_29 : decode cX4_friendOfChoice 29 = .ok (.ireturn, 1) := by decide +kernel
theorem dX4_firstSunday_0 : decode cX4_firstSunday 0 = .ok (.aload_n 0, 1) := by decide +kernel
theorem dX4_firstSunday_1 : decode cX4_firstSunday 1 = .ok (.invokevirtual 135, 3) := by decide +kernel
theorem dX4_firstSunday_4 : decode cX4_firstSunday 4 = .ok (.iconst 0, 1) := by decide +kernel
theorem dX4_firstSunday_5 : decode cX4_firstSunday 5 = .ok (.istore 4, 2) := by decide +kernel
theorem dX4_firstSunday_7 : decode cX4_firstSunday 7 = .ok (.iload 4, 2) := by decide +kernel
theorem dX4_firstSunday_9 : decode cX4_firstSunday 9 = .ok (.sipush 200, 3) := by decide +kernel
theorem dX4_firstSunday_12 : decode cX4_firstSunday 12 = .ok (.if_icmp .gt 36, 3) := by decide +kernel
theorem dX4_firstSunday_15 : decode cX4_firstSunday 15 = .ok (.aload_n 0, 1) := by decide +kernel
theorem dX4_firstSunday_16 : decode cX4_firstSunday 16 = .ok (.getfield 16, 3) := by decide +kernel
theorem dX4_firstSunday_19 : decode cX4_firstSunday 19 = .ok (.getfield 71, 3) := by decide +kernel
theorem dX4_firstSunday_22 : decode cX4_firstSunday 22 = .ok (.iload_n 1, 1) := by decide +kernel
theorem dX4_firstSunday_23 : decode cX4_firstSunday 23 = .ok (.aaload, 1) := by decide +kernel
theorem dX4_firstSunday_24 : decode cX4_firstSunday 24 = .ok (.iload_n 2, 1) := by decide +kernel
theorem dX4_firstSunday_25 : decode cX4_firstSunday 25 = .ok (.iload_n 3, 1) := by decide +kernel
theorem dX4_firstSunday_26 : decode cX4_firstSunday 26 = .ok (.invokevirtual 273, 3) := by decide +kernel
theorem dX4_firstSunday_29 : decode cX4_firstSunday 29 = .ok (.ifCond .eq 6, 3) := by decide +kernel
theorem dX4_firstSunday_32 : decode cX4_firstSunday 32 = .ok (.iload 4, 2) := by decide +kernel
theorem dX4_firstSunday_34 : decode cX4_firstSunday 34 = .ok (.ireturn, 1) := by decide +kernel
theorem dX4_firstSunday_35 : decode cX4_firstSunday 35 = .ok (.aload_n 0, 1) := by decide +kernel
theorem dX4_firstSunday_36 : decode cX4_firstSunday 36 = .ok (.getfield 16, 3) := by decide +kernel
theorem dX4_firstSunday_39 : decode cX4_firstSunday 39 = .ok (.invokevirtual 150, 3) := by decide +kernel
theorem dX4_firstSunday_42 : decode cX4_firstSunday 42 = .ok (.iinc 4 1, 3) := by decide +kernel
theorem dX4_firstSunday_45 : decode cX4_firstSunday 45 = .ok (.goto (-38), 3) := by decide +kernel
theorem dX4_firstSunday_48 : decode cX4_firstSunday 48 = .ok (.aload_n 0, 1) := by decide +kernel
theorem dX4_firstSunday_49 : decode cX4_firstSunday 49 = .ok (.ldc 153, 2) := by decide +kernel
theorem dX4_firstSunday_51 : decode cX4_firstSunday 51 = .ok (.invokevirtual 49, 3) := by decide +kernel
theorem dX4_firstSunday_54 : decode cX4_firstSunday 54 = .ok (.ireturn, 1) := by decide +kernel
theorem dX4_moodFits_0 : decode cX4_moodFits 0 = .ok (.aload_n 0, 1) := by decide +kernel
theorem dX4_moodFits_1 : decode cX4_moodFits 1 = .ok (.invokevirtual 135, 3) := by decide +kernel
theorem dX4_moodFits_4 : decode cX4_moodFits 4 = .ok (.aload_n 0, 1) := by decide +kernel
theorem dX4_moodFits_5 : decode cX4_moodFits 5 = .ok (.getfield 16, 3) := by decide +kernel
theorem dX4_moodFits_8 : decode cX4_moodFits 8 = .ok (.getfield 71, 3) := by decide +kernel
theorem dX4_moodFits_11 : decode cX4_moodFits 11 = .ok (.iload_n 2, 1) := by decide +kernel
theorem dX4_moodFits_12 : decode cX4_moodFits 12 = .ok (.aaload, 1) := by decide +kernel
theorem dX4_moodFits_13 : decode cX4_moodFits 13 = .ok (.iload_n 3, 1) := by decide +kernel
theorem dX4_moodFits_14 : decode cX4_moodFits 14 = .ok (.putfield 261, 3) := by decide +kernel
theorem dX4_moodFits_17 : decode cX4_moodFits 17 = .ok (.aload_n 0, 1) := by decide +kernel
theorem dX4_moodFits_18 : decode cX4_moodFits 18 = .ok (.aload_n 1, 1) := by decide +kernel
theorem dX4_moodFits_19 : decode cX4_moodFits 19 = .ok (.aload_n 0, 1) := by decide +kernel
theorem dX4_moodFits_20 : decode cX4_moodFits 20 = .ok (.getfield 16, 3) := by decide +kernel
theorem dX4_moodFits_23 : decode cX4_moodFits 23 = .ok (.getfield 71, 3) := by decide +kernel
theorem dX4_moodFits_26 : decode cX4_moodFits 26 = .ok (.iload_n 2, 1) := by decide +kernel
theorem dX4_moodFits_27 : decode cX4_moodFits 27 = .ok (.aaload, 1) := by decide +kernel
theorem dX4_moodFits_28 : decode cX4_moodFits 28 = .ok (.iconst 1, 1) := by decide +kernel
theorem dX4_moodFits_29 : decode cX4_moodFits 29 = .ok (.invokevirtual 276, 3) := by decide +kernel
theorem dX4_moodFits_32 : decode cX4_moodFits 32 = .ok (.ireturn, 1) := by decide +kernel
theorem dX4_kindFits_0 : decode cX4_kindFits 0 = .ok (.aload_n 0, 1) := by decide +kernel
theorem dX4_kindFits_1 : decode cX4_kindFits 1 = .ok (.invokevirtual 135, 3) := by decide +kernel
theorem dX4_kindFits_4 : decode cX4_kindFits 4 = .ok (.aload_n 0, 1) := by decide +kernel
theorem dX4_kindFits_5 : decode cX4_kindFits 5 = .ok (.getfield 16, 3) := by decide +kernel
theorem dX4_kindFits_8 : decode cX4_kindFits 8 = .ok (.getfield 71, 3) := by decide +kernel
theorem dX4_kindFits_11 : decode cX4_kindFits 11 = .ok (.iload_n 2, 1) := by decide +kernel
theorem dX4_kindFits_12 : decode cX4_kindFits 12 = .ok (.aaload, 1) := by decide +kernel
theorem dX4_kindFits_13 : decode cX4_kindFits 13 = .ok (.iload_n 3, 1) := by decide +kernel
theorem dX4_kindFits_14 : decode cX4_kindFits 14 = .ok (.putfield 225, 3) := by decide +kernel
theorem dX4_kindFits_17 : decode cX4_kindFits 17 = .ok (.aload_n 0, 1) := by decide +kernel
theorem dX4_kindFits_18 : decode cX4_kindFits 18 = .ok (.aload_n 1, 1) := by decide +kernel
theorem dX4_kindFits_19 : decode cX4_kindFits 19 = .ok (.aload_n 0, 1) := by decide +kernel
theorem dX4_kindFits_20 : decode cX4_kindFits 20 = .ok (.getfield 16, 3) := by decide +kernel
theorem dX4_kindFits_23 : decode cX4_kindFits 23 = .ok (.getfield 71, 3) := by decide +kernel
theorem dX4_kindFits_26 : decode cX4_kindFits 26 = .ok (.iload_n 2, 1) := by decide +kernel
theorem dX4_kindFits_27 : decode cX4_kindFits 27 = .ok (.aaload, 1) := by decide +kernel
theorem dX4_kindFits_28 : decode cX4_kindFits 28 = .ok (.iconst 0, 1) := by decide +kernel
theorem dX4_kindFits_29 : decode cX4_kindFits 29 = .ok (.invokevirtual 276, 3) := by decide +kernel
theorem dX4_kindFits_32 : decode cX4_kindFits 32 = .ok (.ireturn, 1) := by decide +kernel
theorem dX4_goesAsTold_0 : decode cX4_goesAsTold 0 = .ok (.iconst 0, 1) := by decide +kernel
theorem dX4_goesAsTold_1 : decode cX4_goesAsTold 1 = .ok (.istore 4, 2) := by decide +kernel
theorem dX4_goesAsTold_3 : decode cX4_goesAsTold 3 = .ok (.iload 4, 2) := by decide +kernel
theorem dX4_goesAsTold_5 : decode cX4_goesAsTold 5 = .ok (.aload_n 1, 1) := by decide +kernel
theorem dX4_goesAsTold_6 : decode cX4_goesAsTold 6 = .ok (.getfield 236, 3) := by decide +kernel
theorem dX4_goesAsTold_9 : decode cX4_goesAsTold 9 = .ok (.if_icmp .ge 63, 3) := by decide +kernel
theorem dX4_goesAsTold_12 : decode cX4_goesAsTold 12 = .ok (.iload 4, 2) := by decide +kernel
theorem dX4_goesAsTold_14 : decode cX4_goesAsTold 14 = .ok (.ifCond .le 10, 3) := by decide +kernel
theorem dX4_goesAsTold_17 : decode cX4_goesAsTold 17 = .ok (.aload_n 0, 1) := by decide +kernel
theorem dX4_goesAsTold_18 : decode cX4_goesAsTold 18 = .ok (.getfield 16, 3) := by decide +kernel
theorem dX4_goesAsTold_21 : decode cX4_goesAsTold 21 = .ok (.invokevirtual 150, 3) := by decide +kernel
theorem dX4_goesAsTold_24 : decode cX4_goesAsTold 24 = .ok (.iload_n 3, 1) := by decide +kernel
theorem dX4_goesAsTold_25 : decode cX4_goesAsTold 25 = .ok (.ifCond .eq 10, 3) := by decide +kernel
theorem dX4_goesAsTold_28 : decode cX4_goesAsTold 28 = .ok (.aload_n 2, 1) := by decide +kernel
theorem dX4_goesAsTold_29 : decode cX4_goesAsTold 29 = .ok (.invokevirtual 280, 3) := by decide +kernel
theorem dX4_goesAsTold_32 : decode cX4_goesAsTold 32 = .ok (.goto 7, 3) := by decide +kernel
theorem dX4_goesAsTold_35 : decode cX4_goesAsTold 35 = .ok (.aload_n 2, 1) := by decide +kernel
theorem dX4_goesAsTold_36 : decode cX4_goesAsTold 36 = .ok (.getfield 261, 3) := by decide +kernel
theorem dX4_goesAsTold_39 : decode cX4_goesAsTold 39 = .ok (.istore 5, 2) := by decide +kernel
theorem dX4_goesAsTold_41 : decode cX4_goesAsTold 41 = .ok (.aload_n 1, 1) := by decide +kernel
theorem dX4_goesAsTold_42 : decode cX4_goesAsTold 42 = .ok (.getfield 240, 3) := by decide +kernel
theorem dX4_goesAsTold_45 : decode cX4_goesAsTold 45 = .ok (.iload 4, 2) := by decide +kernel
theorem dX4_goesAsTold_47 : decode cX4_goesAsTold 47 = .ok (.iaload, 1) := by decide +kernel
theorem dX4_goesAsTold_48 : decode cX4_goesAsTold 48 = .ok (.iconst (-1), 1) := by decide +kernel
theorem dX4_goesAsTold_49 : decode cX4_goesAsTold 49 = .ok (.if_icmp .eq 17, 3) := by decide +kernel
theorem dX4_goesAsTold_52 : decode cX4_goesAsTold 52 = .ok (.aload_n 1, 1) := by decide +kernel
theorem dX4_goesAsTold_53 : decode cX4_goesAsTold 53 = .ok (.getfield 240, 3) := by decide +kernel
theorem dX4_goesAsTold_56 : decode cX4_goesAsTold 56 = .ok (.iload 4, 2) := by decide +kernel
theorem dX4_goesAsTold_58 : decode cX4_goesAsTold 58 = .ok (.iaload, 1) := by decide +kernel
theorem dX4_goesAsTold_59 : decode cX4_goesAsTold 59 = .ok (.iload 5, 2) := by decide +kernel
theorem dX4_goesAsTold_61 : decode cX4_goesAsTold 61 = .ok (.if_icmp .eq 5, 3) := by decide +kernel
theorem dX4_goesAsTold_64 : decode cX4_goesAsTold 64 = .ok (.iconst 0, 1) := by decide +kernel
theorem dX4_goesAsTold_65 : decode cX4_goesAsTold 65 = .ok (.ireturn, 1) := by decide +kernel
theorem dX4_goesAsTold_66 : decode cX4_goesAsTold 66 = .ok (.iinc 4 1, 3) := by decide +kernel
theorem dX4_goesAsTold_69 : decode cX4_goesAsTold 69 = .ok (.goto (-66), 3) := by decide +kernel
theorem dX4_goesAsTold_72 : decode cX4_goesAsTold 72 = .ok (.iconst 1, 1) := by decide +kernel
theorem dX4_goesAsTold_73 : decode cX4_goesAsTold 73 = .ok (.ireturn, 1) := by decide +kernel
theorem dX4_within_0 : decode cX4_within 0 = .ok (.iload_n 0, 1) := by decide +kernel
theorem dX4_within_1 : decode cX4_within 1 = .ok (.iload_n 1, 1) := by decide +kernel
theorem dX4_within_2 : decode cX4_within 2 = .ok (.if_icmp .lt 12, 3) := by decide +kernel
theorem dX4_within_5 : decode cX4_within 5 = .ok (.iload_n 0, 1) := by decide +kernel
theorem dX4_within_6 : decode cX4_within 6 = .ok (.iload_n 2, 1) := by decide +kernel
theorem dX4_within_7 : decode cX4_within 7 = .ok (.if_icmp .gt 7, 3) := by decide +kernel
theorem dX4_within_10 : decode cX4_within 10 = .ok (.iconst 1, 1) := by decide +kernel
theorem dX4_within_11 : decode cX4_within 11 = .ok (.goto 4, 3) := by decide +kernel
theorem dX4_within_14 : decode cX4_within 14 = .ok (.iconst 0, 1) := by decide +kernel
theorem dX4_within_15 : decode cX4_within 15 = .ok (.ireturn, 1) := by decide +kernel
theorem dX4_isIn_0 : decode cX4_isIn 0 = .ok (.iload_n 1, 1) := by decide +kernel
theorem dX4_isIn_1 : decode cX4_isIn 1 = .ok (.ifCond .lt 16, 3) := by decide +kernel
theorem dX4_isIn_4 : decode cX4_isIn 4 = .ok (.iload_n 0, 1) := by decide +kernel
theorem dX4_isIn_5 : decode cX4_isIn 5 = .ok (.iload_n 1, 1) := by decide +kernel
theorem dX4_isIn_6 : decode cX4_isIn 6 = .ok (.ishr, 1) := by decide +kernel
theorem dX4_isIn_7 : decode cX4_isIn 7 = .ok (.iconst 1, 1) := by decide +kernel
theorem dX4_isIn_8 : decode cX4_isIn 8 = .ok (.iand, 1) := by decide +kernel
theorem dX4_isIn_9 : decode cX4_isIn 9 = .ok (.iconst 1, 1) := by decide +kernel
theorem dX4_isIn_10 : decode cX4_isIn 10 = .ok (.if_icmp .ne 7, 3) := by decide +kernel
theorem dX4_isIn_13 : decode cX4_isIn 13 = .ok (.iconst 1, 1) := by decide +kernel
theorem dX4_isIn_14 : decode cX4_isIn 14 = .ok (.goto 4, 3) := by decide +kernel
theorem dX4_isIn_17 : decode cX4_isIn 17 = .ok (.iconst 0, 1) := by decide +kernel
theorem dX4_isIn_18 : decode cX4_isIn 18 = .ok (.ireturn, 1) := by decide +kernel
theorem dX4_leastSetting_0 : decode cX4_leastSetting 0 = .ok (.iload_n 0, 1) := by decide +kernel
theorem dX4_leastSetting_1 : decode cX4_leastSetting 1 = .ok (.iconst 3, 1) := by decide +kernel
theorem dX4_leastSetting_2 : decode cX4_leastSetting 2 = .ok (.if_icmp .ne 7, 3) := by decide +kernel
theorem dX4_leastSetting_5 : decode cX4_leastSetting 5 = .ok (.iconst 1, 1) := by decide +kernel
theorem dX4_leastSetting_6 : decode cX4_leastSetting 6 = .ok (.goto 4, 3) := by decide +kernel
theorem dX4_leastSetting_9 : decode cX4_leastSetting 9 = .ok (.iconst 0, 1) := by decide +kernel
theorem dX4_leastSetting_10 : decode cX4_leastSetting 10 = .ok (.ireturn, 1) := by decide +kernel
theorem dX4_mostSetting_0 : decode cX4_mostSetting 0 = .ok (.iload_n 0, 1) := by decide +kernel
theorem dX4_mostSetting_1 : decode cX4_mostSetting 1 = .ok (.lookupswitch 33 #[(2, 27), (3, 30)], 27) := by decide +kernel
theorem dX4_mostSetting_28 : decode cX4_mostSetting 28 = .ok (.bipush 8, 2) := by decide +kernel
theorem dX4_mostSetting_30 : decode cX4_mostSetting 30 = .ok (.ireturn, 1) := by decide +kernel
theorem dX4_mostSetting_31 : decode cX4_mostSetting 31 = .ok (.bipush 12, 2) := by decide +kernel
theorem dX4_mostSetting_33 : decode cX4_mostSetting 33 = .ok (.ireturn, 1) := by decide +kernel
theorem dX4_mostSetting_34 : decode cX4_mostSetting 34 = .ok (.bipush 20, 2) := by decide +kernel
theorem dX4_mostSetting_36 : decode cX4_mostSetting 36 = .ok (.ireturn, 1) := by decide +kernel
theorem dX4_settingFits_0 : decode cX4_settingFits 0 = .ok (.iload_n 0, 1) := by decide +kernel
theorem dX4_settingFits_1 : decode cX4_settingFits 1 = .ok (.iconst 0, 1) := by decide +kernel
theorem dX4_settingFits_2 : decode cX4_settingFits 2 = .ok (.iconst 3, 1) := by decide +kernel
theorem dX4_settingFits_3 : decode cX4_settingFits 3 = .ok (.invokestatic 56, 3) := by decide +kernel
theorem dX4_settingFits_6 : decode cX4_settingFits 6 = .ok (.ifCond .eq 22, 3) := by decide +kernel
theorem dX4_settingFits_9 : decode cX4_settingFits 9 = .ok (.iload_n 1, 1) := by decide +kernel
theorem dX4_settingFits_10 : decode cX4_settingFits 10 = .ok (.iload_n 0, 1) := by decide +kernel
theorem dX4_settingFits_11 : decode cX4_settingFits 11 = .ok (.invokestatic 154, 3) := by decide +kernel
theorem dX4_settingFits_14 : decode cX4_settingFits 14 = .ok (.iload_n 0, 1) := by decide +kernel
theorem dX4_settingFits_15 : decode cX4_settingFits 15 = .ok (.invokestatic 157, 3) := by decide +kernel
theorem dX4_settingFits_18 : decode cX4_settingFits 18 = .ok (.invokestatic 56, 3) := by decide +kernel
theorem dX4_settingFits_21 : decode cX4_settingFits 21 = .ok (.ifCond .eq 7, 3) := by decide +kernel
theorem dX4_settingFits_24 : decode cX4_settingFits 24 = .ok (.iconst 1, 1) := by decide +kernel
theorem dX4_settingFits_25 : decode cX4_settingFits 25 = .ok (.goto 4, 3) := by decide +kernel
theorem dX4_settingFits_28 : decode cX4_settingFits 28 = .ok (.iconst 0, 1) := by decide +kernel
theorem dX4_settingFits_29 : decode cX4_settingFits 29 = .ok (.ireturn, 1) := by decide +kernel
theorem dX4_kindAbove_0 : decode cX4_kindAbove 0 = .ok (.iload_n 0, 1) := by decide +kernel
theorem dX4_kindAbove_1 : decode cX4_kindAbove 1 = .ok (.tableswitch 47 1 6 #[39, 39, 41, 43, 39, 45], 39) := by decide +kernel
theorem dX4_kindAbove_40 : decode cX4_kindAbove 40 = .ok (.iconst 0, 1) := by decide +kernel
theorem dX4_kindAbove_41 : decode cX4_kindAbove 41 = .ok (.ireturn, 1) := by decide +kernel
theorem dX4_kindAbove_42 : decode cX4_kindAbove 42 = .ok (.iconst 2, 1) := by decide +kernel
theorem dX4_kindAbove_43 : decode cX4_kindAbove 43 = .ok (.ireturn, 1) := by decide +kernel
theorem dX4_kindAbove_44 : decode cX4_kindAbove 44 = .ok (.iconst 3, 1) := by decide +kernel
theorem dX4_kindAbove_45 : decode cX4_kindAbove 45 = .ok (.ireturn, 1) := by decide +kernel
theorem dX4_kindAbove_46 : decode cX4_kindAbove 46 = .ok (.iconst 1, 1) := by decide +kernel
theorem dX4_kindAbove_47 : decode cX4_kindAbove 47 = .ok (.ireturn, 1) := by decide +kernel
theorem dX4_kindAbove_48 : decode cX4_kindAbove 48 = .ok (.iconst (-1), 1) := by decide +kernel
theorem dX4_kindAbove_49 : decode cX4_kindAbove 49 = .ok (.ireturn, 1) := by decide +kernel
theorem dX4_isUnder_0 : decode cX4_isUnder 0 = .ok (.iload_n 0, 1) := by decide +kernel
theorem dX4_isUnder_1 : decode cX4_isUnder 1 = .ok (.istore_n 2, 1) := by decide +kernel
theorem dX4_isUnder_2 : decode cX4_isUnder 2 = .ok (.iconst 0, 1) := by decide +kernel
theorem dX4_isUnder_3 : decode cX4_isUnder 3 = .ok (.istore_n 3, 1) := by decide +kernel
theorem dX4_isUnder_4 : decode cX4_isUnder 4 = .ok (.iload_n 3, 1) := by decide +kernel
theorem dX4_isUnder_5 : decode cX4_isUnder 5 = .ok (.bipush 7, 2) := by decide +kernel
theorem dX4_isUnder_7 : decode cX4_isUnder 7 = .ok (.if_icmp .ge 26, 3) := by decide +kernel
theorem dX4_isUnder_10 : decode cX4_isUnder 10 = .ok (.iload_n 2, 1) := by decide +kernel
theorem dX4_isUnder_11 : decode cX4_isUnder 11 = .ok (.iconst (-1), 1) := by decide +kernel
theorem dX4_isUnder_12 : decode cX4_isUnder 12 = .ok (.if_icmp .eq 21, 3) := by decide +kernel
theorem dX4_isUnder_15 : decode cX4_isUnder 15 = .ok (.iload_n 2, 1) := by decide +kernel
theorem dX4_isUnder_16 : decode cX4_isUnder 16 = .ok (.iload_n 1, 1) := by decide +kernel
theorem dX4_isUnder_17 : decode cX4_isUnder 17 = .ok (.if_icmp .ne 5, 3) := by decide +kernel
theorem dX4_isUnder_20 : decode cX4_isUnder 20 = .ok (.iconst 1, 1) := by decide +kernel
theorem dX4_isUnder_21 : decode cX4_isUnder 21 = .ok (.ireturn, 1) := by decide +kernel
theorem dX4_isUnder_22 : decode cX4_isUnder 22 = .ok (.iload_n 2, 1) := by decide +kernel
theorem dX4_isUnder_23 : decode cX4_isUnder 23 = .ok (.invokestatic 283, 3) := by decide +kernel
theorem dX4_isUnder_26 : decode cX4_isUnder 26 = .ok (.istore_n 2, 1) := by decide +kernel
theorem dX4_isUnder_27 : decode cX4_isUnder 27 = .ok (.iinc 3 1, 3) := by decide +kernel
theorem dX4_isUnder_30 : decode cX4_isUnder 30 = .ok (.goto (-26), 3) := by decide +kernel
theorem dX4_isUnder_33 : decode cX4_isUnder 33 = .ok (.iconst 0, 1) := by decide +kernel
theorem dX4_isUnder_34 : decode cX4_isUnder 34 = .ok (.ireturn, 1) := by decide +kernel
theorem dX4_power_0 : decode cX4_power 0 = .ok (.lconst 1, 1) := by decide +kernel
theorem dX4_power_1 : decode cX4_power 1 = .ok (.lstore_n 2, 1) := by decide +kernel
theorem dX4_power_2 : decode cX4_power 2 = .ok (.iconst 0, 1) := by decide +kernel
theorem dX4_power_3 : decode cX4_power 3 = .ok (.istore 4, 2) := by decide +kernel
theorem dX4_power_5 : decode cX4_power 5 = .ok (.iload 4, 2) := by decide +kernel
theorem dX4_power_7 : decode cX4_power 7 = .ok (.iload_n 1, 1) := by decide +kernel
theorem dX4_power_8 : decode cX4_power 8 = .ok (.if_icmp .ge 14, 3) := by decide +kernel
theorem dX4_power_11 : decode cX4_power 11 = .ok (.lload_n 2, 1) := by decide +kernel
theorem dX4_power_12 : decode cX4_power 12 = .ok (.iload_n 0, 1) := by decide +kernel
theorem dX4_power_13 : decode cX4_power 13 = .ok (.i2l, 1) := by decide +kernel
theorem dX4_power_14 : decode cX4_power 14 = .ok (.lmul, 1) := by decide +kernel
theorem dX4_power_15 : decode cX4_power 15 = .ok (.lstore_n 2, 1) := by decide +kernel
theorem dX4_power_16 : decode cX4_power 16 = .ok (.iinc 4 1, 3) := by decide +kernel
theorem dX4_power_19 : decode cX4_power 19 = .ok (.goto (-14), 3) := by decide +kernel
theorem dX4_power_22 : decode cX4_power 22 = .ok (.lload_n 2, 1) := by decide +kernel
theorem dX4_power_23 : decode cX4_power 23 = .ok (.lreturn, 1) := by decide +kernel
