theorem dX0_init_0 : decode cX0_init 0 = .ok (.aload_n 0, 1) := by decide +kernel
theorem dX0_init_1 : decode cX0_init 1 = .ok (.invokespecial 3, 3) := by decide +kernel
theorem dX0_init_4 : decode cX0_init 4 = .ok (.aload_n 0, 1) := by decide +kernel
theorem dX0_init_5 : decode cX0_init 5 = .ok (.iconst 4, 1) := by decide +kernel
theorem dX0_init_6 : decode cX0_init 6 = .ok (.newarray .int, 2) := by decide +kernel
theorem dX0_init_8 : decode cX0_init 8 = .ok (.putfield 9, 3) := by decide +kernel
theorem dX0_init_11 : decode cX0_init 11 = .ok (.aload_n 0, 1) := by decide +kernel
theorem dX0_init_12 : decode cX0_init 12 = .ok (.getfield 9, 3) := by decide +kernel
theorem dX0_init_15 : decode cX0_init 15 = .ok (.iconst 0, 1) := by decide +kernel
theorem dX0_init_16 : decode cX0_init 16 = .ok (.bipush 6, 2) := by decide +kernel
theorem dX0_init_18 : decode cX0_init 18 = .ok (.iastore, 1) := by decide +kernel
theorem dX0_init_19 : decode cX0_init 19 = .ok (.aload_n 0, 1) := by decide +kernel
theorem dX0_init_20 : decode cX0_init 20 = .ok (.getfield 9, 3) := by decide +kernel
theorem dX0_init_23 : decode cX0_init 23 = .ok (.iconst 1, 1) := by decide +kernel
theorem dX0_init_24 : decode cX0_init 24 = .ok (.bipush 11, 2) := by decide +kernel
theorem dX0_init_26 : decode cX0_init 26 = .ok (.iastore, 1) := by decide +kernel
theorem dX0_init_27 : decode cX0_init 27 = .ok (.aload_n 0, 1) := by decide +kernel
theorem dX0_init_28 : decode cX0_init 28 = .ok (.getfield 9, 3) := by decide +kernel
theorem dX0_init_31 : decode cX0_init 31 = .ok (.iconst 2, 1) := by decide +kernel
theorem dX0_init_32 : decode cX0_init 32 = .ok (.iconst 1, 1) := by decide +kernel
theorem dX0_init_33 : decode cX0_init 33 = .ok (.iastore, 1) := by decide +kernel
theorem dX0_init_34 : decode cX0_init 34 = .ok (.aload_n 0, 1) := by decide +kernel
theorem dX0_init_35 : decode cX0_init 35 = .ok (.getfield 9, 3) := by decide +kernel
theorem dX0_init_38 : decode cX0_init 38 = .ok (.iconst 3, 1) := by decide +kernel
theorem dX0_init_39 : decode cX0_init 39 = .ok (.iconst 4, 1) := by decide +kernel
theorem dX0_init_40 : decode cX0_init 40 = .ok (.iastore, 1) := by decide +kernel
theorem dX0_init_41 : decode cX0_init 41 = .ok (.aload_n 0, 1) := by decide +kernel
theorem dX0_init_42 : decode cX0_init 42 = .ok (.bipush 6, 2) := by decide +kernel
theorem dX0_init_44 : decode cX0_init 44 = .ok (.newarray .int, 2) := by decide +kernel
theorem dX0_init_46 : decode cX0_init 46 = .ok (.putfield 15, 3) := by decide +kernel
theorem dX0_init_49 : decode cX0_init 49 = .ok (.aload_n 0, 1) := by decide +kernel
theorem dX0_init_50 : decode cX0_init 50 = .ok (.bipush 8, 2) := by decide +kernel
theorem dX0_init_52 : decode cX0_init 52 = .ok (.anewarray 18, 3) := by decide +kernel
theorem dX0_init_55 : decode cX0_init 55 = .ok (.putfield 20, 3) := by decide +kernel
theorem dX0_init_58 : decode cX0_init 58 = .ok (.iconst 0, 1) := by decide +kernel
theorem dX0_init_59 : decode cX0_init 59 = .ok (.istore_n 1, 1) := by decide +kernel
theorem dX0_init_60 : decode cX0_init 60 = .ok (.iload_n 1, 1) := by decide +kernel
theorem dX0_init_61 : decode cX0_init 61 = .ok (.bipush 8, 2) := by decide +kernel
theorem dX0_init_63 : decode cX0_init 63 = .ok (.if_icmp .ge 22, 3) := by decide +kernel
theorem dX0_init_66 : decode cX0_init 66 = .ok (.aload_n 0, 1) := by decide +kernel
theorem dX0_init_67 : decode cX0_init 67 = .ok (.getfield 20, 3) := by decide +kernel
theorem dX0_init_70 : decode cX0_init 70 = .ok (.iload_n 1, 1) := by decide +kernel
theorem dX0_init_71 : decode cX0_init 71 = .ok (.new 18, 3) := by decide +kernel
theorem dX0_init_74 : decode cX0_init 74 = .ok (.dup, 1) := by decide +kernel
theorem dX0_init_75 : decode cX0_init 75 = .ok (.invokespecial 24, 3) := by decide +kernel
theorem dX0_init_78 : decode cX0_init 78 = .ok (.aastore, 1) := by decide +kernel
theorem dX0_init_79 : decode cX0_init 79 = .ok (.iinc 1 1, 3) := by decide +kernel
theorem dX0_init_82 : decode cX0_init 82 = .ok (.goto (-22), 3) := by decide +kernel
theorem dX0_init_85 : decode cX0_init 85 = .ok (.aload_n 0, 1) := by decide +kernel
theorem dX0_init_86 : decode cX0_init 86 = .ok (.iconst 1, 1) := by decide +kernel
theorem dX0_init_87 : decode cX0_init 87 = .ok (.putfield 25, 3) := by decide +kernel
theorem dX0_init_90 : decode cX0_init 90 = .ok (.aload_n 0, 1) := by decide +kernel
theorem dX0_init_91 : decode cX0_init 91 = .ok (.bipush 10, 2) := by decide +kernel
theorem dX0_init_93 : decode cX0_init 93 = .ok (.newarray .int, 2) := by decide +kernel
theorem dX0_init_95 : decode cX0_init 95 = .ok (.putfield 29, 3) := by decide +kernel
theorem dX0_init_98 : decode cX0_init 98 = .ok (.aload_n 0, 1) := by decide +kernel
theorem dX0_init_99 : decode cX0_init 99 = .ok (.getfield 29, 3) := by decide +kernel
theorem dX0_init_102 : decode cX0_init 102 = .ok (.iconst (-1), 1) := by decide +kernel
theorem dX0_init_103 : decode cX0_init 103 = .ok (.invokestatic 32, 3) := by decide +kernel
theorem dX0_init_106 : decode cX0_init 106 = .ok (.return_, 1) := by decide +kernel
theorem dX0_takeAll_0 : decode cX0_takeAll 0 = .ok (.aload_n 1, 1) := by decide +kernel
theorem dX0_takeAll_1 : decode cX0_takeAll 1 = .ok (.getfield 9, 3) := by decide +kernel
theorem dX0_takeAll_4 : decode cX0_takeAll 4 = .ok (.iconst 0, 1) := by decide +kernel
theorem dX0_takeAll_5 : decode cX0_takeAll 5 = .ok (.aload_n 0, 1) := by decide +kernel
theorem dX0_takeAll_6 : decode cX0_takeAll 6 = .ok (.getfield 9, 3) := by decide +kernel
theorem dX0_takeAll_9 : decode cX0_takeAll 9 = .ok (.iconst 0, 1) := by decide +kernel
theorem dX0_takeAll_10 : decode cX0_takeAll 10 = .ok (.iconst 4, 1) := by decide +kernel
theorem dX0_takeAll_11 : decode cX0_takeAll 11 = .ok (.invokestatic 38, 3) := by decide +kernel
theorem dX0_takeAll_14 : decode cX0_takeAll 14 = .ok (.aload_n 1, 1) := by decide +kernel
theorem dX0_takeAll_15 : decode cX0_takeAll 15 = .ok (.getfield 15, 3) := by decide +kernel
theorem dX0_takeAll_18 : decode cX0_takeAll 18 = .ok (.iconst 0, 1) := by decide +kernel
theorem dX0_takeAll_19 : decode cX0_takeAll 19 = .ok (.aload_n 0, 1) := by decide +kernel
theorem dX0_takeAll_20 : decode cX0_takeAll 20 = .ok (.getfield 15, 3) := by decide +kernel
theorem dX0_takeAll_23 : decode cX0_takeAll 23 = .ok (.iconst 0, 1) := by decide +kernel
theorem dX0_takeAll_24 : decode cX0_takeAll 24 = .ok (.bipush 6, 2) := by decide +kernel
theorem dX0_takeAll_26 : decode cX0_takeAll 26 = .ok (.invokestatic 38, 3) := by decide +kernel
theorem dX0_takeAll_29 : decode cX0_takeAll 29 = .ok (.aload_n 1, 1) := by decide +kernel
theorem dX0_takeAll_30 : decode cX0_takeAll 30 = .ok (.getfield 29, 3) := by decide +kernel
theorem dX0_takeAll_33 : decode cX0_takeAll 33 = .ok (.iconst 0, 1) := by decide +kernel
theorem dX0_takeAll_34 : decode cX0_takeAll 34 = .ok (.aload_n 0, 1) := by decide +kernel
theorem dX0_takeAll_35 : decode cX0_takeAll 35 = .ok (.getfield 29, 3) := by decide +kernel
theorem dX0_takeAll_38 : decode cX0_takeAll 38 = .ok (.iconst 0, 1) := by decide +kernel
theorem dX0_takeAll_39 : decode cX0_takeAll 39 = .ok (.bipush 10, 2) := by decide +kernel
theorem dX0_takeAll_41 : decode cX0_takeAll 41 = .ok (.invokestatic 38, 3) := by decide +kernel
theorem dX0_takeAll_44 : decode cX0_takeAll 44 = .ok (.aload_n 0, 1) := by decide +kernel
theorem dX0_takeAll_45 : decode cX0_takeAll 45 = .ok (.aload_n 1, 1) := by decide +kernel
theorem dX0_takeAll_46 : decode cX0_takeAll 46 = .ok (.getfield 44, 3) := by decide +kernel
theorem dX0_takeAll_49 : decode cX0_takeAll 49 = .ok (.putfield 44, 3) := by decide +kernel
theorem dX0_takeAll_52 : decode cX0_takeAll 52 = .ok (.iconst 0, 1) := by decide +kernel
theorem dX0_takeAll_53 : decode cX0_takeAll 53 = .ok (.istore_n 2, 1) := by decide +kernel
theorem dX0_takeAll_54 : decode cX0_takeAll 54 = .ok (.iload_n 2, 1) := by decide +kernel
theorem dX0_takeAll_55 : decode cX0_takeAll 55 = .ok (.aload_n 0, 1) := by decide +kernel
theorem dX0_takeAll_56 : decode cX0_takeAll 56 = .ok (.getfield 44, 3) := by decide +kernel
theorem dX0_takeAll_59 : decode cX0_takeAll 59 = .ok (.if_icmp .ge 24, 3) := by decide +kernel
theorem dX0_takeAll_62 : decode cX0_takeAll 62 = .ok (.aload_n 0, 1) := by decide +kernel
theorem dX0_takeAll_63 : decode cX0_takeAll 63 = .ok (.getfield 20, 3) := by decide +kernel
theorem dX0_takeAll_66 : decode cX0_takeAll 66 = .ok (.iload_n 2, 1) := by decide +kernel
theorem dX0_takeAll_67 : decode cX0_takeAll 67 = .ok (.aaload, 1) := by decide +kernel
theorem dX0_takeAll_68 : decode cX0_takeAll 68 = .ok (.aload_n 1, 1) := by decide +kernel
theorem dX0_takeAll_69 : decode cX0_takeAll 69 = .ok (.getfield 20, 3) := by decide +kernel
theorem dX0_takeAll_72 : decode cX0_takeAll 72 = .ok (.iload_n 2, 1) := by decide +kernel
theorem dX0_takeAll_73 : decode cX0_takeAll 73 = .ok (.aaload, 1) := by decide +kernel
theorem dX0_takeAll_74 : decode cX0_takeAll 74 = .ok (.invokevirtual 47, 3) := by decide +kernel
theorem dX0_takeAll_77 : decode cX0_takeAll 77 = .ok (.iinc 2 1, 3) := by decide +kernel
theorem dX0_takeAll_80 : decode cX0_takeAll 80 = .ok (.goto (-26), 3) := by decide +kernel
theorem dX0_takeAll_83 : decode cX0_takeAll 83 = .ok (.aload_n 0, 1) := by decide +kernel
theorem dX0_takeAll_84 : decode cX0_takeAll 84 = .ok (.aload_n 1, 1) := by decide +kernel
theorem dX0_takeAll_85 : decode cX0_takeAll 85 = .ok (.getfield 51, 3) := by decide +kernel
theorem dX0_takeAll_88 : decode cX0_takeAll 88 = .ok (.putfield 51, 3) := by decide +kernel
theorem dX0_takeAll_91 : decode cX0_takeAll 91 = .ok (.aload_n 0, 1) := by decide +kernel
theorem dX0_takeAll_92 : decode cX0_takeAll 92 = .ok (.aload_n 1, 1) := by decide +kernel
theorem dX0_takeAll_93 : decode cX0_takeAll 93 = .ok (.getfield 25, 3) := by decide +kernel
theorem dX0_takeAll_96 : decode cX0_takeAll 96 = .ok (.putfield 25, 3) := by decide +kernel
theorem dX0_takeAll_99 : decode cX0_takeAll 99 = .ok (.return_, 1) := by decide +kernel
theorem dX0_has_0 : decode cX0_has 0 = .ok (.iload_n 1, 1) := by decide +kernel
theorem dX0_has_1 : decode cX0_has 1 = .ok (.iconst 0, 1) := by decide +kernel
theorem dX0_has_2 : decode cX0_has 2 = .ok (.aload_n 0, 1) := by decide +kernel
theorem dX0_has_3 : decode cX0_has 3 = .ok (.getfield 44, 3) := by decide +kernel
theorem dX0_has_6 : decode cX0_has 6 = .ok (.iconst 1, 1) := by decide +kernel
theorem dX0_has_7 : decode cX0_has 7 = .ok (.isub, 1) := by decide +kernel
theorem dX0_has_8 : decode cX0_has 8 = .ok (.invokestatic 54, 3) := by decide +kernel
theorem dX0_has_11 : decode cX0_has 11 = .ok (.ireturn, 1) := by decide +kernel
theorem dX0_welcome_0 : decode cX0_welcome 0 = .ok (.aload_n 0, 1) := by decide +kernel
theorem dX0_welcome_1 : decode cX0_welcome 1 = .ok (.getfield 44, 3) := by decide +kernel
theorem dX0_welcome_4 : decode cX0_welcome 4 = .ok (.bipush 8, 2) := by decide +kernel
theorem dX0_welcome_6 : decode cX0_welcome 6 = .ok (.if_icmp .lt 5, 3) := by decide +kernel
theorem dX0_welcome_9 : decode cX0_welcome 9 = .ok (.iconst (-1), 1) := by decide +kernel
theorem dX0_welcome_10 : decode cX0_welcome 10 = .ok (.ireturn, 1) := by decide +kernel
theorem dX0_welcome_11 : decode cX0_welcome 11 = .ok (.aload_n 0, 1) := by decide +kernel
theorem dX0_welcome_12 : decode cX0_welcome 12 = .ok (.getfield 44, 3) := by decide +kernel
theorem dX0_welcome_15 : decode cX0_welcome 15 = .ok (.istore_n 2, 1) := by decide +kernel
theorem dX0_welcome_16 : decode cX0_welcome 16 = .ok (.aload_n 0, 1) := by decide +kernel
theorem dX0_welcome_17 : decode cX0_welcome 17 = .ok (.getfield 20, 3) := by decide +kernel
theorem dX0_welcome_20 : decode cX0_welcome 20 = .ok (.iload_n 2, 1) := by decide +kernel
theorem dX0_welcome_21 : decode cX0_welcome 21 = .ok (.aaload, 1) := by decide +kernel
theorem dX0_welcome_22 : decode cX0_welcome 22 = .ok (.iload_n 1, 1) := by decide +kernel
theorem dX0_welcome_23 : decode cX0_welcome 23 = .ok (.invokevirtual 58, 3) := by decide +kernel
theorem dX0_welcome_26 : decode cX0_welcome 26 = .ok (.aload_n 0, 1) := by decide +kernel
theorem dX0_welcome_27 : decode cX0_welcome 27 = .ok (.dup, 1) := by decide +kernel
theorem dX0_welcome_28 : decode cX0_welcome 28 = .ok (.getfield 44, 3) := by decide +kernel
theorem dX0_welcome_31 : decode cX0_welcome 31 = .ok (.iconst 1, 1) := by decide +kernel
theorem dX0_welcome_32 : decode cX0_welcome 32 = .ok (.iadd, 1) := by decide +kernel
theorem dX0_welcome_33 : decode cX0_welcome 33 = .ok (.putfield 44, 3) := by decide +kernel
theorem dX0_welcome_36 : decode cX0_welcome 36 = .ok (.iload_n 2, 1) := by decide +kernel
theorem dX0_welcome_37 : decode cX0_welcome 37 = .ok (.ireturn, 1) := by decide +kernel
theorem dX0_factFits_0 : decode cX0_factFits 0 = .ok (.iload_n 2, 1) := by decide +kernel
theorem dX0_factFits_1 : decode cX0_factFits 1 = .ok (.tableswitch 84 0 4 #[35, 43, 51, 75, 75], 35) := by decide +kernel
theorem dX0_factFits_36 : decode cX0_factFits 36 = .ok (.iload_n 3, 1) := by decide +kernel
theorem dX0_factFits_37 : decode cX0_factFits 37 = .ok (.iconst 0, 1) := by decide +kernel
theorem dX0_factFits_38 : decode cX0_factFits 38 = .ok (.bipush 6, 2) := by decide +kernel
theorem dX0_factFits_40 : decode cX0_factFits 40 = .ok (.invokestatic 54, 3) := by decide +kernel
theorem dX0_factFits_43 : decode cX0_factFits 43 = .ok (.ireturn, 1) := by decide +kernel
theorem dX0_factFits_44 : decode cX0_factFits 44 = .ok (.iload_n 3, 1) := by decide +kernel
theorem dX0_factFits_45 : decode cX0_factFits 45 = .ok (.iconst 0, 1) := by decide +kernel
theorem dX0_factFits_46 : decode cX0_factFits 46 = .ok (.bipush 99, 2) := by decide +kernel
theorem dX0_factFits_48 : decode cX0_factFits 48 = .ok (.invokestatic 54, 3) := by decide +kernel
theorem dX0_factFits_51 : decode cX0_factFits 51 = .ok (.ireturn, 1) := by decide +kernel
theorem dX0_factFits_52 : decode cX0_factFits 52 = .ok (.iload_n 3, 1) := by decide +kernel
theorem dX0_factFits_53 : decode cX0_factFits 53 = .ok (.iconst (-1), 1) := by decide +kernel
theorem dX0_factFits_54 : decode cX0_factFits 54 = .ok (.if_icmp .eq 16, 3) := by decide +kernel
theorem dX0_factFits_57 : decode cX0_factFits 57 = .ok (.aload_n 0, 1) := by decide +kernel
theorem dX0_factFits_58 : decode cX0_factFits 58 = .ok (.iload_n 3, 1) := by decide +kernel
theorem dX0_factFits_59 : decode cX0_factFits 59 = .ok (.invokevirtual 62, 3) := by decide +kernel
theorem dX0_factFits_62 : decode cX0_factFits 62 = .ok (.ifCond .eq 12, 3) := by decide +kernel
theorem dX0_factFits_65 : decode cX0_factFits 65 = .ok (.iload_n 3, 1) := by decide +kernel
theorem dX0_factFits_66 : decode cX0_factFits 66 = .ok (.iload_n 1, 1) := by decide +kernel
theorem dX0_factFits_67 : decode cX0_factFits 67 = .ok (.if_icmp .eq 7, 3) := by decide +kernel
theorem dX0_factFits_70 : decode cX0_factFits 70 = .ok (.iconst 1, 1) := by decide +kernel
theorem dX0_factFits_71 : decode cX0_factFits 71 = .ok (.goto 4, 3) := by decide +kernel
theorem dX0_factFits_74 : decode cX0_factFits 74 = .ok (.iconst 0, 1) := by decide +kernel
theorem dX0_factFits_75 : decode cX0_factFits 75 = .ok (.ireturn, 1) := by decide +kernel
theorem dX0_factFits_76 : decode cX0_factFits 76 = .ok (.iload_n 3, 1) := by decide +kernel
theorem dX0_factFits_77 : decode cX0_factFits 77 = .ok (.iconst 0, 1) := by decide +kernel
theorem dX0_factFits_78 : decode cX0_factFits 78 = .ok (.sipush 9999, 3) := by decide +kernel
theorem dX0_factFits_81 : decode cX0_factFits 81 = .ok (.invokestatic 54, 3) := by decide +kernel
theorem dX0_factFits_84 : decode cX0_factFits 84 = .ok (.ireturn, 1) := by decide +kernel
theorem dX0_factFits_85 : decode cX0_factFits 85 = .ok (.iconst 0, 1) := by decide +kernel
theorem dX0_factFits_86 : decode cX0_factFits 86 = .ok (.ireturn, 1) := by decide +kernel
theorem dX0_draw_0 : decode cX0_draw 0 = .ok (.aload_n 0, 1) := by decide +kernel
theorem dX0_draw_1 : decode cX0_draw 1 = .ok (.aload_n 0, 1) := by decide +kernel
theorem dX0_draw_2 : decode cX0_draw 2 = .ok (.getfield 25, 3) := by decide +kernel
theorem dX0_draw_5 : decode cX0_draw 5 = .ok (.ldc 66, 2) := by decide +kernel
theorem dX0_draw_7 : decode cX0_draw 7 = .ok (.imul, 1) := by decide +kernel
theorem dX0_draw_8 : decode cX0_draw 8 = .ok (.sipush 12345, 3) := by decide +kernel
theorem dX0_draw_11 : decode cX0_draw 11 = .ok (.iadd, 1) := by decide +kernel
theorem dX0_draw_12 : decode cX0_draw 12 = .ok (.putfield 25, 3) := by decide +kernel
theorem dX0_draw_15 : decode cX0_draw 15 = .ok (.aload_n 0, 1) := by decide +kernel
theorem dX0_draw_16 : decode cX0_draw 16 = .ok (.getfield 25, 3) := by decide +kernel
theorem dX0_draw_19 : decode cX0_draw 19 = .ok (.bipush 8, 2) := by decide +kernel
theorem dX0_draw_21 : decode cX0_draw 21 = .ok (.iushr, 1) := by decide +kernel
theorem dX0_draw_22 : decode cX0_draw 22 = .ok (.ireturn, 1) := by decide +kernel
theorem dX0_pass_0 : decode cX0_pass 0 = .ok (.iconst 0, 1) := by decide +kernel
theorem dX0_pass_1 : decode cX0_pass 1 = .ok (.istore_n 2, 1) := by decide +kernel
theorem dX0_pass_2 : decode cX0_pass 2 = .ok (.iload_n 2, 1) := by decide +kernel
theorem dX0_pass_3 : decode cX0_pass 3 = .ok (.iload_n 1, 1) := by decide +kernel
theorem dX0_pass_4 : decode cX0_pass 4 = .ok (.if_icmp .ge 13, 3) := by decide +kernel
theorem dX0_pass_7 : decode cX0_pass 7 = .ok (.aload_n 0, 1) := by decide +kernel
theorem dX0_pass_8 : decode cX0_pass 8 = .ok (.invokevirtual 67, 3) := by decide +kernel
theorem dX0_pass_11 : decode cX0_pass 11 = .ok (.iinc 2 1, 3) := by decide +kernel
theorem dX0_pass_14 : decode cX0_pass 14 = .ok (.goto (-12), 3) := by decide +kernel
theorem dX0_pass_17 : decode cX0_pass 17 = .ok (.return_, 1) := by decide +kernel
theorem dX0_passSunday_0 : decode cX0_passSunday 0 = .ok (.aload_n 0, 1) := by decide +kernel
theorem dX0_passSunday_1 : decode cX0_passSunday 1 = .ok (.invokevirtual 70, 3) := by decide +kernel
theorem dX0_passSunday_4 : decode cX0_passSunday 4 = .ok (.aload_n 0, 1) := by decide +kernel
theorem dX0_passSunday_5 : decode cX0_passSunday 5 = .ok (.getfield 9, 3) := by decide +kernel
theorem dX0_passSunday_8 : decode cX0_passSunday 8 = .ok (.iconst 3, 1) := by decide +kernel
theorem dX0_passSunday_9 : decode cX0_passSunday 9 = .ok (.iaload, 1) := by decide +kernel
theorem dX0_passSunday_10 : decode cX0_passSunday 10 = .ok (.istore_n 1, 1) := by decide +kernel
theorem dX0_passSunday_11 : decode cX0_passSunday 11 = .ok (.aload_n 0, 1) := by decide +kernel
theorem dX0_passSunday_12 : decode cX0_passSunday 12 = .ok (.getfield 9, 3) := by decide +kernel
theorem dX0_passSunday_15 : decode cX0_passSunday 15 = .ok (.iconst 1, 1) := by decide +kernel
theorem dX0_passSunday_16 : decode cX0_passSunday 16 = .ok (.iaload, 1) := by decide +kernel
theorem dX0_passSunday_17 : decode cX0_passSunday 17 = .ok (.istore_n 2, 1) := by decide +kernel
theorem dX0_passSunday_18 : decode cX0_passSunday 18 = .ok (.aload_n 0, 1) := by decide +kernel
theorem dX0_passSunday_19 : decode cX0_passSunday 19 = .ok (.getfield 73, 3) := by decide +kernel
theorem dX0_passSunday_22 : decode cX0_passSunday 22 = .ok (.invokestatic 76, 3) := by decide +kernel
theorem dX0_passSunday_25 : decode cX0_passSunday 25 = .ok (.istore_n 3, 1) := by decide +kernel
theorem dX0_passSunday_26 : decode cX0_passSunday 26 = .ok (.iconst 0, 1) := by decide +kernel
theorem dX0_passSunday_27 : decode cX0_passSunday 27 = .ok (.istore 4, 2) := by decide +kernel
theorem dX0_passSunday_29 : decode cX0_passSunday 29 = .ok (.iload 4, 2) := by decide +kernel
theorem dX0_passSunday_31 : decode cX0_passSunday 31 = .ok (.aload_n 0, 1) := by decide +kernel
theorem dX0_passSunday_32 : decode cX0_passSunday 32 = .ok (.getfield 44, 3) := by decide +kernel
theorem dX0_passSunday_35 : decode cX0_passSunday 35 = .ok (.if_icmp .ge 98, 3) := by decide +kernel
theorem dX0_passSunday_38 : decode cX0_passSunday 38 = .ok (.aload_n 0, 1) := by decide +kernel
theorem dX0_passSunday_39 : decode cX0_passSunday 39 = .ok (.getfield 20, 3) := by decide +kernel
theorem dX0_passSunday_42 : decode cX0_passSunday 42 = .ok (.iload 4, 2) := by decide +kernel
theorem dX0_passSunday_44 : decode cX0_passSunday 44 = .ok (.aaload, 1) := by decide +kernel
theorem dX0_passSunday_45 : decode cX0_passSunday 45 = .ok (.astore 5, 2) := by decide +kernel
theorem dX0_passSunday_47 : decode cX0_passSunday 47 = .ok (.aload_n 0, 1) := by decide +kernel
theorem dX0_passSunday_48 : decode cX0_passSunday 48 = .ok (.getfield 73, 3) := by decide +kernel
theorem dX0_passSunday_51 : decode cX0_passSunday 51 = .ok (.iload 4, 2) := by decide +kernel
theorem dX0_passSunday_53 : decode cX0_passSunday 53 = .ok (.invokestatic 82, 3) := by decide +kernel
theorem dX0_passSunday_56 : decode cX0_passSunday 56 = .ok (.ifCond .eq 24, 3) := by decide +kernel
theorem dX0_passSunday_59 : decode cX0_passSunday 59 = .ok (.aload 5, 2) := by decide +kernel
theorem dX0_passSunday_61 : decode cX0_passSunday 61 = .ok (.iload_n 1, 1) := by decide +kernel
theorem dX0_passSunday_62 : decode cX0_passSunday 62 = .ok (.iload_n 2, 1) := by decide +kernel
theorem dX0_passSunday_63 : decode cX0_passSunday 63 = .ok (.ifCond .le 7, 3) := by decide +kernel
theorem dX0_passSunday_66 : decode cX0_passSunday 66 = .ok (.iconst 1, 1) := by decide +kernel
theorem dX0_passSunday_67 : decode cX0_passSunday 67 = .ok (.goto 4, 3) := by decide +kernel
theorem dX0_passSunday_70 : decode cX0_passSunday 70 = .ok (.iconst 0, 1) := by decide +kernel
theorem dX0_passSunday_71 : decode cX0_passSunday 71 = .ok (.invokevirtual 86, 3) := by decide +kernel
theorem dX0_passSunday_74 : decode cX0_passSunday 74 = .ok (.iinc 2 (-1), 3) := by decide +kernel
theorem dX0_passSunday_77 : decode cX0_passSunday 77 = .ok (.goto 50, 3) := by decide +kernel
theorem dX0_passSunday_80 : decode cX0_passSunday 80 = .ok (.aload_n 0, 1) := by decide +kernel
theorem dX0_passSunday_81 : decode cX0_passSunday 81 = .ok (.getfield 90, 3) := by decide +kernel
theorem dX0_passSunday_84 : decode cX0_passSunday 84 = .ok (.iload 4, 2) := by decide +kernel
theorem dX0_passSunday_86 : decode cX0_passSunday 86 = .ok (.invokestatic 82, 3) := by decide +kernel
theorem dX0_passSunday_89 : decode cX0_passSunday 89 = .ok (.ifCond .eq 12, 3) := by decide +kernel
theorem dX0_passSunday_92 : decode cX0_passSunday 92 = .ok (.aload 5, 2) := by decide +kernel
theorem dX0_passSunday_94 : decode cX0_passSunday 94 = .ok (.iload_n 1, 1) := by decide +kernel
theorem dX0_passSunday_95 : decode cX0_passSunday 95 = .ok (.invokevirtual 93, 3) := by decide +kernel
theorem dX0_passSunday_98 : decode cX0_passSunday 98 = .ok (.goto 29, 3) := by decide +kernel
theorem dX0_passSunday_101 : decode cX0_passSunday 101 = .ok (.aload_n 0, 1) := by decide +kernel
theorem dX0_passSunday_102 : decode cX0_passSunday 102 = .ok (.getfield 96, 3) := by decide +kernel
theorem dX0_passSunday_105 : decode cX0_passSunday 105 = .ok (.iload 4, 2) := by decide +kernel
theorem dX0_passSunday_107 : decode cX0_passSunday 107 = .ok (.invokestatic 82, 3) := by decide +kernel
theorem dX0_passSunday_110 : decode cX0_passSunday 110 = .ok (.ifCond .eq 11, 3) := by decide +kernel
theorem dX0_passSunday_113 : decode cX0_passSunday 113 = .ok (.aload 5, 2) := by decide +kernel
theorem dX0_passSunday_115 : decode cX0_passSunday 115 = .ok (.invokevirtual 99, 3) := by decide +kernel
theorem dX0_passSunday_118 : decode cX0_passSunday 118 = .ok (.goto 9, 3) := by decide +kernel
theorem dX0_passSunday_121 : decode cX0_passSunday 121 = .ok (.aload 5, 2) := by decide +kernel
theorem dX0_passSunday_123 : decode cX0_passSunday 123 = .ok (.iload_n 3, 1) := by decide +kernel
theorem dX0_passSunday_124 : decode cX0_passSunday 124 = .ok (.invokevirtual 102, 3) := by decide +kernel
theorem dX0_passSunday_127 : decode cX0_passSunday 127 = .ok (.iinc 4 1, 3) := by decide +kernel
theorem dX0_passSunday_130 : decode cX0_passSunday 130 = .ok (.goto (-101), 3) := by decide +kernel
theorem dX0_passSunday_133 : decode cX0_passSunday 133 = .ok (.aload_n 0, 1) := by decide +kernel
theorem dX0_passSunday_134 : decode cX0_passSunday 134 = .ok (.ldc 105, 2) := by decide +kernel
theorem dX0_passSunday_136 : decode cX0_passSunday 136 = .ok (.aload_n 0, 1) := by decide +kernel
theorem dX0_passSunday_137 : decode cX0_passSunday 137 = .ok (.getfield 51, 3) := by decide +kernel
theorem dX0_passSunday_140 : decode cX0_passSunday 140 = .ok (.iconst 1, 1) := by decide +kernel
theorem dX0_passSunday_141 : decode cX0_passSunday 141 = .ok (.iadd, 1) := by decide +kernel
theorem dX0_passSunday_142 : decode cX0_passSunday 142 = .ok (.invokestatic 106, 3) := by decide +kernel
theorem dX0_passSunday_145 : decode cX0_passSunday 145 = .ok (.putfield 51, 3) := by decide +kernel
theorem dX0_passSunday_148 : decode cX0_passSunday 148 = .ok (.return_, 1) := by decide +kernel
theorem dX0_decide_0 : decode cX0_decide 0 = .ok (.aload_n 0, 1) := by decide +kernel
theorem dX0_decide_1 : decode cX0_decide 1 = .ok (.aload_n 0, 1) := by decide +kernel
theorem dX0_decide_2 : decode cX0_decide 2 = .ok (.aload_n 0, 1) := by decide +kernel
theorem dX0_decide_3 : decode cX0_decide 3 = .ok (.getfield 15, 3) := by decide +kernel
theorem dX0_decide_6 : decode cX0_decide 6 = .ok (.aload_n 0, 1) := by decide +kernel
theorem dX0_decide_7 : decode cX0_decide 7 = .ok (.getfield 51, 3) := by decide +kernel
theorem dX0_decide_10 : decode cX0_decide 10 = .ok (.bipush 6, 2) := by decide +kernel
theorem dX0_decide_12 : decode cX0_decide 12 = .ok (.irem, 1) := by decide +kernel
theorem dX0_decide_13 : decode cX0_decide 13 = .ok (.iaload, 1) := by decide +kernel
theorem dX0_decide_14 : decode cX0_decide 14 = .ok (.invokevirtual 112, 3) := by decide +kernel
theorem dX0_decide_17 : decode cX0_decide 17 = .ok (.putfield 73, 3) := by decide +kernel
theorem dX0_decide_20 : decode cX0_decide 20 = .ok (.aload_n 0, 1) := by decide +kernel
theorem dX0_decide_21 : decode cX0_decide 21 = .ok (.aload_n 0, 1) := by decide +kernel
theorem dX0_decide_22 : decode cX0_decide 22 = .ok (.invokevirtual 115, 3) := by decide +kernel
theorem dX0_decide_25 : decode cX0_decide 25 = .ok (.putfield 90, 3) := by decide +kernel
theorem dX0_decide_28 : decode cX0_decide 28 = .ok (.aload_n 0, 1) := by decide +kernel
theorem dX0_decide_29 : decode cX0_decide 29 = .ok (.aload_n 0, 1) := by decide +kernel
theorem dX0_decide_30 : decode cX0_decide 30 = .ok (.aload_n 0, 1) := by decide +kernel
theorem dX0_decide_31 : decode cX0_decide 31 = .ok (.getfield 73, 3) := by decide +kernel
theorem dX0_decide_34 : decode cX0_decide 34 = .ok (.aload_n 0, 1) := by decide +kernel
theorem dX0_decide_35 : decode cX0_decide 35 = .ok (.getfield 90, 3) := by decide +kernel
theorem dX0_decide_38 : decode cX0_decide 38 = .ok (.ior, 1) := by decide +kernel
theorem dX0_decide_39 : decode cX0_decide 39 = .ok (.invokevirtual 119, 3) := by decide +kernel
theorem dX0_decide_42 : decode cX0_decide 42 = .ok (.putfield 96, 3) := by decide +kernel
theorem dX0_decide_45 : decode cX0_decide 45 = .ok (.return_, 1) := by decide +kernel
theorem dX0_seated_0 : decode cX0_seated 0 = .ok (.aload_n 0, 1) := by decide +kernel
theorem dX0_seated_1 : decode cX0_seated 1 = .ok (.getfield 9, 3) := by decide +kernel
theorem dX0_seated_4 : decode cX0_seated 4 = .ok (.iconst 0, 1) := by decide +kernel
theorem dX0_seated_5 : decode cX0_seated 5 = .ok (.iaload, 1) := by decide +kernel
theorem dX0_seated_6 : decode cX0_seated 6 = .ok (.istore_n 2, 1) := by decide +kernel
theorem dX0_seated_7 : decode cX0_seated 7 = .ok (.iconst 0, 1) := by decide +kernel
theorem dX0_seated_8 : decode cX0_seated 8 = .ok (.istore_n 3, 1) := by decide +kernel
theorem dX0_seated_9 : decode cX0_seated 9 = .ok (.iconst 0, 1) := by decide +kernel
theorem dX0_seated_10 : decode cX0_seated 10 = .ok (.istore 4, 2) := by decide +kernel
theorem dX0_seated_12 : decode cX0_seated 12 = .ok (.iload 4, 2) := by decide +kernel
theorem dX0_seated_14 : decode cX0_seated 14 = .ok (.aload_n 0, 1) := by decide +kernel
theorem dX0_seated_15 : decode cX0_seated 15 = .ok (.getfield 44, 3) := by decide +kernel
theorem dX0_seated_18 : decode cX0_seated 18 = .ok (.if_icmp .ge 48, 3) := by decide +kernel
theorem dX0_seated_21 : decode cX0_seated 21 = .ok (.aload_n 0, 1) := by decide +kernel
theorem dX0_seated_22 : decode cX0_seated 22 = .ok (.getfield 20, 3) := by decide +kernel
theorem dX0_seated_25 : decode cX0_seated 25 = .ok (.iload 4, 2) := by decide +kernel
theorem dX0_seated_27 : decode cX0_seated 27 = .ok (.aaload, 1) := by decide +kernel
theorem dX0_seated_28 : decode cX0_seated 28 = .ok (.invokevirtual 122, 3) := by decide +kernel
theorem dX0_seated_31 : decode cX0_seated 31 = .ok (.istore 5, 2) := by decide +kernel
theorem dX0_seated_33 : decode cX0_seated 33 = .ok (.iload_n 1, 1) := by decide +kernel
theorem dX0_seated_34 : decode cX0_seated 34 = .ok (.iload 4, 2) := by decide +kernel
theorem dX0_seated_36 : decode cX0_seated 36 = .ok (.invokestatic 82, 3) := by decide +kernel
theorem dX0_seated_39 : decode cX0_seated 39 = .ok (.ifCond .eq 21, 3) := by decide +kernel
theorem dX0_seated_42 : decode cX0_seated 42 = .ok (.iload 5, 2) := by decide +kernel
theorem dX0_seated_44 : decode cX0_seated 44 = .ok (.iload_n 2, 1) := by decide +kernel
theorem dX0_seated_45 : decode cX0_seated 45 = .ok (.if_icmp .gt 15, 3) := by decide +kernel
theorem dX0_seated_48 : decode cX0_seated 48 = .ok (.iload_n 2, 1) := by decide +kernel
theorem dX0_seated_49 : decode cX0_seated 49 = .ok (.iload 5, 2) := by decide +kernel
theorem dX0_seated_51 : decode cX0_seated 51 = .ok (.isub, 1) := by decide +kernel
theorem dX0_seated_52 : decode cX0_seated 52 = .ok (.istore_n 2, 1) := by decide +kernel
theorem dX0_seated_53 : decode cX0_seated 53 = .ok (.iload_n 3, 1) := by decide +kernel
theorem dX0_seated_54 : decode cX0_seated 54 = .ok (.iconst 1, 1) := by decide +kernel
theorem dX0_seated_55 : decode cX0_seated 55 = .ok (.iload 4, 2) := by decide +kernel
theorem dX0_seated_57 : decode cX0_seated 57 = .ok (.ishl, 1) := by decide +kernel
theorem dX0_seated_58 : decode cX0_seated 58 = .ok (.ior, 1) := by decide +kernel
theorem dX0_seated_59 : decode cX0_seated 59 = .ok (.istore_n 3, 1) := by decide +kernel
theorem dX0_seated_60 : decode cX0_seated 60 = .ok (.iinc 4 1, 3) := by decide +kernel
theorem dX0_seated_63 : decode cX0_seated 63 = .ok (.goto (-51), 3) := by decide +kernel
theorem dX0_seated_66 : decode cX0_seated 66 = .ok (.iload_n 3, 1) := by decide +kernel
theorem dX0_seated_67 : decode cX0_seated 67 = .ok (.ireturn, 1) := by decide +kernel
theorem dX0_sharers_0 : decode cX0_sharers 0 = .ok (.iconst 0, 1) := by decide +kernel
theorem dX0_sharers_1 : decode cX0_sharers 1 = .ok (.istore_n 1, 1) := by decide +kernel
theorem dX0_sharers_2 : decode cX0_sharers 2 = .ok (.iconst 0, 1) := by decide +kernel
theorem dX0_sharers_3 : decode cX0_sharers 3 = .ok (.istore_n 2, 1) := by decide +kernel
theorem dX0_sharers_4 : decode cX0_sharers 4 = .ok (.iload_n 2, 1) := by decide +kernel
theorem dX0_sharers_5 : decode cX0_sharers 5 = .ok (.aload_n 0, 1) := by decide +kernel
theorem dX0_sharers_6 : decode cX0_sharers 6 = .ok (.getfield 44, 3) := by decide +kernel
theorem dX0_sharers_9 : decode cX0_sharers 9 = .ok (.if_icmp .ge 54, 3) := by decide +kernel
theorem dX0_sharers_12 : decode cX0_sharers 12 = .ok (.aload_n 0, 1) := by decide +kernel
theorem dX0_sharers_13 : decode cX0_sharers 13 = .ok (.getfield 20, 3) := by decide +kernel
theorem dX0_sharers_16 : decode cX0_sharers 16 = .ok (.iload_n 2, 1) := by decide +kernel
theorem dX0_sharers_17 : decode cX0_sharers 17 = .ok (.aaload, 1) := by decide +kernel
theorem dX0_sharers_18 : decode cX0_sharers 18 = .ok (.astore_n 3, 1) := by decide +kernel
theorem dX0_sharers_19 : decode cX0_sharers 19 = .ok (.aload_n 0, 1) := by decide +kernel
theorem dX0_sharers_20 : decode cX0_sharers 20 = .ok (.getfield 73, 3) := by decide +kernel
theorem dX0_sharers_23 : decode cX0_sharers 23 = .ok (.iload_n 2, 1) := by decide +kernel
theorem dX0_sharers_24 : decode cX0_sharers 24 = .ok (.invokestatic 82, 3) := by decide +kernel
theorem dX0_sharers_27 : decode cX0_sharers 27 = .ok (.ifCond .ne 30, 3) := by decide +kernel
theorem dX0_sharers_30 : decode cX0_sharers 30 = .ok (.aload_n 0, 1) := by decide +kernel
theorem dX0_sharers_31 : decode cX0_sharers 31 = .ok (.getfield 73, 3) := by decide +kernel
theorem dX0_sharers_34 : decode cX0_sharers 34 = .ok (.aload_n 3, 1) := by decide +kernel
theorem dX0_sharers_35 : decode cX0_sharers 35 = .ok (.getfield 125, 3) := by decide +kernel
theorem dX0_sharers_38 : decode cX0_sharers 38 = .ok (.invokestatic 82, 3) := by decide +kernel
theorem dX0_sharers_41 : decode cX0_sharers 41 = .ok (.ifCond .eq 16, 3) := by decide +kernel
theorem dX0_sharers_44 : decode cX0_sharers 44 = .ok (.aload_n 3, 1) := by decide +kernel
theorem dX0_sharers_45 : decode cX0_sharers 45 = .ok (.invokevirtual 128, 3) := by decide +kernel
theorem dX0_sharers_48 : decode cX0_sharers 48 = .ok (.ifCond .eq 9, 3) := by decide +kernel
theorem dX0_sharers_51 : decode cX0_sharers 51 = .ok (.iload_n 1, 1) := by decide +kernel
theorem dX0_sharers_52 : decode cX0_sharers 52 = .ok (.iconst 1, 1) := by decide +kernel
theorem dX0_sharers_53 : decode cX0_sharers 53 = .ok (.iload_n 2, 1) := by decide +kernel
theorem dX0_sharers_54 : decode cX0_sharers 54 = .ok (.ishl, 1) := by decide +kernel
theorem dX0_sharers_55 : decode cX0_sharers 55 = .ok (.ior, 1) := by decide +kernel
theorem dX0_sharers_56 : decode cX0_sharers 56 = .ok (.istore_n 1, 1) := by decide +kernel
theorem dX0_sharers_57 : decode cX0_sharers 57 = .ok (.iinc 2 1, 3) := by decide +kernel
theorem dX0_sharers_60 : decode cX0_sharers 60 = .ok (.goto (-56), 3) := by decide +kernel
theorem dX0_sharers_63 : decode cX0_sharers 63 = .ok (.iload_n 1, 1) := by decide +kernel
theorem dX0_sharers_64 : decode cX0_sharers 64 = .ok (.ireturn, 1) := by decide +kernel
theorem dX0_volunteersTo_0 : decode cX0_volunteersTo 0 = .ok (.iconst 0, 1) := by decide +kernel
theorem dX0_volunteersTo_1 : decode cX0_volunteersTo 1 = .ok (.istore_n 2, 1) := by decide +kernel
theorem dX0_volunteersTo_2 : decode cX0_volunteersTo 2 = .ok (.iconst 0, 1) := by decide +kernel
theorem dX0_volunteersTo_3 : decode cX0_volunteersTo 3 = .ok (.istore_n 3, 1) := by decide +kernel
theorem dX0_volunteersTo_4 : decode cX0_volunteersTo 4 = .ok (.iload_n 3, 1) := by decide +kernel
theorem dX0_volunteersTo_5 : decode cX0_volunteersTo 5 = .ok (.aload_n 0, 1) := by decide +kernel
theorem dX0_volunteersTo_6 : decode cX0_volunteersTo 6 = .ok (.getfield 9, 3) := by decide +kernel
theorem dX0_volunteersTo_9 : decode cX0_volunteersTo 9 = .ok (.iconst 2, 1) := by decide +kernel
theorem dX0_volunteersTo_10 : decode cX0_volunteersTo 10 = .ok (.iaload, 1) := by decide +kernel
theorem dX0_volunteersTo_11 : decode cX0_volunteersTo 11 = .ok (.if_icmp .ge 34, 3) := by decide +kernel
theorem dX0_volunteersTo_14 : decode cX0_volunteersTo 14 = .ok (.aload_n 0, 1) := by decide +kernel
theorem dX0_volunteersTo_15 : decode cX0_volunteersTo 15 = .ok (.iload_n 1, 1) := by decide +kernel
theorem dX0_volunteersTo_16 : decode cX0_volunteersTo 16 = .ok (.iload_n 2, 1) := by decide +kernel
theorem dX0_volunteersTo_17 : decode cX0_volunteersTo 17 = .ok (.ior, 1) := by decide +kernel
theorem dX0_volunteersTo_18 : decode cX0_volunteersTo 18 = .ok (.invokevirtual 132, 3) := by decide +kernel
theorem dX0_volunteersTo_21 : decode cX0_volunteersTo 21 = .ok (.istore 4, 2) := by decide +kernel
theorem dX0_volunteersTo_23 : decode cX0_volunteersTo 23 = .ok (.iload 4, 2) := by decide +kernel
theorem dX0_volunteersTo_25 : decode cX0_volunteersTo 25 = .ok (.iconst (-1), 1) := by decide +kernel
theorem dX0_volunteersTo_26 : decode cX0_volunteersTo 26 = .ok (.if_icmp .ne 6, 3) := by decide +kernel
theorem dX0_volunteersTo_29 : decode cX0_volunteersTo 29 = .ok (.goto 16, 3) := by decide +kernel
theorem dX0_volunteersTo_32 : decode cX0_volunteersTo 32 = .ok (.iload_n 2, 1) := by decide +kernel
theorem dX0_volunteersTo_33 : decode cX0_volunteersTo 33 = .ok (.iconst 1, 1) := by decide +kernel
theorem dX0_volunteersTo_34 : decode cX0_volunteersTo 34 = .ok (.iload 4, 2) := by decide +kernel
theorem dX0_volunteersTo_36 : decode cX0_volunteersTo 36 = .ok (.ishl, 1) := by decide +kernel
theorem dX0_volunteersTo_37 : decode cX0_volunteersTo 37 = .ok (.ior, 1) := by decide +kernel
theorem dX0_volunteersTo_38 : decode cX0_volunteersTo 38 = .ok (.istore_n 2, 1) := by decide +kernel
theorem dX0_volunteersTo_39 : decode cX0_volunteersTo 39 = .ok (.iinc 3 1, 3) := by decide +kernel
theorem dX0_volunteersTo_42 : decode cX0_volunteersTo 42 = .ok (.goto (-38), 3) := by decide +kernel
theorem dX0_volunteersTo_45 : decode cX0_volunteersTo 45 = .ok (.iload_n 2, 1) := by decide +kernel
theorem dX0_volunteersTo_46 : decode cX0_volunteersTo 46 = .ok (.ireturn, 1) := by decide +kernel
theorem dX0_longestWaiting_0 : decode cX0_longestWaiting 0 = .ok (.iconst (-1), 1) := by decide +kernel
theorem dX0_longestWaiting_1 : decode cX0_longestWaiting 1 = .ok (.istore_n 2, 1) := by decide +kernel
theorem dX0_longestWaiting_2 : decode cX0_longestWaiting 2 = .ok (.iconst (-1), 1) := by decide +kernel
theorem dX0_longestWaiting_3 : decode cX0_longestWaiting 3 = .ok (.istore_n 3, 1) := by decide +kernel
theorem dX0_longestWaiting_4 : decode cX0_longestWaiting 4 = .ok (.iconst 0, 1) := by decide +kernel
theorem dX0_longestWaiting_5 : decode cX0_longestWaiting 5 = .ok (.istore 4, 2) := by decide +kernel
theorem dX0_longestWaiting_7 : decode cX0_longestWaiting 7 = .ok (.iload 4, 2) := by decide +kernel
theorem dX0_longestWaiting_9 : decode cX0_longestWaiting 9 = .ok (.aload_n 0, 1) := by decide +kernel
theorem dX0_longestWaiting_10 : decode cX0_longestWaiting 10 = .ok (.getfield 44, 3) := by decide +kernel
theorem dX0_longestWaiting_13 : decode cX0_longestWaiting 13 = .ok (.if_icmp .ge 46, 3) := by decide +kernel
theorem dX0_longestWaiting_16 : decode cX0_longestWaiting 16 = .ok (.iload_n 1, 1) := by decide +kernel
theorem dX0_longestWaiting_17 : decode cX0_longestWaiting 17 = .ok (.iload 4, 2) := by decide +kernel
theorem dX0_longestWaiting_19 : decode cX0_longestWaiting 19 = .ok (.ishr, 1) := by decide +kernel
theorem dX0_longestWaiting_20 : decode cX0_longestWaiting 20 = .ok (.iconst 1, 1) := by decide +kernel
theorem dX0_longestWaiting_21 : decode cX0_longestWaiting 21 = .ok (.iand, 1) := by decide +kernel
theorem dX0_longestWaiting_22 : decode cX0_longestWaiting 22 = .ok (.ifCond .ne 31, 3) := by decide +kernel
theorem dX0_longestWaiting_25 : decode cX0_longestWaiting 25 = .ok (.aload_n 0, 1) := by decide +kernel
theorem dX0_longestWaiting_26 : decode cX0_longestWaiting 26 = .ok (.getfield 20, 3) := by decide +kernel
theorem dX0_longestWaiting_29 : decode cX0_longestWaiting 29 = .ok (.iload 4, 2) := by decide +kernel
theorem dX0_longestWaiting_31 : decode cX0_longestWaiting 31 = .ok (.aaload, 1) := by decide +kernel
theorem dX0_longestWaiting_32 : decode cX0_longestWaiting 32 = .ok (.getfield 135, 3) := by decide +kernel
theorem dX0_longestWaiting_35 : decode cX0_longestWaiting 35 = .ok (.iload_n 3, 1) := by decide +kernel
theorem dX0_longestWaiting_36 : decode cX0_longestWaiting 36 = .ok (.if_icmp .le 17, 3) := by decide +kernel
theorem dX0_longestWaiting_39 : decode cX0_longestWaiting 39 = .ok (.aload_n 0, 1) := by decide +kernel
theorem dX0_longestWaiting_40 : decode cX0_longestWaiting 40 = .ok (.getfield 20, 3) := by decide +kernel
theorem dX0_longestWaiting_43 : decode cX0_longestWaiting 43 = .ok (.iload 4, 2) := by decide +kernel
theorem dX0_longestWaiting_45 : decode cX0_longestWaiting 45 = .ok (.aaload, 1) := by decide +kernel
theorem dX0_longestWaiting_46 : decode cX0_longestWaiting 46 = .ok (.getfield 135, 3) := by decide +kernel
theorem dX0_longestWaiting_49 : decode cX0_longestWaiting 49 = .ok (.istore_n 3, 1) := by decide +kernel
theorem dX0_longestWaiting_50 : decode cX0_longestWaiting 50 = .ok (.iload 4, 2) := by decide +kernel
theorem dX0_longestWaiting_52 : decode cX0_longestWaiting 52 = .ok (.istore_n 2, 1) := by decide +kernel
theorem dX0_longestWaiting_53 : decode cX0_longestWaiting 53 = .ok (.iinc 4 1, 3) := by decide +kernel
theorem dX0_longestWaiting_56 : decode cX0_longestWaiting 56 = .ok (.goto (-49), 3) := by decide +kernel
theorem dX0_longestWaiting_59 : decode cX0_longestWaiting 59 = .ok (.iload_n 2, 1) := by decide +kernel
theorem dX0_longestWaiting_60 : decode cX0_longestWaiting 60 = .ok (.ireturn, 1) := by decide +kernel
theorem dX0_keepAway_0 : decode cX0_keepAway 0 = .ok (.iconst 0, 1) := by decide +kernel
theorem dX0_keepAway_1 : decode cX0_keepAway 1 = .ok (.istore_n 2, 1) := by decide +kernel
theorem dX0_keepAway_2 : decode cX0_keepAway 2 = .ok (.iload_n 2, 1) := by decide +kernel
theorem dX0_keepAway_3 : decode cX0_keepAway 3 = .ok (.bipush 6, 2) := by decide +kernel
theorem dX0_keepAway_5 : decode cX0_keepAway 5 = .ok (.if_icmp .ge 21, 3) := by decide +kernel
theorem dX0_keepAway_8 : decode cX0_keepAway 8 = .ok (.aload_n 0, 1) := by decide +kernel
theorem dX0_keepAway_9 : decode cX0_keepAway 9 = .ok (.getfield 15, 3) := by decide +kernel
theorem dX0_keepAway_12 : decode cX0_keepAway 12 = .ok (.iload_n 2, 1) := by decide +kernel
theorem dX0_keepAway_13 : decode cX0_keepAway 13 = .ok (.dup2, 1) := by decide +kernel
theorem dX0_keepAway_14 : decode cX0_keepAway 14 = .ok (.iaload, 1) := by decide +kernel
theorem dX0_keepAway_15 : decode cX0_keepAway 15 = .ok (.iload_n 1, 1) := by decide +kernel
theorem dX0_keepAway_16 : decode cX0_keepAway 16 = .ok (.iconst (-1), 1) := by decide +kernel
theorem dX0_keepAway_17 : decode cX0_keepAway 17 = .ok (.ixor, 1) := by decide +kernel
theorem dX0_keepAway_18 : decode cX0_keepAway 18 = .ok (.iand, 1) := by decide +kernel
theorem dX0_keepAway_19 : decode cX0_keepAway 19 = .ok (.iastore, 1) := by decide +kernel
theorem dX0_keepAway_20 : decode cX0_keepAway 20 = .ok (.iinc 2 1, 3) := by decide +kernel
theorem dX0_keepAway_23 : decode cX0_keepAway 23 = .ok (.goto (-21), 3) := by decide +kernel
theorem dX0_keepAway_26 : decode cX0_keepAway 26 = .ok (.return_, 1) := by decide +kernel
theorem dX0_moods_0 : decode cX0_moods 0 = .ok (.iconst 0, 1) := by decide +kernel
theorem dX0_moods_1 : decode cX0_moods 1 = .ok (.istore_n 1, 1) := by decide +kernel
theorem dX0_moods_2 : decode cX0_moods 2 = .ok (.iconst 0, 1) := by decide +kernel
theorem dX0_moods_3 : decode cX0_moods 3 = .ok (.istore_n 2, 1) := by decide +kernel
theorem dX0_moods_4 : decode cX0_moods 4 = .ok (.iload_n 2, 1) := by decide +kernel
theorem dX0_moods_5 : decode cX0_moods 5 = .ok (.aload_n 0, 1) := by decide +kernel
theorem dX0_moods_6 : decode cX0_moods 6 = .ok (.getfield 44, 3) := by decide +kernel
theorem dX0_moods_9 : decode cX0_moods 9 = .ok (.if_icmp .ge 21, 3) := by decide +kernel
theorem dX0_moods_12 : decode cX0_moods 12 = .ok (.iload_n 1, 1) := by decide +kernel
theorem dX0_moods_13 : decode cX0_moods 13 = .ok (.aload_n 0, 1) := by decide +kernel
theorem dX0_moods_14 : decode cX0_moods 14 = .ok (.getfield 20, 3) := by decide +kernel
theorem dX0_moods_17 : decode cX0_moods 17 = .ok (.iload_n 2, 1) := by decide +kernel
theorem dX0_moods_18 : decode cX0_moods 18 = .ok (.aaload, 1) := by decide +kernel
theorem dX0_moods_19 : decode cX0_moods 19 = .ok (.getfield 138, 3) := by decide +kernel
theorem dX0_moods_22 : decode cX0_moods 22 = .ok (.iadd, 1) := by decide +kernel
theorem dX0_moods_23 : decode cX0_moods 23 = .ok (.istore_n 1, 1) := by decide +kernel
theorem dX0_moods_24 : decode cX0_moods 24 = .ok (.iinc 2 1, 3) := by decide +kernel
theorem dX0_moods_27 : decode cX0_moods 27 = .ok (.goto (-23), 3) := by decide +kernel
theorem dX0_moods_30 : decode cX0_moods 30 = .ok (.iload_n 1, 1) := by decide +kernel
theorem dX0_moods_31 : decode cX0_moods 31 = .ok (.ireturn, 1) := by decide +kernel
theorem dX0_visitsHad_0 : decode cX0_visitsHad 0 = .ok (.iconst 0, 1) := by decide +kernel
theorem dX0_visitsHad_1 : decode cX0_visitsHad 1 = .ok (.istore_n 1, 1) := by decide +kernel
theorem dX0_visitsHad_2 : decode cX0_visitsHad 2 = .ok (.iconst 0, 1) := by decide +kernel
theorem dX0_visitsHad_3 : decode cX0_visitsHad 3 = .ok (.istore_n 2, 1) := by decide +kernel
theorem dX0_visitsHad_4 : decode cX0_visitsHad 4 = .ok (.iload_n 2, 1) := by decide +kernel
theorem dX0_visitsHad_5 : decode cX0_visitsHad 5 = .ok (.aload_n 0, 1) := by decide +kernel
theorem dX0_visitsHad_6 : decode cX0_visitsHad 6 = .ok (.getfield 44, 3) := by decide +kernel
theorem dX0_visitsHad_9 : decode cX0_visitsHad 9 = .ok (.if_icmp .ge 21, 3) := by decide +kernel
theorem dX0_visitsHad_12 : decode cX0_visitsHad 12 = .ok (.iload_n 1, 1) := by decide +kernel
theorem dX0_visitsHad_13 : decode cX0_visitsHad 13 = .ok (.aload_n 0, 1) := by decide +kernel
theorem dX0_visitsHad_14 : decode cX0_visitsHad 14 = .ok (.getfield 20, 3) := by decide +kernel
theorem dX0_visitsHad_17 : decode cX0_visitsHad 17 = .ok (.iload_n 2, 1) := by decide +kernel
theorem dX0_visitsHad_18 : decode cX0_visitsHad 18 = .ok (.aaload, 1) := by decide +kernel
theorem dX0_visitsHad_19 : decode cX0_visitsHad 19 = .ok (.getfield 141, 3) := by decide +kernel
theorem dX0_visitsHad_22 : decode cX0_visitsHad 22 = .ok (.iadd, 1) := by decide +kernel
theorem dX0_visitsHad_23 : decode cX0_visitsHad 23 = .ok (.istore_n 1, 1) := by decide +kernel
theorem dX0_visitsHad_24 : decode cX0_visitsHad 24 = .ok (.iinc 2 1, 3) := by decide +kernel
theorem dX0_visitsHad_27 : decode cX0_visitsHad 27 = .ok (.goto (-23), 3) := by decide +kernel
theorem dX0_visitsHad_30 : decode cX0_visitsHad 30 = .ok (.iload_n 1, 1) := by decide +kernel
theorem dX0_visitsHad_31 : decode cX0_visitsHad 31 = .ok (.ireturn, 1) := by decide +kernel
theorem dX0_lowestMood_0 : decode cX0_lowestMood 0 = .ok (.bipush 99, 2) := by decide +kernel
theorem dX0_lowestMood_2 : decode cX0_lowestMood 2 = .ok (.istore_n 1, 1) := by decide +kernel
theorem dX0_lowestMood_3 : decode cX0_lowestMood 3 = .ok (.iconst 0, 1) := by decide +kernel
theorem dX0_lowestMood_4 : decode cX0_lowestMood 4 = .ok (.istore_n 2, 1) := by decide +kernel
theorem dX0_lowestMood_5 : decode cX0_lowestMood 5 = .ok (.iload_n 2, 1) := by decide +kernel
theorem dX0_lowestMood_6 : decode cX0_lowestMood 6 = .ok (.aload_n 0, 1) := by decide +kernel
theorem dX0_lowestMood_7 : decode cX0_lowestMood 7 = .ok (.getfield 44, 3) := by decide +kernel
theorem dX0_lowestMood_10 : decode cX0_lowestMood 10 = .ok (.if_icmp .ge 23, 3) := by decide +kernel
theorem dX0_lowestMood_13 : decode cX0_lowestMood 13 = .ok (.iload_n 1, 1) := by decide +kernel
theorem dX0_lowestMood_14 : decode cX0_lowestMood 14 = .ok (.aload_n 0, 1) := by decide +kernel
theorem dX0_lowestMood_15 : decode cX0_lowestMood 15 = .ok (.getfield 20, 3) := by decide +kernel
theorem dX0_lowestMood_18 : decode cX0_lowestMood 18 = .ok (.iload_n 2, 1) := by decide +kernel
theorem dX0_lowestMood_19 : decode cX0_lowestMood 19 = .ok (.aaload, 1) := by decide +kernel
theorem dX0_lowestMood_20 : decode cX0_lowestMood 20 = .ok (.getfield 138, 3) := by decide +kernel
theorem dX0_lowestMood_23 : decode cX0_lowestMood 23 = .ok (.invokestatic 106, 3) := by decide +kernel
theorem dX0_lowestMood_26 : decode cX0_lowestMood 26 = .ok (.istore_n 1, 1) := by decide +kernel
theorem dX0_lowestMood_27 : decode cX0_lowestMood 27 = .ok (.iinc 2 1, 3) := by decide +kernel
theorem dX0_lowestMood_30 : decode cX0_lowestMood 30 = .ok (.goto (-25), 3) := by decide +kernel
theorem dX0_lowestMood_33 : decode cX0_lowestMood 33 = .ok (.iload_n 1, 1) := by decide +kernel
theorem dX0_lowestMood_34 : decode cX0_lowestMood 34 = .ok (.ireturn, 1) := by decide +kernel
theorem dX0_wellOnes_0 : decode cX0_wellOnes 0 = .ok (.iconst 0, 1) := by decide +kernel
theorem dX0_wellOnes_1 : decode cX0_wellOnes 1 = .ok (.istore_n 1, 1) := by decide +kernel
theorem dX0_wellOnes_2 : decode cX0_wellOnes 2 = .ok (.iconst 0, 1) := by decide +kernel
theorem dX0_wellOnes_3 : decode cX0_wellOnes 3 = .ok (.istore_n 2, 1) := by decide +kernel
theorem dX0_wellOnes_4 : decode cX0_wellOnes 4 = .ok (.iload_n 2, 1) := by decide +kernel
theorem dX0_wellOnes_5 : decode cX0_wellOnes 5 = .ok (.aload_n 0, 1) := by decide +kernel
theorem dX0_wellOnes_6 : decode cX0_wellOnes 6 = .ok (.getfield 44, 3) := by decide +kernel
theorem dX0_wellOnes_9 : decode cX0_wellOnes 9 = .ok (.if_icmp .ge 27, 3) := by decide +kernel
theorem dX0_wellOnes_12 : decode cX0_wellOnes 12 = .ok (.aload_n 0, 1) := by decide +kernel
theorem dX0_wellOnes_13 : decode cX0_wellOnes 13 = .ok (.getfield 20, 3) := by decide +kernel
theorem dX0_wellOnes_16 : decode cX0_wellOnes 16 = .ok (.iload_n 2, 1) := by decide +kernel
theorem dX0_wellOnes_17 : decode cX0_wellOnes 17 = .ok (.aaload, 1) := by decide +kernel
theorem dX0_wellOnes_18 : decode cX0_wellOnes 18 = .ok (.invokevirtual 144, 3) := by decide +kernel
theorem dX0_wellOnes_21 : decode cX0_wellOnes 21 = .ok (.ifCond .eq 9, 3) := by decide +kernel
theorem dX0_wellOnes_24 : decode cX0_wellOnes 24 = .ok (.iload_n 1, 1) := by decide +kernel
theorem dX0_wellOnes_25 : decode cX0_wellOnes 25 = .ok (.iconst 1, 1) := by decide +kernel
theorem dX0_wellOnes_26 : decode cX0_wellOnes 26 = .ok (.iload_n 2, 1) := by decide +kernel
theorem dX0_wellOnes_27 : decode cX0_wellOnes 27 = .ok (.ishl, 1) := by decide +kernel
theorem dX0_wellOnes_28 : decode cX0_wellOnes 28 = .ok (.ior, 1) := by decide +kernel
theorem dX0_wellOnes_29 : decode cX0_wellOnes 29 = .ok (.istore_n 1, 1) := by decide +kernel
theorem dX0_wellOnes_30 : decode cX0_wellOnes 30 = .ok (.iinc 2 1, 3) := by decide +kernel
theorem dX0_wellOnes_33 : decode cX0_wellOnes 33 = .ok (.goto (-29), 3) := by decide +kernel
theorem dX0_wellOnes_36 : decode cX0_wellOnes 36 = .ok (.iload_n 1, 1) := by decide +kernel
theorem dX0_wellOnes_37 : decode cX0_wellOnes 37 = .ok (.ireturn, 1) := by decide +kernel
theorem dX0_heldSpots_0 : decode cX0_heldSpots 0 = .ok (.iconst 0, 1) := by decide +kernel
theorem dX0_heldSpots_1 : decode cX0_heldSpots 1 = .ok (.istore_n 1, 1) := by decide +kernel
theorem dX0_heldSpots_2 : decode cX0_heldSpots 2 = .ok (.iconst 0, 1) := by decide +kernel
theorem dX0_heldSpots_3 : decode cX0_heldSpots 3 = .ok (.istore_n 2, 1) := by decide +kernel
theorem dX0_heldSpots_4 : decode cX0_heldSpots 4 = .ok (.iload_n 2, 1) := by decide +kernel
theorem dX0_heldSpots_5 : decode cX0_heldSpots 5 = .ok (.bipush 10, 2) := by decide +kernel
theorem dX0_heldSpots_7 : decode cX0_heldSpots 7 = .ok (.if_icmp .ge 22, 3) := by decide +kernel
theorem dX0_heldSpots_10 : decode cX0_heldSpots 10 = .ok (.aload_n 0, 1) := by decide +kernel
theorem dX0_heldSpots_11 : decode cX0_heldSpots 11 = .ok (.getfield 29, 3) := by decide +kernel
theorem dX0_heldSpots_14 : decode cX0_heldSpots 14 = .ok (.iload_n 2, 1) := by decide +kernel
theorem dX0_heldSpots_15 : decode cX0_heldSpots 15 = .ok (.iaload, 1) := by decide +kernel
theorem dX0_heldSpots_16 : decode cX0_heldSpots 16 = .ok (.iconst (-1), 1) := by decide +kernel
theorem dX0_heldSpots_17 : decode cX0_heldSpots 17 = .ok (.if_icmp .eq 6, 3) := by decide +kernel
theorem dX0_heldSpots_20 : decode cX0_heldSpots 20 = .ok (.iinc 1 1, 3) := by decide +kernel
theorem dX0_heldSpots_23 : decode cX0_heldSpots 23 = .ok (.iinc 2 1, 3) := by decide +kernel
theorem dX0_heldSpots_26 : decode cX0_heldSpots 26 = .ok (.goto (-22), 3) := by decide +kernel
theorem dX0_heldSpots_29 : decode cX0_heldSpots 29 = .ok (.iload_n 1, 1) := by decide +kernel
theorem dX0_heldSpots_30 : decode cX0_heldSpots 30 = .ok (.ireturn, 1) := by decide +kernel
theorem dX1_init_0 : decode cX1_init 0 = .ok (.aload_n 0, 1) := by decide +kernel
theorem dX1_init_1 : decode cX1_init 1 = .ok (.invokespecial 3, 3) := by decide +kernel
theorem dX1_init_4 : decode cX1_init 4 = .ok (.return_, 1) := by decide +kernel
theorem dX1_begin_0 : decode cX1_begin 0 = .ok (.aload_n 0, 1) := by decide +kernel
theorem dX1_begin_1 : decode cX1_begin 1 = .ok (.iload_n 1, 1) := by decide +kernel
theorem dX1_begin_2 : decode cX1_begin 2 = .ok (.putfield 9, 3) := by decide +kernel
theorem dX1_begin_5 : decode cX1_begin 5 = .ok (.aload_n 0, 1) := by decide +kernel
theorem dX1_begin_6 : decode cX1_begin 6 = .ok (.bipush 50, 2) := by decide +kernel
theorem dX1_begin_8 : decode cX1_begin 8 = .ok (.putfield 15, 3) := by decide +kernel
theorem dX1_begin_11 : decode cX1_begin 11 = .ok (.aload_n 0, 1) := by decide +kernel
theorem dX1_begin_12 : decode cX1_begin 12 = .ok (.iconst (-1), 1) := by decide +kernel
theorem dX1_begin_13 : decode cX1_begin 13 = .ok (.putfield 18, 3) := by decide +kernel
theorem dX1_begin_16 : decode cX1_begin 16 = .ok (.aload_n 0, 1) := by decide +kernel
theorem dX1_begin_17 : decode cX1_begin 17 = .ok (.iconst 0, 1) := by decide +kernel
theorem dX1_begin_18 : decode cX1_begin 18 = .ok (.putfield 21, 3) := by decide +kernel
theorem dX1_begin_21 : decode cX1_begin 21 = .ok (.aload_n 0, 1) := by decide +kernel
theorem dX1_begin_22 : decode cX1_begin 22 = .ok (.iconst 0, 1) := by decide +kernel
theorem dX1_begin_23 : decode cX1_begin 23 = .ok (.putfield 24, 3) := by decide +kernel
theorem dX1_begin_26 : decode cX1_begin 26 = .ok (.return_, 1) := by decide +kernel
theorem dX1_take_0 : decode cX1_take 0 = .ok (.aload_n 0, 1) := by decide +kernel
theorem dX1_take_1 : decode cX1_take 1 = .ok (.aload_n 1, 1) := by decide +kernel
theorem dX1_take_2 : decode cX1_take 2 = .ok (.getfield 9, 3) := by decide +kernel
theorem dX1_take_5 : decode cX1_take 5 = .ok (.putfield 9, 3) := by decide +kernel
theorem dX1_take_8 : decode cX1_take 8 = .ok (.aload_n 0, 1) := by decide +kernel
theorem dX1_take_9 : decode cX1_take 9 = .ok (.aload_n 1, 1) := by decide +kernel
theorem dX1_take_10 : decode cX1_take 10 = .ok (.getfield 15, 3) := by decide +kernel
theorem dX1_take_13 : decode cX1_take 13 = .ok (.putfield 15, 3) := by decide +kernel
theorem dX1_take_16 : decode cX1_take 16 = .ok (.aload_n 0, 1) := by decide +kernel
theorem dX1_take_17 : decode cX1_take 17 = .ok (.aload_n 1, 1) := by decide +kernel
theorem dX1_take_18 : decode cX1_take 18 = .ok (.getfield 18, 3) := by decide +kernel
theorem dX1_take_21 : decode cX1_take 21 = .ok (.putfield 18, 3) := by decide +kernel
theorem dX1_take_24 : decode cX1_take 24 = .ok (.aload_n 0, 1) := by decide +kernel
theorem dX1_take_25 : decode cX1_take 25 = .ok (.aload_n 1, 1) := by decide +kernel
theorem dX1_take_26 : decode cX1_take 26 = .ok (.getfield 21, 3) := by decide +kernel
theorem dX1_take_29 : decode cX1_take 29 = .ok (.putfield 21, 3) := by decide +kernel
theorem dX1_take_32 : decode cX1_take 32 = .ok (.aload_n 0, 1) := by decide +kernel
theorem dX1_take_33 : decode cX1_take 33 = .ok (.aload_n 1, 1) := by decide +kernel
theorem dX1_take_34 : decode cX1_take 34 = .ok (.getfield 24, 3) := by decide +kernel
theorem dX1_take_37 : decode cX1_take 37 = .ok (.putfield 24, 3) := by decide +kernel
theorem dX1_take_40 : decode cX1_take 40 = .ok (.return_, 1) := by decide +kernel
theorem dX1_fact_0 : decode cX1_fact 0 = .ok (.iload_n 1, 1) := by decide +kernel
theorem dX1_fact_1 : decode cX1_fact 1 = .ok (.tableswitch 51 0 3 #[31, 36, 41, 46], 31) := by decide +kernel
theorem dX1_fact_32 : decode cX1_fact 32 = .ok (.aload_n 0, 1) := by decide +kernel
theorem dX1_fact_33 : decode cX1_fact 33 = .ok (.getfield 9, 3) := by decide +kernel
theorem dX1_fact_36 : decode cX1_fact 36 = .ok (.ireturn, 1) := by decide +kernel
theorem dX1_fact_37 : decode cX1_fact 37 = .ok (.aload_n 0, 1) := by decide +kernel
theorem dX1_fact_38 : decode cX1_fact 38 = .ok (.getfield 15, 3) := by decide +kernel
theorem dX1_fact_41 : decode cX1_fact 41 = .ok (.ireturn, 1) := by decide +kernel
theorem dX1_fact_42 : decode cX1_fact 42 = .ok (.aload_n 0, 1) := by decide +kernel
theorem dX1_fact_43 : decode cX1_fact 43 = .ok (.getfield 18, 3) := by decide +kernel
theorem dX1_fact_46 : decode cX1_fact 46 = .ok (.ireturn, 1) := by decide +kernel
theorem dX1_fact_47 : decode cX1_fact 47 = .ok (.aload_n 0, 1) := by decide +kernel
theorem dX1_fact_48 : decode cX1_fact 48 = .ok (.getfield 21, 3) := by decide +kernel
theorem dX1_fact_51 : decode cX1_fact 51 = .ok (.ireturn, 1) := by decide +kernel
theorem dX1_fact_52 : decode cX1_fact 52 = .ok (.aload_n 0, 1) := by decide +kernel
theorem dX1_fact_53 : decode cX1_fact 53 = .ok (.getfield 24, 3) := by decide +kernel
theorem dX1_fact_56 : decode cX1_fact 56 = .ok (.ireturn, 1) := by decide +kernel
theorem dX1_become_0 : decode cX1_become 0 = .ok (.iload_n 1, 1) := by decide +kernel
theorem dX1_become_1 : decode cX1_become 1 = .ok (.tableswitch 63 0 3 #[31, 39, 47, 55], 31) := by decide +kernel
theorem dX1_become_32 : decode cX1_become 32 = .ok (.aload_n 0, 1) := by decide +kernel
theorem dX1_become_33 : decode cX1_become 33 = .ok (.iload_n 2, 1) := by decide +kernel
theorem dX1_become_34 : decode cX1_become 34 = .ok (.putfield 9, 3) := by decide +kernel
theorem dX1_become_37 : decode cX1_become 37 = .ok (.goto 32, 3) := by decide +kernel
theorem dX1_become_40 : decode cX1_become 40 = .ok (.aload_n 0, 1) := by decide +kernel
theorem dX1_become_41 : decode cX1_become 41 = .ok (.iload_n 2, 1) := by decide +kernel
theorem dX1_become_42 : decode cX1_become 42 = .ok (.putfield 15, 3) := by decide +kernel
theorem dX1_become_45 : decode cX1_become 45 = .ok (.goto 24, 3) := by decide +kernel
theorem dX1_become_48 : decode cX1_become 48 = .ok (.aload_n 0, 1) := by decide +kernel
theorem dX1_become_49 : decode cX1_become 49 = .ok (.iload_n 2, 1) := by decide +kernel
theorem dX1_become_50 : decode cX1_become 50 = .ok (.putfield 18, 3) := by decide +kernel
theorem dX1_become_53 : decode cX1_become 53 = .ok (.goto 16, 3) := by decide +kernel
theorem dX1_become_56 : decode cX1_become 56 = .ok (.aload_n 0, 1) := by decide +kernel
theorem dX1_become_57 : decode cX1_become 57 = .ok (.iload_n 2, 1) := by decide +kernel
theorem dX1_become_58 : decode cX1_become 58 = .ok (.putfield 21, 3) := by decide +kernel
theorem dX1_become_61 : decode cX1_become 61 = .ok (.goto 8, 3) := by decide +kernel
theorem dX1_become_64 : decode cX1_become 64 = .ok (.aload_n 0, 1) := by decide +kernel
theorem dX1_become_65 : decode cX1_become 65 = .ok (.iload_n 2, 1) := by decide +kernel
theorem dX1_become_66 : decode cX1_become 66 = .ok (.putfield 24, 3) := by decide +kernel
theorem dX1_become_69 : decode cX1_become 69 = .ok (.return_, 1) := by decide +kernel
theorem dX1_isWell_0 : decode cX1_isWell 0 = .ok (.aload_n 0, 1) := by decide +kernel
theorem dX1_isWell_1 : decode cX1_isWell 1 = .ok (.getfield 15, 3) := by decide +kernel
theorem dX1_isWell_4 : decode cX1_isWell 4 = .ok (.bipush 60, 2) := by decide +kernel
theorem dX1_isWell_6 : decode cX1_isWell 6 = .ok (.if_icmp .lt 7, 3) := by decide +kernel
theorem dX1_isWell_9 : decode cX1_isWell 9 = .ok (.iconst 1, 1) := by decide +kernel
theorem dX1_isWell_10 : decode cX1_isWell 10 = .ok (.goto 4, 3) := by decide +kernel
theorem dX1_isWell_13 : decode cX1_isWell 13 = .ok (.iconst 0, 1) := by decide +kernel
theorem dX1_isWell_14 : decode cX1_isWell 14 = .ok (.ireturn, 1) := by decide +kernel
theorem dX1_wellSign_0 : decode cX1_wellSign 0 = .ok (.aload_n 0, 1) := by decide +kernel
theorem dX1_wellSign_1 : decode cX1_wellSign 1 = .ok (.invokevirtual 27, 3) := by decide +kernel
theorem dX1_wellSign_4 : decode cX1_wellSign 4 = .ok (.ifCond .eq 7, 3) := by decide +kernel
theorem dX1_wellSign_7 : decode cX1_wellSign 7 = .ok (.iconst 1, 1) := by decide +kernel
theorem dX1_wellSign_8 : decode cX1_wellSign 8 = .ok (.goto 4, 3) := by decide +kernel
theorem dX1_wellSign_11 : decode cX1_wellSign 11 = .ok (.iconst 0, 1) := by decide +kernel
theorem dX1_wellSign_12 : decode cX1_wellSign 12 = .ok (.ireturn, 1) := by decide +kernel
theorem dX1_reaches_0 : decode cX1_reaches 0 = .ok (.iload_n 1, 1) := by decide +kernel
theorem dX1_reaches_1 : decode cX1_reaches 1 = .ok (.lookupswitch 55 #[(0, 27), (1, 41)], 27) := by decide +kernel
theorem dX1_reaches_28 : decode cX1_reaches 28 = .ok (.aload_n 0, 1) := by decide +kernel
theorem dX1_reaches_29 : decode cX1_reaches 29 = .ok (.getfield 15, 3) := by decide +kernel
theorem dX1_reaches_32 : decode cX1_reaches 32 = .ok (.iload_n 2, 1) := by decide +kernel
theorem dX1_reaches_33 : decode cX1_reaches 33 = .ok (.if_icmp .lt 7, 3) := by decide +kernel
theorem dX1_reaches_36 : decode cX1_reaches 36 = .ok (.iconst 1, 1) := by decide +kernel
theorem dX1_reaches_37 : decode cX1_reaches 37 = .ok (.goto 4, 3) := by decide +kernel
theorem dX1_reaches_40 : decode cX1_reaches 40 = .ok (.iconst 0, 1) := by decide +kernel
theorem dX1_reaches_41 : decode cX1_reaches 41 = .ok (.ireturn, 1) := by decide +kernel
theorem dX1_reaches_42 : decode cX1_reaches 42 = .ok (.aload_n 0, 1) := by decide +kernel
theorem dX1_reaches_43 : decode cX1_reaches 43 = .ok (.getfield 15, 3) := by decide +kernel
theorem dX1_reaches_46 : decode cX1_reaches 46 = .ok (.iload_n 2, 1) := by decide +kernel
theorem dX1_reaches_47 : decode cX1_reaches 47 = .ok (.if_icmp .gt 7, 3) := by decide +kernel
theorem dX1_reaches_50 : decode cX1_reaches 50 = .ok (.iconst 1, 1) := by decide +kernel
theorem dX1_reaches_51 : decode cX1_reaches 51 = .ok (.goto 4, 3) := by decide +kernel
theorem dX1_reaches_54 : decode cX1_reaches 54 = .ok (.iconst 0, 1) := by decide +kernel
theorem dX1_reaches_55 : decode cX1_reaches 55 = .ok (.ireturn, 1) := by decide +kernel
theorem dX1_reaches_56 : decode cX1_reaches 56 = .ok (.aload_n 0, 1) := by decide +kernel
theorem dX1_reaches_57 : decode cX1_reaches 57 = .ok (.getfield 24, 3) := by decide +kernel
theorem dX1_reaches_60 : decode cX1_reaches 60 = .ok (.iload_n 2, 1) := by decide +kernel
theorem dX1_reaches_61 : decode cX1_reaches 61 = .ok (.if_icmp .lt 7, 3) := by decide +kernel
theorem dX1_reaches_64 : decode cX1_reaches 64 = .ok (.iconst 1, 1) := by decide +kernel
theorem dX1_reaches_65 : decode cX1_reaches 65 = .ok (.goto 4, 3) := by decide +kernel
theorem dX1_reaches_68 : decode cX1_reaches 68 = .ok (.iconst 0, 1) := by decide +kernel
theorem dX1_reaches_69 : decode cX1_reaches 69 = .ok (.ireturn, 1) := by decide +kernel
theorem dX1_seats_0 : decode cX1_seats 0 = .ok (.iconst 2, 1) := by decide +kernel
theorem dX1_seats_1 : decode cX1_seats 1 = .ok (.istore_n 1, 1) := by decide +kernel
theorem dX1_seats_2 : decode cX1_seats 2 = .ok (.aload_n 0, 1) := by decide +kernel
theorem dX1_seats_3 : decode cX1_seats 3 = .ok (.getfield 9, 3) := by decide +kernel
theorem dX1_seats_6 : decode cX1_seats 6 = .ok (.tableswitch 50 1 6 #[38, 48, 48, 48, 50, 42], 38) := by decide +kernel
theorem dX1_seats_44 : decode cX1_seats 44 = .ok (.iload_n 1, 1) := by decide +kernel
theorem dX1_seats_45 : decode cX1_seats 45 = .ok (.iconst 1, 1) := by decide +kernel
theorem dX1_seats_46 : decode cX1_seats 46 = .ok (.iadd, 1) := by decide +kernel
theorem dX1_seats_47 : decode cX1_seats 47 = .ok (.ireturn, 1) := by decide +kernel
theorem dX1_seats_48 : decode cX1_seats 48 = .ok (.iload_n 1, 1) := by decide +kernel
theorem dX1_seats_49 : decode cX1_seats 49 = .ok (.iconst 1, 1) := by decide +kernel
theorem dX1_seats_50 : decode cX1_seats 50 = .ok (.iadd, 1) := by decide +kernel
theorem dX1_seats_51 : decode cX1_seats 51 = .ok (.iconst 1, 1) := by decide +kernel
theorem dX1_seats_52 : decode cX1_seats 52 = .ok (.iadd, 1) := by decide +kernel
theorem dX1_seats_53 : decode cX1_seats 53 = .ok (.ireturn, 1) := by decide +kernel
theorem dX1_seats_54 : decode cX1_seats 54 = .ok (.iconst 1, 1) := by decide +kernel
theorem dX1_seats_55 : decode cX1_seats 55 = .ok (.ireturn, 1) := by decide +kernel
theorem dX1_seats_56 : decode cX1_seats 56 = .ok (.iload_n 1, 1) := by decide +kernel
theorem dX1_seats_57 : decode cX1_seats 57 = .ok (.ireturn, 1) := by decide +kernel
theorem dX1_gains_0 : decode cX1_gains 0 = .ok (.iconst 2, 1) := by decide +kernel
theorem dX1_gains_1 : decode cX1_gains 1 = .ok (.iload_n 1, 1) := by decide +kernel
theorem dX1_gains_2 : decode cX1_gains 2 = .ok (.imul, 1) := by decide +kernel
theorem dX1_gains_3 : decode cX1_gains 3 = .ok (.bipush 12, 2) := by decide +kernel
theorem dX1_gains_5 : decode cX1_gains 5 = .ok (.invokestatic 31, 3) := by decide +kernel
theorem dX1_gains_8 : decode cX1_gains 8 = .ok (.istore_n 2, 1) := by decide +kernel
theorem dX1_gains_9 : decode cX1_gains 9 = .ok (.aload_n 0, 1) := by decide +kernel
theorem dX1_gains_10 : decode cX1_gains 10 = .ok (.getfield 9, 3) := by decide +kernel
theorem dX1_gains_13 : decode cX1_gains 13 = .ok (.tableswitch 67 1 6 #[39, 43, 47, 47, 53, 39], 39) := by decide +kernel
theorem dX1_gains_52 : decode cX1_gains 52 = .ok (.iload_n 2, 1) := by decide +kernel
theorem dX1_gains_53 : decode cX1_gains 53 = .ok (.iload_n 1, 1) := by decide +kernel
theorem dX1_gains_54 : decode cX1_gains 54 = .ok (.iadd, 1) := by decide +kernel
theorem dX1_gains_55 : decode cX1_gains 55 = .ok (.ireturn, 1) := by decide +kernel
theorem dX1_gains_56 : decode cX1_gains 56 = .ok (.iload_n 2, 1) := by decide +kernel
theorem dX1_gains_57 : decode cX1_gains 57 = .ok (.iconst 2, 1) := by decide +kernel
theorem dX1_gains_58 : decode cX1_gains 58 = .ok (.idiv, 1) := by decide +kernel
theorem dX1_gains_59 : decode cX1_gains 59 = .ok (.ireturn, 1) := by decide +kernel
theorem dX1_gains_60 : decode cX1_gains 60 = .ok (.iload_n 2, 1) := by decide +kernel
theorem dX1_gains_61 : decode cX1_gains 61 = .ok (.iconst 2, 1) := by decide +kernel
theorem dX1_gains_62 : decode cX1_gains 62 = .ok (.idiv, 1) := by decide +kernel
theorem dX1_gains_63 : decode cX1_gains 63 = .ok (.iconst 5, 1) := by decide +kernel
theorem dX1_gains_64 : decode cX1_gains 64 = .ok (.iadd, 1) := by decide +kernel
theorem dX1_gains_65 : decode cX1_gains 65 = .ok (.ireturn, 1) := by decide +kernel
theorem dX1_gains_66 : decode cX1_gains 66 = .ok (.iload_n 1, 1) := by decide +kernel
theorem dX1_gains_67 : decode cX1_gains 67 = .ok (.bipush 6, 2) := by decide +kernel
theorem dX1_gains_69 : decode cX1_gains 69 = .ok (.if_icmp .le 9, 3) := by decide +kernel
theorem dX1_gains_72 : decode cX1_gains 72 = .ok (.iload_n 2, 1) := by decide +kernel
theorem dX1_gains_73 : decode cX1_gains 73 = .ok (.iconst 2, 1) := by decide +kernel
theorem dX1_gains_74 : decode cX1_gains 74 = .ok (.isub, 1) := by decide +kernel
theorem dX1_gains_75 : decode cX1_gains 75 = .ok (.goto 4, 3) := by decide +kernel
theorem dX1_gains_78 : decode cX1_gains 78 = .ok (.iload_n 2, 1) := by decide +kernel
theorem dX1_gains_79 : decode cX1_gains 79 = .ok (.ireturn, 1) := by decide +kernel
theorem dX1_gains_80 : decode cX1_gains 80 = .ok (.iload_n 2, 1) := by decide +kernel
theorem dX1_gains_81 : decode cX1_gains 81 = .ok (.ireturn, 1) := by decide +kernel
theorem dX1_loses_0 : decode cX1_loses 0 = .ok (.iconst 3, 1) := by decide +kernel
theorem dX1_loses_1 : decode cX1_loses 1 = .ok (.istore_n 2, 1) := by decide +kernel
theorem dX1_loses_2 : decode cX1_loses 2 = .ok (.aload_n 0, 1) := by decide +kernel
theorem dX1_loses_3 : decode cX1_loses 3 = .ok (.getfield 9, 3) := by decide +kernel
theorem dX1_loses_6 : decode cX1_loses 6 = .ok (.tableswitch 72 1 6 #[38, 42, 46, 66, 68, 38], 38) := by decide +kernel
theorem dX1_loses_44 : decode cX1_loses 44 = .ok (.iload_n 2, 1) := by decide +kernel
theorem dX1_loses_45 : decode cX1_loses 45 = .ok (.iconst 1, 1) := by decide +kernel
theorem dX1_loses_46 : decode cX1_loses 46 = .ok (.isub, 1) := by decide +kernel
theorem dX1_loses_47 : decode cX1_loses 47 = .ok (.ireturn, 1) := by decide +kernel
theorem dX1_loses_48 : decode cX1_loses 48 = .ok (.iload_n 2, 1) := by decide +kernel
theorem dX1_loses_49 : decode cX1_loses 49 = .ok (.iconst 2, 1) := by decide +kernel
theorem dX1_loses_50 : decode cX1_loses 50 = .ok (.isub, 1) := by decide +kernel
theorem dX1_loses_51 : decode cX1_loses 51 = .ok (.ireturn, 1) := by decide +kernel
theorem dX1_loses_52 : decode cX1_loses 52 = .ok (.aload_n 0, 1) := by decide +kernel
theorem dX1_loses_53 : decode cX1_loses 53 = .ok (.getfield 21, 3) := by decide +kernel
theorem dX1_loses_56 : decode cX1_loses 56 = .ok (.iconst 4, 1) := by decide +kernel
theorem dX1_loses_57 : decode cX1_loses 57 = .ok (.if_icmp .lt 11, 3) := by decide +kernel
theorem dX1_loses_60 : decode cX1_loses 60 = .ok (.iload_n 2, 1) := by decide +kernel
theorem dX1_loses_61 : decode cX1_loses 61 = .ok (.iconst 2, 1) := by decide +kernel
theorem dX1_loses_62 : decode cX1_loses 62 = .ok (.isub, 1) := by decide +kernel
theorem dX1_loses_63 : decode cX1_loses 63 = .ok (.iconst 1, 1) := by decide +kernel
theorem dX1_loses_64 : decode cX1_loses 64 = .ok (.iadd, 1) := by decide +kernel
theorem dX1_loses_65 : decode cX1_loses 65 = .ok (.goto 6, 3) := by decide +kernel
theorem dX1_loses_68 : decode cX1_loses 68 = .ok (.iload_n 2, 1) := by decide +kernel
theorem dX1_loses_69 : decode cX1_loses 69 = .ok (.iconst 2, 1) := by decide +kernel
theorem dX1_loses_70 : decode cX1_loses 70 = .ok (.isub, 1) := by decide +kernel
theorem dX1_loses_71 : decode cX1_loses 71 = .ok (.ireturn, 1) := by decide +kernel
theorem dX1_loses_72 : decode cX1_loses 72 = .ok (.iconst 0, 1) := by decide +kernel
theorem dX1_loses_73 : decode cX1_loses 73 = .ok (.ireturn, 1) := by decide +kernel
theorem dX1_loses_74 : decode cX1_loses 74 = .ok (.iload_n 2, 1) := by decide +kernel
theorem dX1_loses_75 : decode cX1_loses 75 = .ok (.iload_n 1, 1) := by decide +kernel
theorem dX1_loses_76 : decode cX1_loses 76 = .ok (.iadd, 1) := by decide +kernel
theorem dX1_loses_77 : decode cX1_loses 77 = .ok (.ireturn, 1) := by decide +kernel
theorem dX1_loses_78 : decode cX1_loses 78 = .ok (.iload_n 2, 1) := by decide +kernel
theorem dX1_loses_79 : decode cX1_loses 79 = .ok (.ireturn, 1) := by decide +kernel
theorem dX1_shares_0 : decode cX1_shares 0 = .ok (.aload_n 0, 1) := by decide +kernel
theorem dX1_shares_1 : decode cX1_shares 1 = .ok (.getfield 9, 3) := by decide +kernel
theorem dX1_shares_4 : decode cX1_shares 4 = .ok (.tableswitch 36 3 6 #[32, 34, 36, 32], 32) := by decide +kernel
theorem dX1_shares_36 : decode cX1_shares 36 = .ok (.iconst 1, 1) := by decide +kernel
theorem dX1_shares_37 : decode cX1_shares 37 = .ok (.ireturn, 1) := by decide +kernel
theorem dX1_shares_38 : decode cX1_shares 38 = .ok (.iconst 0, 1) := by decide +kernel
theorem dX1_shares_39 : decode cX1_shares 39 = .ok (.ireturn, 1) := by decide +kernel
theorem dX1_shares_40 : decode cX1_shares 40 = .ok (.aload_n 0, 1) := by decide +kernel
theorem dX1_shares_41 : decode cX1_shares 41 = .ok (.getfield 15, 3) := by decide +kernel
theorem dX1_shares_44 : decode cX1_shares 44 = .ok (.bipush 70, 2) := by decide +kernel
theorem dX1_shares_46 : decode cX1_shares 46 = .ok (.if_icmp .lt 7, 3) := by decide +kernel
theorem dX1_shares_49 : decode cX1_shares 49 = .ok (.iconst 1, 1) := by decide +kernel
theorem dX1_shares_50 : decode cX1_shares 50 = .ok (.goto 4, 3) := by decide +kernel
theorem dX1_shares_53 : decode cX1_shares 53 = .ok (.iconst 0, 1) := by decide +kernel
theorem dX1_shares_54 : decode cX1_shares 54 = .ok (.ireturn, 1) := by decide +kernel
theorem dX1_feel_0 : decode cX1_feel 0 = .ok (.aload_n 0, 1) := by decide +kernel
theorem dX1_feel_1 : decode cX1_feel 1 = .ok (.iconst 0, 1) := by decide +kernel
theorem dX1_feel_2 : decode cX1_feel 2 = .ok (.bipush 99, 2) := by decide +kernel
theorem dX1_feel_4 : decode cX1_feel 4 = .ok (.aload_n 0, 1) := by decide +kernel
theorem dX1_feel_5 : decode cX1_feel 5 = .ok (.getfield 15, 3) := by decide +kernel
theorem dX1_feel_8 : decode cX1_feel 8 = .ok (.iload_n 1, 1) := by decide +kernel
theorem dX1_feel_9 : decode cX1_feel 9 = .ok (.iadd, 1) := by decide +kernel
theorem dX1_feel_10 : decode cX1_feel 10 = .ok (.invokestatic 31, 3) := by decide +kernel
theorem dX1_feel_13 : decode cX1_feel 13 = .ok (.invokestatic 37, 3) := by decide +kernel
theorem dX1_feel_16 : decode cX1_feel 16 = .ok (.putfield 15, 3) := by decide +kernel
theorem dX1_feel_19 : decode cX1_feel 19 = .ok (.return_, 1) := by decide +kernel
theorem dX1_beVisited_0 : decode cX1_beVisited 0 = .ok (.aload_n 0, 1) := by decide +kernel
theorem dX1_beVisited_1 : decode cX1_beVisited 1 = .ok (.aload_n 0, 1) := by decide +kernel
theorem dX1_beVisited_2 : decode cX1_beVisited 2 = .ok (.iload_n 1, 1) := by decide +kernel
theorem dX1_beVisited_3 : decode cX1_beVisited 3 = .ok (.invokevirtual 40, 3) := by decide +kernel
theorem dX1_beVisited_6 : decode cX1_beVisited 6 = .ok (.iload_n 2, 1) := by decide +kernel
theorem dX1_beVisited_7 : decode cX1_beVisited 7 = .ok (.ifCond .eq 7, 3) := by decide +kernel
theorem dX1_beVisited_10 : decode cX1_beVisited 10 = .ok (.iconst 1, 1) := by decide +kernel
theorem dX1_beVisited_11 : decode cX1_beVisited 11 = .ok (.goto 4, 3) := by decide +kernel
theorem dX1_beVisited_14 : decode cX1_beVisited 14 = .ok (.iconst 0, 1) := by decide +kernel
theorem dX1_beVisited_15 : decode cX1_beVisited 15 = .ok (.iadd, 1) := by decide +kernel
theorem dX1_beVisited_16 : decode cX1_beVisited 16 = .ok (.invokevirtual 44, 3) := by decide +kernel
theorem dX1_beVisited_19 : decode cX1_beVisited 19 = .ok (.aload_n 0, 1) := by decide +kernel
theorem dX1_beVisited_20 : decode cX1_beVisited 20 = .ok (.iconst 0, 1) := by decide +kernel
theorem dX1_beVisited_21 : decode cX1_beVisited 21 = .ok (.putfield 21, 3) := by decide +kernel
theorem dX1_beVisited_24 : decode cX1_beVisited 24 = .ok (.aload_n 0, 1) := by decide +kernel
theorem dX1_beVisited_25 : decode cX1_beVisited 25 = .ok (.sipush 9999, 3) := by decide +kernel
theorem dX1_beVisited_28 : decode cX1_beVisited 28 = .ok (.aload_n 0, 1) := by decide +kernel
theorem dX1_beVisited_29 : decode cX1_beVisited 29 = .ok (.getfield 24, 3) := by decide +kernel
theorem dX1_beVisited_32 : decode cX1_beVisited 32 = .ok (.iconst 1, 1) := by decide +kernel
theorem dX1_beVisited_33 : decode cX1_beVisited 33 = .ok (.iadd, 1) := by decide +kernel
theorem dX1_beVisited_34 : decode cX1_beVisited 34 = .ok (.invokestatic 31, 3) := by decide +kernel
theorem dX1_beVisited_37 : decode cX1_beVisited 37 = .ok (.putfield 24, 3) := by decide +kernel
theorem dX1_beVisited_40 : decode cX1_beVisited 40 = .ok (.return_, 1) := by decide +kernel
theorem dX1_beSharing_0 : decode cX1_beSharing 0 = .ok (.aload_n 0, 1) := by decide +kernel
theorem dX1_beSharing_1 : decode cX1_beSharing 1 = .ok (.aload_n 0, 1) := by decide +kernel
theorem dX1_beSharing_2 : decode cX1_beSharing 2 = .ok (.iload_n 1, 1) := by decide +kernel
theorem dX1_beSharing_3 : decode cX1_beSharing 3 = .ok (.invokevirtual 40, 3) := by decide +kernel
theorem dX1_beSharing_6 : decode cX1_beSharing 6 = .ok (.iconst 2, 1) := by decide +kernel
theorem dX1_beSharing_7 : decode cX1_beSharing 7 = .ok (.idiv, 1) := by decide +kernel
theorem dX1_beSharing_8 : decode cX1_beSharing 8 = .ok (.invokevirtual 44, 3) := by decide +kernel
theorem dX1_beSharing_11 : decode cX1_beSharing 11 = .ok (.aload_n 0, 1) := by decide +kernel
theorem dX1_beSharing_12 : decode cX1_beSharing 12 = .ok (.invokevirtual 48, 3) := by decide +kernel
theorem dX1_beSharing_15 : decode cX1_beSharing 15 = .ok (.return_, 1) := by decide +kernel
theorem dX1_beHelped_0 : decode cX1_beHelped 0 = .ok (.aload_n 0, 1) := by decide +kernel
theorem dX1_beHelped_1 : decode cX1_beHelped 1 = .ok (.iconst 4, 1) := by decide +kernel
theorem dX1_beHelped_2 : decode cX1_beHelped 2 = .ok (.invokevirtual 44, 3) := by decide +kernel
theorem dX1_beHelped_5 : decode cX1_beHelped 5 = .ok (.aload_n 0, 1) := by decide +kernel
theorem dX1_beHelped_6 : decode cX1_beHelped 6 = .ok (.iconst 0, 1) := by decide +kernel
theorem dX1_beHelped_7 : decode cX1_beHelped 7 = .ok (.putfield 21, 3) := by decide +kernel
theorem dX1_beHelped_10 : decode cX1_beHelped 10 = .ok (.return_, 1) := by decide +kernel
theorem dX1_beAlone_0 : decode cX1_beAlone 0 = .ok (.aload_n 0, 1) := by decide +kernel
theorem dX1_beAlone_1 : decode cX1_beAlone 1 = .ok (.aload_n 0, 1) := by decide +kernel
theorem dX1_beAlone_2 : decode cX1_beAlone 2 = .ok (.iload_n 1, 1) := by decide +kernel
theorem dX1_beAlone_3 : decode cX1_beAlone 3 = .ok (.invokevirtual 51, 3) := by decide +kernel
theorem dX1_beAlone_6 : decode cX1_beAlone 6 = .ok (.ineg, 1) := by decide +kernel
theorem dX1_beAlone_7 : decode cX1_beAlone 7 = .ok (.invokevirtual 44, 3) := by decide +kernel
theorem dX1_beAlone_10 : decode cX1_beAlone 10 = .ok (.aload_n 0, 1) := by decide +kernel
theorem dX1_beAlone_11 : decode cX1_beAlone 11 = .ok (.invokevirtual 48, 3) := by decide +kernel
theorem dX1_beAlone_14 : decode cX1_beAlone 14 = .ok (.return_, 1) := by decide +kernel
theorem dX1_waitOn_0 : decode cX1_waitOn 0 = .ok (.aload_n 0, 1) := by decide +kernel
theorem dX1_waitOn_1 : decode cX1_waitOn 1 = .ok (.sipush 9999, 3) := by decide +kernel
theorem dX1_waitOn_4 : decode cX1_waitOn 4 = .ok (.aload_n 0, 1) := by decide +kernel
theorem dX1_waitOn_5 : decode cX1_waitOn 5 = .ok (.getfield 21, 3) := by decide +kernel
theorem dX1_waitOn_8 : decode cX1_waitOn 8 = .ok (.iconst 1, 1) := by decide +kernel
theorem dX1_waitOn_9 : decode cX1_waitOn 9 = .ok (.iadd, 1) := by decide +kernel
theorem dX1_waitOn_10 : decode cX1_waitOn 10 = .ok (.invokestatic 31, 3) := by decide +kernel
theorem dX1_waitOn_13 : decode cX1_waitOn 13 = .ok (.putfield 21, 3) := by decide +kernel
theorem dX1_waitOn_16 : decode cX1_waitOn 16 = .ok (.return_, 1) := by decide +kernel
theorem dX2_init_0 : decode cX2_init 0 = .ok (.aload_n 0, 1) := by decide +kernel
theorem dX2_init_1 : decode cX2_init 1 = .ok (.invokespecial 3, 3) := by decide +kernel
theorem dX2_init_4 : decode cX2_init 4 = .ok (.aload_n 0, 1) := by decide +kernel
theorem dX2_init_5 : decode cX2_init 5 = .ok (.bipush 40, 2) := by decide +kernel
theorem dX2_init_7 : decode cX2_init 7 = .ok (.newarray .int, 2) := by decide +kernel
theorem dX2_init_9 : decode cX2_init 9 = .ok (.putfield 9, 3) := by decide +kernel
theorem dX2_init_12 : decode cX2_init 12 = .ok (.return_, 1) := by decide +kernel
theorem dX2_isMissing_0 : decode cX2_isMissing 0 = .ok (.aload_n 0, 1) := by decide +kernel
theorem dX2_isMissing_1 : decode cX2_isMissing 1 = .ok (.getfield 15, 3) := by decide +kernel
theorem dX2_isMissing_4 : decode cX2_isMissing 4 = .ok (.ifCond .ne 7, 3) := by decide +kernel
theorem dX2_isMissing_7 : decode cX2_isMissing 7 = .ok (.iconst 1, 1) := by decide +kernel
theorem dX2_isMissing_8 : decode cX2_isMissing 8 = .ok (.goto 4, 3) := by decide +kernel
theorem dX2_isMissing_11 : decode cX2_isMissing 11 = .ok (.iconst 0, 1) := by decide +kernel
theorem dX2_isMissing_12 : decode cX2_isMissing 12 = .ok (.ireturn, 1) := by decide +kernel
theorem dX2_renew_0 : decode cX2_renew 0 = .ok (.aload_n 0, 1) := by decide +kernel
theorem dX2_renew_1 : decode cX2_renew 1 = .ok (.iload_n 1, 1) := by decide +kernel
theorem dX2_renew_2 : decode cX2_renew 2 = .ok (.putfield 15, 3) := by decide +kernel
theorem dX2_renew_5 : decode cX2_renew 5 = .ok (.aload_n 0, 1) := by decide +kernel
theorem dX2_renew_6 : decode cX2_renew 6 = .ok (.iload_n 1, 1) := by decide +kernel
theorem dX2_renew_7 : decode cX2_renew 7 = .ok (.ifCond .ne 7, 3) := by decide +kernel
theorem dX2_renew_10 : decode cX2_renew 10 = .ok (.iconst 0, 1) := by decide +kernel
theorem dX2_renew_11 : decode cX2_renew 11 = .ok (.goto 4, 3) := by decide +kernel
theorem dX2_renew_14 : decode cX2_renew 14 = .ok (.iload_n 2, 1) := by decide +kernel
theorem dX2_renew_15 : decode cX2_renew 15 = .ok (.putfield 19, 3) := by decide +kernel
theorem dX2_renew_18 : decode cX2_renew 18 = .ok (.aload_n 0, 1) := by decide +kernel
theorem dX2_renew_19 : decode cX2_renew 19 = .ok (.getfield 9, 3) := by decide +kernel
theorem dX2_renew_22 : decode cX2_renew 22 = .ok (.iconst 0, 1) := by decide +kernel
theorem dX2_renew_23 : decode cX2_renew 23 = .ok (.invokestatic 22, 3) := by decide +kernel
theorem dX2_renew_26 : decode cX2_renew 26 = .ok (.return_, 1) := by decide +kernel
theorem dX2_cut_0 : decode cX2_cut 0 = .ok (.aload_n 0, 1) := by decide +kernel
theorem dX2_cut_1 : decode cX2_cut 1 = .ok (.getfield 15, 3) := by decide +kernel
theorem dX2_cut_4 : decode cX2_cut 4 = .ok (.lookupswitch 34 #[(8, 28), (16, 31)], 28) := by decide +kernel
theorem dX2_cut_32 : decode cX2_cut 32 = .ok (.iload_n 1, 1) := by decide +kernel
theorem dX2_cut_33 : decode cX2_cut 33 = .ok (.i2b, 1) := by decide +kernel
theorem dX2_cut_34 : decode cX2_cut 34 = .ok (.ireturn, 1) := by decide +kernel
theorem dX2_cut_35 : decode cX2_cut 35 = .ok (.iload_n 1, 1) := by decide +kernel
theorem dX2_cut_36 : decode cX2_cut 36 = .ok (.i2s, 1) := by decide +kernel
theorem dX2_cut_37 : decode cX2_cut 37 = .ok (.ireturn, 1) := by decide +kernel
theorem dX2_cut_38 : decode cX2_cut 38 = .ok (.iload_n 1, 1) := by decide +kernel
theorem dX2_cut_39 : decode cX2_cut 39 = .ok (.ireturn, 1) := by decide +kernel
theorem dX2_hasRun_0 : decode cX2_hasRun 0 = .ok (.iload_n 2, 1) := by decide +kernel
theorem dX2_hasRun_1 : decode cX2_hasRun 1 = .ok (.ifCond .lt 29, 3) := by decide +kernel
theorem dX2_hasRun_4 : decode cX2_hasRun 4 = .ok (.iload_n 2, 1) := by decide +kernel
theorem dX2_hasRun_5 : decode cX2_hasRun 5 = .ok (.aload_n 0, 1) := by decide +kernel
theorem dX2_hasRun_6 : decode cX2_hasRun 6 = .ok (.getfield 19, 3) := by decide +kernel
theorem dX2_hasRun_9 : decode cX2_hasRun 9 = .ok (.if_icmp .gt 21, 3) := by decide +kernel
theorem dX2_hasRun_12 : decode cX2_hasRun 12 = .ok (.iload_n 1, 1) := by decide +kernel
theorem dX2_hasRun_13 : decode cX2_hasRun 13 = .ok (.ifCond .lt 17, 3) := by decide +kernel
theorem dX2_hasRun_16 : decode cX2_hasRun 16 = .ok (.iload_n 1, 1) := by decide +kernel
theorem dX2_hasRun_17 : decode cX2_hasRun 17 = .ok (.aload_n 0, 1) := by decide +kernel
theorem dX2_hasRun_18 : decode cX2_hasRun 18 = .ok (.getfield 19, 3) := by decide +kernel
theorem dX2_hasRun_21 : decode cX2_hasRun 21 = .ok (.iload_n 2, 1) := by decide +kernel
theorem dX2_hasRun_22 : decode cX2_hasRun 22 = .ok (.isub, 1) := by decide +kernel
theorem dX2_hasRun_23 : decode cX2_hasRun 23 = .ok (.if_icmp .gt 7, 3) := by decide +kernel
theorem dX2_hasRun_26 : decode cX2_hasRun 26 = .ok (.iconst 1, 1) := by decide +kernel
theorem dX2_hasRun_27 : decode cX2_hasRun 27 = .ok (.goto 4, 3) := by decide +kernel
theorem dX2_hasRun_30 : decode cX2_hasRun 30 = .ok (.iconst 0, 1) := by decide +kernel
theorem dX2_hasRun_31 : decode cX2_hasRun 31 = .ok (.ireturn, 1) := by decide +kernel
theorem dX3_init_0 : decode cX3_init 0 = .ok (.aload_n 0, 1) := by decide +kernel
theorem dX3_init_1 : decode cX3_init 1 = .ok (.invokespecial 3, 3) := by decide +kernel
theorem dX3_init_4 : decode cX3_init 4 = .ok (.aload_n 0, 1) := by decide +kernel
theorem dX3_init_5 : decode cX3_init 5 = .ok (.bipush 120, 2) := by decide +kernel
theorem dX3_init_7 : decode cX3_init 7 = .ok (.newarray .int, 2) := by decide +kernel
theorem dX3_init_9 : decode cX3_init 9 = .ok (.putfield 9, 3) := by decide +kernel
theorem dX3_init_12 : decode cX3_init 12 = .ok (.return_, 1) := by decide +kernel
theorem dX3_append_0 : decode cX3_append 0 = .ok (.aload_n 0, 1) := by decide +kernel
theorem dX3_append_1 : decode cX3_append 1 = .ok (.getfield 15, 3) := by decide +kernel
theorem dX3_append_4 : decode cX3_append 4 = .ok (.bipush 120, 2) := by decide +kernel
theorem dX3_append_6 : decode cX3_append 6 = .ok (.if_icmp .ge 23, 3) := by decide +kernel
theorem dX3_append_9 : decode cX3_append 9 = .ok (.aload_n 0, 1) := by decide +kernel
theorem dX3_append_10 : decode cX3_append 10 = .ok (.getfield 9, 3) := by decide +kernel
theorem dX3_append_13 : decode cX3_append 13 = .ok (.aload_n 0, 1) := by decide +kernel
theorem dX3_append_14 : decode cX3_append 14 = .ok (.getfield 15, 3) := by decide +kernel
theorem dX3_append_17 : decode cX3_append 17 = .ok (.iload_n 1, 1) := by decide +kernel
theorem dX3_append_18 : decode cX3_append 18 = .ok (.iastore, 1) := by decide +kernel
theorem dX3_append_19 : decode cX3_append 19 = .ok (.aload_n 0, 1) := by decide +kernel
theorem dX3_append_20 : decode cX3_append 20 = .ok (.dup, 1) := by decide +kernel
theorem dX3_append_21 : decode cX3_append 21 = .ok (.getfield 15, 3) := by decide +kernel
theorem dX3_append_24 : decode cX3_append 24 = .ok (.iconst 1, 1) := by decide +kernel
theorem dX3_append_25 : decode cX3_append 25 = .ok (.iadd, 1) := by decide +kernel
theorem dX3_append_26 : decode cX3_append 26 = .ok (.putfield 15, 3) := by decide +kernel
theorem dX3_append_29 : decode cX3_append 29 = .ok (.return_, 1) := by decide +kernel
theorem dX3_readInto_0 : decode cX3_readInto 0 = .ok (.aload_n 0, 1) := by decide +kernel
theorem dX3_readInto_1 : decode cX3_readInto 1 = .ok (.iconst 0, 1) := by decide +kernel
theorem dX3_readInto_2 : decode cX3_readInto 2 = .ok (.putfield 19, 3) := by decide +kernel
theorem dX3_readInto_5 : decode cX3_readInto 5 = .ok (.aload_n 0, 1) := by decide +kernel
theorem dX3_readInto_6 : decode cX3_readInto 6 = .ok (.invokevirtual 22, 3) := by decide +kernel
theorem dX3_readInto_9 : decode cX3_readInto 9 = .ok (.iconst 1, 1) := by decide +kernel
theorem dX3_readInto_10 : decode cX3_readInto 10 = .ok (.istore_n 2, 1) := by decide +kernel
theorem dX3_readInto_11 : decode cX3_readInto 11 = .ok (.iload_n 2, 1) := by decide +kernel
theorem dX3_readInto_12 : decode cX3_readInto 12 = .ok (.bipush 120, 2) := by decide +kernel
theorem dX3_readInto_14 : decode cX3_readInto 14 = .ok (.if_icmp .gt 52, 3) := by decide +kernel
theorem dX3_readInto_17 : decode cX3_readInto 17 = .ok (.aload_n 0, 1) := by decide +kernel
theorem dX3_readInto_18 : decode cX3_readInto 18 = .ok (.aload_n 1, 1) := by decide +kernel
theorem dX3_readInto_19 : decode cX3_readInto 19 = .ok (.invokevirtual 25, 3) := by decide +kernel
theorem dX3_readInto_22 : decode cX3_readInto 22 = .ok (.ifCond .ne 10, 3) := by decide +kernel
theorem dX3_readInto_25 : decode cX3_readInto 25 = .ok (.iconst (-1), 1) := by decide +kernel
theorem dX3_readInto_26 : decode cX3_readInto 26 = .ok (.aload_n 0, 1) := by decide +kernel
theorem dX3_readInto_27 : decode cX3_readInto 27 = .ok (.getfield 29, 3) := by decide +kernel
theorem dX3_readInto_30 : decode cX3_readInto 30 = .ok (.isub, 1) := by decide +kernel
theorem dX3_readInto_31 : decode cX3_readInto 31 = .ok (.ireturn, 1) := by decide +kernel
theorem dX3_readInto_32 : decode cX3_readInto 32 = .ok (.aload_n 0, 1) := by decide +kernel
theorem dX3_readInto_33 : decode cX3_readInto 33 = .ok (.getfield 32, 3) := by decide +kernel
theorem dX3_readInto_36 : decode cX3_readInto 36 = .ok (.ifCond .ne 5, 3) := by decide +kernel
theorem dX3_readInto_39 : decode cX3_readInto 39 = .ok (.iload_n 2, 1) := by decide +kernel
theorem dX3_readInto_40 : decode cX3_readInto 40 = .ok (.ireturn, 1) := by decide +kernel
theorem dX3_readInto_41 : decode cX3_readInto 41 = .ok (.aload_n 0, 1) := by decide +kernel
theorem dX3_readInto_42 : decode cX3_readInto 42 = .ok (.getfield 32, 3) := by decide +kernel
theorem dX3_readInto_45 : decode cX3_readInto 45 = .ok (.iconst 3, 1) := by decide +kernel
theorem dX3_readInto_46 : decode cX3_readInto 46 = .ok (.if_icmp .eq 10, 3) := by decide +kernel
theorem dX3_readInto_49 : decode cX3_readInto 49 = .ok (.iconst (-1), 1) := by decide +kernel
theorem dX3_readInto_50 : decode cX3_readInto 50 = .ok (.aload_n 0, 1) := by decide +kernel
theorem dX3_readInto_51 : decode cX3_readInto 51 = .ok (.getfield 29, 3) := by decide +kernel
theorem dX3_readInto_54 : decode cX3_readInto 54 = .ok (.isub, 1) := by decide +kernel
theorem dX3_readInto_55 : decode cX3_readInto 55 = .ok (.ireturn, 1) := by decide +kernel
theorem dX3_readInto_56 : decode cX3_readInto 56 = .ok (.aload_n 0, 1) := by decide +kernel
theorem dX3_readInto_57 : decode cX3_readInto 57 = .ok (.invokevirtual 22, 3) := by decide +kernel
theorem dX3_readInto_60 : decode cX3_readInto 60 = .ok (.iinc 2 1, 3) := by decide +kernel
theorem dX3_readInto_63 : decode cX3_readInto 63 = .ok (.goto (-52), 3) := by decide +kernel
theorem dX3_readInto_66 : decode cX3_readInto 66 = .ok (.iconst (-1), 1) := by decide +kernel
theorem dX3_readInto_67 : decode cX3_readInto 67 = .ok (.aload_n 0, 1) := by decide +kernel
theorem dX3_readInto_68 : decode cX3_readInto 68 = .ok (.getfield 29, 3) := by decide +kernel
theorem dX3_readInto_71 : decode cX3_readInto 71 = .ok (.isub, 1) := by decide +kernel
theorem dX3_readInto_72 : decode cX3_readInto 72 = .ok (.ireturn, 1) := by decide +kernel
theorem dX3_readItem_0 : decode cX3_readItem 0 = .ok (.iconst 0, 1) := by decide +kernel
theorem dX3_readItem_1 : decode cX3_readItem 1 = .ok (.istore_n 2, 1) := by decide +kernel
theorem dX3_readItem_2 : decode cX3_readItem 2 = .ok (.iload_n 2, 1) := by decide +kernel
theorem dX3_readItem_3 : decode cX3_readItem 3 = .ok (.bipush 7, 2) := by decide +kernel
theorem dX3_readItem_5 : decode cX3_readItem 5 = .ok (.if_icmp .ge 27, 3) := by decide +kernel
theorem dX3_readItem_8 : decode cX3_readItem 8 = .ok (.aload_n 0, 1) := by decide +kernel
theorem dX3_readItem_9 : decode cX3_readItem 9 = .ok (.iload_n 2, 1) := by decide +kernel
theorem dX3_readItem_10 : decode cX3_readItem 10 = .ok (.invokestatic 35, 3) := by decide +kernel
theorem dX3_readItem_13 : decode cX3_readItem 13 = .ok (.invokevirtual 39, 3) := by decide +kernel
theorem dX3_readItem_16 : decode cX3_readItem 16 = .ok (.ifCond .eq 10, 3) := by decide +kernel
theorem dX3_readItem_19 : decode cX3_readItem 19 = .ok (.aload_n 0, 1) := by decide +kernel
theorem dX3_readItem_20 : decode cX3_readItem 20 = .ok (.aload_n 1, 1) := by decide +kernel
theorem dX3_readItem_21 : decode cX3_readItem 21 = .ok (.iload_n 2, 1) := by decide +kernel
theorem dX3_readItem_22 : decode cX3_readItem 22 = .ok (.invokevirtual 43, 3) := by decide +kernel
theorem dX3_readItem_25 : decode cX3_readItem 25 = .ok (.ireturn, 1) := by decide +kernel
theorem dX3_readItem_26 : decode cX3_readItem 26 = .ok (.iinc 2 1, 3) := by decide +kernel
theorem dX3_readItem_29 : decode cX3_readItem 29 = .ok (.goto (-27), 3) := by decide +kernel
theorem dX3_readItem_32 : decode cX3_readItem 32 = .ok (.iconst 0, 1) := by decide +kernel
theorem dX3_readItem_33 : decode cX3_readItem 33 = .ok (.istore_n 2, 1) := by decide +kernel
theorem dX3_readItem_34 : decode cX3_readItem 34 = .ok (.iload_n 2, 1) := by decide +kernel
theorem dX3_readItem_35 : decode cX3_readItem 35 = .ok (.iconst 4, 1) := by decide +kernel
theorem dX3_readItem_36 : decode cX3_readItem 36 = .ok (.if_icmp .ge 27, 3) := by decide +kernel
theorem dX3_readItem_39 : decode cX3_readItem 39 = .ok (.aload_n 0, 1) := by decide +kernel
theorem dX3_readItem_40 : decode cX3_readItem 40 = .ok (.iload_n 2, 1) := by decide +kernel
theorem dX3_readItem_41 : decode cX3_readItem 41 = .ok (.invokestatic 47, 3) := by decide +kernel
theorem dX3_readItem_44 : decode cX3_readItem 44 = .ok (.invokevirtual 39, 3) := by decide +kernel
theorem dX3_readItem_47 : decode cX3_readItem 47 = .ok (.ifCond .eq 10, 3) := by decide +kernel
theorem dX3_readItem_50 : decode cX3_readItem 50 = .ok (.aload_n 0, 1) := by decide +kernel
theorem dX3_readItem_51 : decode cX3_readItem 51 = .ok (.aload_n 1, 1) := by decide +kernel
theorem dX3_readItem_52 : decode cX3_readItem 52 = .ok (.iload_n 2, 1) := by decide +kernel
theorem dX3_readItem_53 : decode cX3_readItem 53 = .ok (.invokevirtual 50, 3) := by decide +kernel
theorem dX3_readItem_56 : decode cX3_readItem 56 = .ok (.ireturn, 1) := by decide +kernel
theorem dX3_readItem_57 : decode cX3_readItem 57 = .ok (.iinc 2 1, 3) := by decide +kernel
theorem dX3_readItem_60 : decode cX3_readItem 60 = .ok (.goto (-26), 3) := by decide +kernel
theorem dX3_readItem_63 : decode cX3_readItem 63 = .ok (.aload_n 0, 1) := by decide +kernel
theorem dX3_readItem_64 : decode cX3_readItem 64 = .ok (.ldc 53, 2) := by decide +kernel
theorem dX3_readItem_66 : decode cX3_readItem 66 = .ok (.invokevirtual 39, 3) := by decide +kernel
theorem dX3_readItem_69 : decode cX3_readItem 69 = .ok (.ifCond .eq 15, 3) := by decide +kernel
theorem dX3_readItem_72 : decode cX3_readItem 72 = .ok (.aload_n 0, 1) := by decide +kernel
theorem dX3_readItem_73 : decode cX3_readItem 73 = .ok (.aload_n 1, 1) := by decide +kernel
theorem dX3_readItem_74 : decode cX3_readItem 74 = .ok (.invokevirtual 55, 3) := by decide +kernel
theorem dX3_readItem_77 : decode cX3_readItem 77 = .ok (.ifCond .eq 7, 3) := by decide +kernel
theorem dX3_readItem_80 : decode cX3_readItem 80 = .ok (.iconst 1, 1) := by decide +kernel
theorem dX3_readItem_81 : decode cX3_readItem 81 = .ok (.goto 4, 3) := by decide +kernel
theorem dX3_readItem_84 : decode cX3_readItem 84 = .ok (.iconst 0, 1) := by decide +kernel
theorem dX3_readItem_85 : decode cX3_readItem 85 = .ok (.ireturn, 1) := by decide +kernel
theorem dX3_readResident_0 : decode cX3_readResident 0 = .ok (.aload_n 1, 1) := by decide +kernel
theorem dX3_readResident_1 : decode cX3_readResident 1 = .ok (.iload_n 2, 1) := by decide +kernel
theorem dX3_readResident_2 : decode cX3_readResident 2 = .ok (.invokevirtual 58, 3) := by decide +kernel
theorem dX3_readResident_5 : decode cX3_readResident 5 = .ok (.istore_n 3, 1) := by decide +kernel
theorem dX3_readResident_6 : decode cX3_readResident 6 = .ok (.iload_n 3, 1) := by decide +kernel
theorem dX3_readResident_7 : decode cX3_readResident 7 = .ok (.iconst (-1), 1) := by decide +kernel
theorem dX3_readResident_8 : decode cX3_readResident 8 = .ok (.if_icmp .ne 5, 3) := by decide +kernel
theorem dX3_readResident_11 : decode cX3_readResident 11 = .ok (.iconst 0, 1) := by decide +kernel
theorem dX3_readResident_12 : decode cX3_readResident 12 = .ok (.ireturn, 1) := by decide +kernel
theorem dX3_readResident_13 : decode cX3_readResident 13 = .ok (.aload_n 1, 1) := by decide +kernel
theorem dX3_readResident_14 : decode cX3_readResident 14 = .ok (.getfield 64, 3) := by decide +kernel
theorem dX3_readResident_17 : decode cX3_readResident 17 = .ok (.iload_n 3, 1) := by decide +kernel
theorem dX3_readResident_18 : decode cX3_readResident 18 = .ok (.aaload, 1) := by decide +kernel
theorem dX3_readResident_19 : decode cX3_readResident 19 = .ok (.astore 4, 2) := by decide +kernel
theorem dX3_readResident_21 : decode cX3_readResident 21 = .ok (.aload_n 0, 1) := by decide +kernel
theorem dX3_readResident_22 : decode cX3_readResident 22 = .ok (.invokevirtual 22, 3) := by decide +kernel
theorem dX3_readResident_25 : decode cX3_readResident 25 = .ok (.aload_n 0, 1) := by decide +kernel
theorem dX3_readResident_26 : decode cX3_readResident 26 = .ok (.aload 4, 2) := by decide +kernel
theorem dX3_readResident_28 : decode cX3_readResident 28 = .ok (.ldc 68, 2) := by decide +kernel
theorem dX3_readResident_30 : decode cX3_readResident 30 = .ok (.iconst 1, 1) := by decide +kernel
theorem dX3_readResident_31 : decode cX3_readResident 31 = .ok (.bipush 99, 2) := by decide +kernel
theorem dX3_readResident_33 : decode cX3_readResident 33 = .ok (.invokevirtual 70, 3) := by decide +kernel
theorem dX3_readResident_36 : decode cX3_readResident 36 = .ok (.ifCond .eq 37, 3) := by decide +kernel
theorem dX3_readResident_39 : decode cX3_readResident 39 = .ok (.aload_n 0, 1) := by decide +kernel
theorem dX3_readResident_40 : decode cX3_readResident 40 = .ok (.aload 4, 2) := by decide +kernel
theorem dX3_readResident_42 : decode cX3_readResident 42 = .ok (.ldc 74, 2) := by decide +kernel
theorem dX3_readResident_44 : decode cX3_readResident 44 = .ok (.iconst 2, 1) := by decide +kernel
theorem dX3_readResident_45 : decode cX3_readResident 45 = .ok (.iload_n 3, 1) := by decide +kernel
theorem dX3_readResident_46 : decode cX3_readResident 46 = .ok (.iconst 1, 1) := by decide +kernel
theorem dX3_readResident_47 : decode cX3_readResident 47 = .ok (.isub, 1) := by decide +kernel
theorem dX3_readResident_48 : decode cX3_readResident 48 = .ok (.invokevirtual 70, 3) := by decide +kernel
theorem dX3_readResident_51 : decode cX3_readResident 51 = .ok (.ifCond .eq 22, 3) := by decide +kernel
theorem dX3_readResident_54 : decode cX3_readResident 54 = .ok (.aload_n 0, 1) := by decide +kernel
theorem dX3_readResident_55 : decode cX3_readResident 55 = .ok (.aload 4, 2) := by decide +kernel
theorem dX3_readResident_57 : decode cX3_readResident 57 = .ok (.ldc 76, 2) := by decide +kernel
theorem dX3_readResident_59 : decode cX3_readResident 59 = .ok (.iconst 3, 1) := by decide +kernel
theorem dX3_readResident_60 : decode cX3_readResident 60 = .ok (.sipush 9999, 3) := by decide +kernel
theorem dX3_readResident_63 : decode cX3_readResident 63 = .ok (.invokevirtual 70, 3) := by decide +kernel
theorem dX3_readResident_66 : decode cX3_readResident 66 = .ok (.ifCond .eq 7, 3) := by decide +kernel
theorem dX3_readResident_69 : decode cX3_readResident 69 = .ok (.iconst 1, 1) := by decide +kernel
theorem dX3_readResident_70 : decode cX3_readResident 70 = .ok (.goto 4, 3) := by decide +kernel
theorem dX3_readResident_73 : decode cX3_readResident 73 = .ok (.iconst 0, 1) := by decide +kernel
theorem dX3_readResident_74 : decode cX3_readResident 74 = .ok (.ireturn, 1) := by decide +kernel
theorem dX3_readFact_0 : decode cX3_readFact 0 = .ok (.aload_n 0, 1) := by decide +kernel
theorem dX3_readFact_1 : decode cX3_readFact 1 = .ok (.aload_n 2, 1) := by decide +kernel
theorem dX3_readFact_2 : decode cX3_readFact 2 = .ok (.invokevirtual 39, 3) := by decide +kernel
theorem dX3_readFact_5 : decode cX3_readFact 5 = .ok (.ifCond .ne 5, 3) := by decide +kernel
theorem dX3_readFact_8 : decode cX3_readFact 8 = .ok (.iconst 1, 1) := by decide +kernel
theorem dX3_readFact_9 : decode cX3_readFact 9 = .ok (.ireturn, 1) := by decide +kernel
theorem dX3_readFact_10 : decode cX3_readFact 10 = .ok (.aload_n 0, 1) := by decide +kernel
theorem dX3_readFact_11 : decode cX3_readFact 11 = .ok (.invokevirtual 22, 3) := by decide +kernel
theorem dX3_readFact_14 : decode cX3_readFact 14 = .ok (.aload_n 0, 1) := by decide +kernel
theorem dX3_readFact_15 : decode cX3_readFact 15 = .ok (.iconst 0, 1) := by decide +kernel
theorem dX3_readFact_16 : decode cX3_readFact 16 = .ok (.iload 4, 2) := by decide +kernel
theorem dX3_readFact_18 : decode cX3_readFact 18 = .ok (.invokevirtual 78, 3) := by decide +kernel
theorem dX3_readFact_21 : decode cX3_readFact 21 = .ok (.ifCond .ne 5, 3) := by decide +kernel
theorem dX3_readFact_24 : decode cX3_readFact 24 = .ok (.iconst 0, 1) := by decide +kernel
theorem dX3_readFact_25 : decode cX3_readFact 25 = .ok (.ireturn, 1) := by decide +kernel
theorem dX3_readFact_26 : decode cX3_readFact 26 = .ok (.aload_n 1, 1) := by decide +kernel
theorem dX3_readFact_27 : decode cX3_readFact 27 = .ok (.iload_n 3, 1) := by decide +kernel
theorem dX3_readFact_28 : decode cX3_readFact 28 = .ok (.aload_n 0, 1) := by decide +kernel
theorem dX3_readFact_29 : decode cX3_readFact 29 = .ok (.getfield 82, 3) := by decide +kernel
theorem dX3_readFact_32 : decode cX3_readFact 32 = .ok (.invokevirtual 85, 3) := by decide +kernel
theorem dX3_readFact_35 : decode cX3_readFact 35 = .ok (.aload_n 0, 1) := by decide +kernel
theorem dX3_readFact_36 : decode cX3_readFact 36 = .ok (.invokevirtual 22, 3) := by decide +kernel
theorem dX3_readFact_39 : decode cX3_readFact 39 = .ok (.iconst 1, 1) := by decide +kernel
theorem dX3_readFact_40 : decode cX3_readFact 40 = .ok (.ireturn, 1) := by decide +kernel
theorem dX3_readSetting_0 : decode cX3_readSetting 0 = .ok (.aload_n 0, 1) := by decide +kernel
theorem dX3_readSetting_1 : decode cX3_readSetting 1 = .ok (.invokevirtual 22, 3) := by decide +kernel
theorem dX3_readSetting_4 : decode cX3_readSetting 4 = .ok (.aload_n 0, 1) := by decide +kernel
theorem dX3_readSetting_5 : decode cX3_readSetting 5 = .ok (.iload_n 2, 1) := by decide +kernel
theorem dX3_readSetting_6 : decode cX3_readSetting 6 = .ok (.invokestatic 91, 3) := by decide +kernel
theorem dX3_readSetting_9 : decode cX3_readSetting 9 = .ok (.iload_n 2, 1) := by decide +kernel
theorem dX3_readSetting_10 : decode cX3_readSetting 10 = .ok (.invokestatic 94, 3) := by decide +kernel
theorem dX3_readSetting_13 : decode cX3_readSetting 13 = .ok (.invokevirtual 78, 3) := by decide +kernel
theorem dX3_readSetting_16 : decode cX3_readSetting 16 = .ok (.ifCond .ne 5, 3) := by decide +kernel
theorem dX3_readSetting_19 : decode cX3_readSetting 19 = .ok (.iconst 0, 1) := by decide +kernel
theorem dX3_readSetting_20 : decode cX3_readSetting 20 = .ok (.ireturn, 1) := by decide +kernel
theorem dX3_readSetting_21 : decode cX3_readSetting 21 = .ok (.aload_n 1, 1) := by decide +kernel
theorem dX3_readSetting_22 : decode cX3_readSetting 22 = .ok (.getfield 97, 3) := by decide +kernel
theorem dX3_readSetting_25 : decode cX3_readSetting 25 = .ok (.iload_n 2, 1) := by decide +kernel
theorem dX3_readSetting_26 : decode cX3_readSetting 26 = .ok (.aload_n 0, 1) := by decide +kernel
theorem dX3_readSetting_27 : decode cX3_readSetting 27 = .ok (.getfield 82, 3) := by decide +kernel
theorem dX3_readSetting_30 : decode cX3_readSetting 30 = .ok (.iastore, 1) := by decide +kernel
theorem dX3_readSetting_31 : decode cX3_readSetting 31 = .ok (.aload_n 0, 1) := by decide +kernel
theorem dX3_readSetting_32 : decode cX3_readSetting 32 = .ok (.invokevirtual 22, 3) := by decide +kernel
theorem dX3_readSetting_35 : decode cX3_readSetting 35 = .ok (.iconst 1, 1) := by decide +kernel
theorem dX3_readSetting_36 : decode cX3_readSetting 36 = .ok (.ireturn, 1) := by decide +kernel
theorem dX3_readVisits_0 : decode cX3_readVisits 0 = .ok (.aload_n 0, 1) := by decide +kernel
theorem dX3_readVisits_1 : decode cX3_readVisits 1 = .ok (.invokevirtual 22, 3) := by decide +kernel
theorem dX3_readVisits_4 : decode cX3_readVisits 4 = .ok (.aload_n 0, 1) := by decide +kernel
theorem dX3_readVisits_5 : decode cX3_readVisits 5 = .ok (.iconst 0, 1) := by decide +kernel
theorem dX3_readVisits_6 : decode cX3_readVisits 6 = .ok (.iconst 5, 1) := by decide +kernel
theorem dX3_readVisits_7 : decode cX3_readVisits 7 = .ok (.invokevirtual 78, 3) := by decide +kernel
theorem dX3_readVisits_10 : decode cX3_readVisits 10 = .ok (.ifCond .ne 5, 3) := by decide +kernel
theorem dX3_readVisits_13 : decode cX3_readVisits 13 = .ok (.iconst 0, 1) := by decide +kernel
theorem dX3_readVisits_14 : decode cX3_readVisits 14 = .ok (.ireturn, 1) := by decide +kernel
theorem dX3_readVisits_15 : decode cX3_readVisits 15 = .ok (.aload_n 0, 1) := by decide +kernel
theorem dX3_readVisits_16 : decode cX3_readVisits 16 = .ok (.getfield 82, 3) := by decide +kernel
theorem dX3_readVisits_19 : decode cX3_readVisits 19 = .ok (.istore_n 2, 1) := by decide +kernel
theorem dX3_readVisits_20 : decode cX3_readVisits 20 = .ok (.aload_n 0, 1) := by decide +kernel
theorem dX3_readVisits_21 : decode cX3_readVisits 21 = .ok (.invokevirtual 22, 3) := by decide +kernel
theorem dX3_readVisits_24 : decode cX3_readVisits 24 = .ok (.aload_n 0, 1) := by decide +kernel
theorem dX3_readVisits_25 : decode cX3_readVisits 25 = .ok (.iconst 0, 1) := by decide +kernel
theorem dX3_readVisits_26 : decode cX3_readVisits 26 = .ok (.sipush 255, 3) := by decide +kernel
theorem dX3_readVisits_29 : decode cX3_readVisits 29 = .ok (.invokevirtual 78, 3) := by decide +kernel
theorem dX3_readVisits_32 : decode cX3_readVisits 32 = .ok (.ifCond .ne 5, 3) := by decide +kernel
theorem dX3_readVisits_35 : decode cX3_readVisits 35 = .ok (.iconst 0, 1) := by decide +kernel
theorem dX3_readVisits_36 : decode cX3_readVisits 36 = .ok (.ireturn, 1) := by decide +kernel
theorem dX3_readVisits_37 : decode cX3_readVisits 37 = .ok (.aload_n 1, 1) := by decide +kernel
theorem dX3_readVisits_38 : decode cX3_readVisits 38 = .ok (.getfield 100, 3) := by decide +kernel
theorem dX3_readVisits_41 : decode cX3_readVisits 41 = .ok (.iload_n 2, 1) := by decide +kernel
theorem dX3_readVisits_42 : decode cX3_readVisits 42 = .ok (.aload_n 0, 1) := by decide +kernel
theorem dX3_readVisits_43 : decode cX3_readVisits 43 = .ok (.getfield 82, 3) := by decide +kernel
theorem dX3_readVisits_46 : decode cX3_readVisits 46 = .ok (.iastore, 1) := by decide +kernel
theorem dX3_readVisits_47 : decode cX3_readVisits 47 = .ok (.aload_n 0, 1) := by decide +kernel
theorem dX3_readVisits_48 : decode cX3_readVisits 48 = .ok (.invokevirtual 22, 3) := by decide +kernel
theorem dX3_readVisits_51 : decode cX3_readVisits 51 = .ok (.iconst 1, 1) := by decide +kernel
theorem dX3_readVisits_52 : decode cX3_readVisits 52 = .ok (.ireturn, 1) := by decide +kernel
theorem dX3_step_0 : decode cX3_step 0 = .ok (.aload_n 0, 1) := by decide +kernel
theorem dX3_step_1 : decode cX3_step 1 = .ok (.aload_n 0, 1) := by decide +kernel
theorem dX3_step_2 : decode cX3_step 2 = .ok (.getfield 19, 3) := by decide +kernel
theorem dX3_step_5 : decode cX3_step 5 = .ok (.putfield 29, 3) := by decide +kernel
theorem dX3_step_8 : decode cX3_step 8 = .ok (.aload_n 0, 1) := by decide +kernel
theorem dX3_step_9 : decode cX3_step 9 = .ok (.getfield 29, 3) := by decide +kernel
theorem dX3_step_12 : decode cX3_step 12 = .ok (.aload_n 0, 1) := by decide +kernel
theorem dX3_step_13 : decode cX3_step 13 = .ok (.getfield 15, 3) := by decide +kernel
theorem dX3_step_16 : decode cX3_step 16 = .ok (.if_icmp .ge 30, 3) := by decide +kernel
theorem dX3_step_19 : decode cX3_step 19 = .ok (.aload_n 0, 1) := by decide +kernel
theorem dX3_step_20 : decode cX3_step 20 = .ok (.getfield 9, 3) := by decide +kernel
theorem dX3_step_23 : decode cX3_step 23 = .ok (.aload_n 0, 1) := by decide +kernel
theorem dX3_step_24 : decode cX3_step 24 = .ok (.getfield 29, 3) := by decide +kernel
theorem dX3_step_27 : decode cX3_step 27 = .ok (.iaload, 1) := by decide +kernel
theorem dX3_step_28 : decode cX3_step 28 = .ok (.bipush 32, 2) := by decide +kernel
theorem dX3_step_30 : decode cX3_step 30 = .ok (.if_icmp .ne 16, 3) := by decide +kernel
theorem dX3_step_33 : decode cX3_step 33 = .ok (.aload_n 0, 1) := by decide +kernel
theorem dX3_step_34 : decode cX3_step 34 = .ok (.dup, 1) := by decide +kernel
theorem dX3_step_35 : decode cX3_step 35 = .ok (.getfield 29, 3) := by decide +kernel
theorem dX3_step_38 : decode cX3_step 38 = .ok (.iconst 1, 1) := by decide +kernel
theorem dX3_step_39 : decode cX3_step 39 = .ok (.iadd, 1) := by decide +kernel
theorem dX3_step_40 : decode cX3_step 40 = .ok (.putfield 29, 3) := by decide +kernel
theorem dX3_step_43 : decode cX3_step 43 = .ok (.goto (-35), 3) := by decide +kernel
theorem dX3_step_46 : decode cX3_step 46 = .ok (.aload_n 0, 1) := by decide +kernel
theorem dX3_step_47 : decode cX3_step 47 = .ok (.aload_n 0, 1) := by decide +kernel
theorem dX3_step_48 : decode cX3_step 48 = .ok (.getfield 29, 3) := by decide +kernel
theorem dX3_step_51 : decode cX3_step 51 = .ok (.aload_n 0, 1) := by decide +kernel
theorem dX3_step_52 : decode cX3_step 52 = .ok (.getfield 15, 3) := by decide +kernel
theorem dX3_step_55 : decode cX3_step 55 = .ok (.if_icmp .ge 18, 3) := by decide +kernel
theorem dX3_step_58 : decode cX3_step 58 = .ok (.aload_n 0, 1) := by decide +kernel
theorem dX3_step_59 : decode cX3_step 59 = .ok (.getfield 9, 3) := by decide +kernel
theorem dX3_step_62 : decode cX3_step 62 = .ok (.aload_n 0, 1) := by decide +kernel
theorem dX3_step_63 : decode cX3_step 63 = .ok (.getfield 29, 3) := by decide +kernel
theorem dX3_step_66 : decode cX3_step 66 = .ok (.iaload, 1) := by decide +kernel
theorem dX3_step_67 : decode cX3_step 67 = .ok (.invokestatic 103, 3) := by decide +kernel
theorem dX3_step_70 : decode cX3_step 70 = .ok (.goto 4, 3) := by decide +kernel
theorem dX3_step_73 : decode cX3_step 73 = .ok (.iconst 0, 1) := by decide +kernel
theorem dX3_step_74 : decode cX3_step 74 = .ok (.putfield 32, 3) := by decide +kernel
theorem dX3_step_77 : decode cX3_step 77 = .ok (.aload_n 0, 1) := by decide +kernel
theorem dX3_step_78 : decode cX3_step 78 = .ok (.aload_n 0, 1) := by decide +kernel
theorem dX3_step_79 : decode cX3_step 79 = .ok (.getfield 32, 3) := by decide +kernel
theorem dX3_step_82 : decode cX3_step 82 = .ok (.iconst 3, 1) := by decide +kernel
theorem dX3_step_83 : decode cX3_step 83 = .ok (.if_icmp .ne 12, 3) := by decide +kernel
theorem dX3_step_86 : decode cX3_step 86 = .ok (.aload_n 0, 1) := by decide +kernel
theorem dX3_step_87 : decode cX3_step 87 = .ok (.getfield 29, 3) := by decide +kernel
theorem dX3_step_90 : decode cX3_step 90 = .ok (.iconst 1, 1) := by decide +kernel
theorem dX3_step_91 : decode cX3_step 91 = .ok (.iadd, 1) := by decide +kernel
theorem dX3_step_92 : decode cX3_step 92 = .ok (.goto 7, 3) := by decide +kernel
theorem dX3_step_95 : decode cX3_step 95 = .ok (.aload_n 0, 1) := by decide +kernel
theorem dX3_step_96 : decode cX3_step 96 = .ok (.getfield 29, 3) := by decide +kernel
theorem dX3_step_99 : decode cX3_step 99 = .ok (.putfield 19, 3) := by decide +kernel
theorem dX3_step_102 : decode cX3_step 102 = .ok (.aload_n 0, 1) := by decide +kernel
theorem dX3_step_103 : decode cX3_step 103 = .ok (.iconst 0, 1) := by decide +kernel
theorem dX3_step_104 : decode cX3_step 104 = .ok (.putfield 82, 3) := by decide +kernel
theorem dX3_step_107 : decode cX3_step 107 = .ok (.aload_n 0, 1) := by decide +kernel
theorem dX3_step_108 : decode cX3_step 108 = .ok (.getfield 32, 3) := by decide +kernel
theorem dX3_step_111 : decode cX3_step 111 = .ok (.iconst 3, 1) := by decide +kernel
theorem dX3_step_112 : decode cX3_step 112 = .ok (.if_icmp .eq 84, 3) := by decide +kernel
theorem dX3_step_115 : decode cX3_step 115 = .ok (.aload_n 0, 1) := by decide +kernel
theorem dX3_step_116 : decode cX3_step 116 = .ok (.getfield 19, 3) := by decide +kernel
theorem dX3_step_119 : decode cX3_step 119 = .ok (.aload_n 0, 1) := by decide +kernel
theorem dX3_step_120 : decode cX3_step 120 = .ok (.getfield 15, 3) := by decide +kernel
theorem dX3_step_123 : decode cX3_step 123 = .ok (.if_icmp .ge 73, 3) := by decide +kernel
theorem dX3_step_126 : decode cX3_step 126 = .ok (.aload_n 0, 1) := by decide +kernel
theorem dX3_step_127 : decode cX3_step 127 = .ok (.getfield 9, 3) := by decide +kernel
theorem dX3_step_130 : decode cX3_step 130 = .ok (.aload_n 0, 1) := by decide +kernel
theorem dX3_step_131 : decode cX3_step 131 = .ok (.getfield 19, 3) := by decide +kernel
theorem dX3_step_134 : decode cX3_step 134 = .ok (.iaload, 1) := by decide +kernel
theorem dX3_step_135 : decode cX3_step 135 = .ok (.invokestatic 103, 3) := by decide +kernel
theorem dX3_step_138 : decode cX3_step 138 = .ok (.aload_n 0, 1) := by decide +kernel
theorem dX3_step_139 : decode cX3_step 139 = .ok (.getfield 32, 3) := by decide +kernel
theorem dX3_step_142 : decode cX3_step 142 = .ok (.if_icmp .ne 54, 3) := by decide +kernel
theorem dX3_step_145 : decode cX3_step 145 = .ok (.aload_n 0, 1) := by decide +kernel
theorem dX3_step_146 : decode cX3_step 146 = .ok (.getfield 32, 3) := by decide +kernel
theorem dX3_step_149 : decode cX3_step 149 = .ok (.iconst 2, 1) := by decide +kernel
theorem dX3_step_150 : decode cX3_step 150 = .ok (.if_icmp .ne 33, 3) := by decide +kernel
theorem dX3_step_153 : decode cX3_step 153 = .ok (.aload_n 0, 1) := by decide +kernel
theorem dX3_step_154 : decode cX3_step 154 = .ok (.sipush 10000, 3) := by decide +kernel
theorem dX3_step_157 : decode cX3_step 157 = .ok (.aload_n 0, 1) := by decide +kernel
theorem dX3_step_158 : decode cX3_step 158 = .ok (.getfield 82, 3) := by decide +kernel
theorem dX3_step_161 : decode cX3_step 161 = .ok (.bipush 10, 2) := by decide +kernel
theorem dX3_step_163 : decode cX3_step 163 = .ok (.imul, 1) := by decide +kernel
theorem dX3_step_164 : decode cX3_step 164 = .ok (.aload_n 0, 1) := by decide +kernel
theorem dX3_step_165 : decode cX3_step 165 = .ok (.getfield 9, 3) := by decide +kernel
theorem dX3_step_168 : decode cX3_step 168 = .ok (.aload_n 0, 1) := by decide +kernel
theorem dX3_step_169 : decode cX3_step 169 = .ok (.getfield 19, 3) := by decide +kernel
theorem dX3_step_172 : decode cX3_step 172 = .ok (.iaload, 1) := by decide +kernel
theorem dX3_step_173 : decode cX3_step 173 = .ok (.iadd, 1) := by decide +kernel
theorem dX3_step_174 : decode cX3_step 174 = .ok (.bipush 48, 2) := by decide +kernel
theorem dX3_step_176 : decode cX3_step 176 = .ok (.isub, 1) := by decide +kernel
theorem dX3_step_177 : decode cX3_step 177 = .ok (.invokestatic 106, 3) := by decide +kernel
theorem dX3_step_180 : decode cX3_step 180 = .ok (.putfield 82, 3) := by decide +kernel
theorem dX3_step_183 : decode cX3_step 183 = .ok (.aload_n 0, 1) := by decide +kernel
theorem dX3_step_184 : decode cX3_step 184 = .ok (.dup, 1) := by decide +kernel
theorem dX3_step_185 : decode cX3_step 185 = .ok (.getfield 19, 3) := by decide +kernel
theorem dX3_step_188 : decode cX3_step 188 = .ok (.iconst 1, 1) := by decide +kernel
theorem dX3_step_189 : decode cX3_step 189 = .ok (.iadd, 1) := by decide +kernel
theorem dX3_step_190 : decode cX3_step 190 = .ok (.putfield 19, 3) := by decide +kernel
theorem dX3_step_193 : decode cX3_step 193 = .ok (.goto (-86), 3) := by decide +kernel
theorem dX3_step_196 : decode cX3_step 196 = .ok (.return_, 1) := by decide +kernel
theorem dX3_isWord_0 : decode cX3_isWord 0 = .ok (.aload_n 0, 1) := by decide +kernel
theorem dX3_isWord_1 : decode cX3_isWord 1 = .ok (.getfield 32, 3) := by decide +kernel
theorem dX3_isWord_4 : decode cX3_isWord 4 = .ok (.iconst 1, 1) := by decide +kernel
theorem dX3_isWord_5 : decode cX3_isWord 5 = .ok (.if_icmp .ne 19, 3) := by decide +kernel
theorem dX3_isWord_8 : decode cX3_isWord 8 = .ok (.aload_n 0, 1) := by decide +kernel
theorem dX3_isWord_9 : decode cX3_isWord 9 = .ok (.getfield 19, 3) := by decide +kernel
theorem dX3_isWord_12 : decode cX3_isWord 12 = .ok (.aload_n 0, 1) := by decide +kernel
theorem dX3_isWord_13 : decode cX3_isWord 13 = .ok (.getfield 29, 3) := by decide +kernel
theorem dX3_isWord_16 : decode cX3_isWord 16 = .ok (.isub, 1) := by decide +kernel
theorem dX3_isWord_17 : decode cX3_isWord 17 = .ok (.aload_n 1, 1) := by decide +kernel
theorem dX3_isWord_18 : decode cX3_isWord 18 = .ok (.invokevirtual 112, 3) := by decide +kernel
theorem dX3_isWord_21 : decode cX3_isWord 21 = .ok (.if_icmp .eq 5, 3) := by decide +kernel
theorem dX3_isWord_24 : decode cX3_isWord 24 = .ok (.iconst 0, 1) := by decide +kernel
theorem dX3_isWord_25 : decode cX3_isWord 25 = .ok (.ireturn, 1) := by decide +kernel
theorem dX3_isWord_26 : decode cX3_isWord 26 = .ok (.iconst 0, 1) := by decide +kernel
theorem dX3_isWord_27 : decode cX3_isWord 27 = .ok (.istore_n 2, 1) := by decide +kernel
theorem dX3_isWord_28 : decode cX3_isWord 28 = .ok (.iload_n 2, 1) := by decide +kernel
theorem dX3_isWord_29 : decode cX3_isWord 29 = .ok (.aload_n 1, 1) := by decide +kernel
theorem dX3_isWord_30 : decode cX3_isWord 30 = .ok (.invokevirtual 112, 3) := by decide +kernel
theorem dX3_isWord_33 : decode cX3_isWord 33 = .ok (.if_icmp .ge 30, 3) := by decide +kernel
theorem dX3_isWord_36 : decode cX3_isWord 36 = .ok (.aload_n 0, 1) := by decide +kernel
theorem dX3_isWord_37 : decode cX3_isWord 37 = .ok (.getfield 9, 3) := by decide +kernel
theorem dX3_isWord_40 : decode cX3_isWord 40 = .ok (.aload_n 0, 1) := by decide +kernel
theorem dX3_isWord_41 : decode cX3_isWord 41 = .ok (.getfield 29, 3) := by decide +kernel
theorem dX3_isWord_44 : decode cX3_isWord 44 = .ok (.iload_n 2, 1) := by decide +kernel
theorem dX3_isWord_45 : decode cX3_isWord 45 = .ok (.iadd, 1) := by decide +kernel
theorem dX3_isWord_46 : decode cX3_isWord 46 = .ok (.iaload, 1) := by decide +kernel
theorem dX3_isWord_47 : decode cX3_isWord 47 = .ok (.aload_n 1, 1) := by decide +kernel
theorem dX3_isWord_48 : decode cX3_isWord 48 = .ok (.iload_n 2, 1) := by decide +kernel
theorem dX3_isWord_49 : decode cX3_isWord 49 = .ok (.invokevirtual 117, 3) := by decide +kernel
theorem dX3_isWord_52 : decode cX3_isWord 52 = .ok (.if_icmp .eq 5, 3) := by decide +kernel
theorem dX3_isWord_55 : decode cX3_isWord 55 = .ok (.iconst 0, 1) := by decide +kernel
theorem dX3_isWord_56 : decode cX3_isWord 56 = .ok (.ireturn, 1) := by decide +kernel
theorem dX3_isWord_57 : decode cX3_isWord 57 = .ok (.iinc 2 1, 3) := by decide +kernel
theorem dX3_isWord_60 : decode cX3_isWord 60 = .ok (.goto (-32), 3) := by decide +kernel
theorem dX3_isWord_63 : decode cX3_isWord 63 = .ok (.iconst 1, 1) := by decide +kernel
theorem dX3_isWord_64 : decode cX3_isWord 64 = .ok (.ireturn, 1) := by decide +kernel
theorem dX3_isNumber_0 : decode cX3_isNumber 0 = .ok (.aload_n 0, 1) := by decide +kernel
theorem dX3_isNumber_1 : decode cX3_isNumber 1 = .ok (.getfield 32, 3) := by decide +kernel
theorem dX3_isNumber_4 : decode cX3_isNumber 4 = .ok (.iconst 2, 1) := by decide +kernel
theorem dX3_isNumber_5 : decode cX3_isNumber 5 = .ok (.if_icmp .ne 19, 3) := by decide +kernel
theorem dX3_isNumber_8 : decode cX3_isNumber 8 = .ok (.aload_n 0, 1) := by decide +kernel
theorem dX3_isNumber_9 : decode cX3_isNumber 9 = .ok (.getfield 82, 3) := by decide +kernel
theorem dX3_isNumber_12 : decode cX3_isNumber 12 = .ok (.iload_n 1, 1) := by decide +kernel
theorem dX3_isNumber_13 : decode cX3_isNumber 13 = .ok (.iload_n 2, 1) := by decide +kernel
theorem dX3_isNumber_14 : decode cX3_isNumber 14 = .ok (.invokestatic 121, 3) := by decide +kernel
theorem dX3_isNumber_17 : decode cX3_isNumber 17 = .ok (.ifCond .eq 7, 3) := by decide +kernel
theorem dX3_isNumber_20 : decode cX3_isNumber 20 = .ok (.iconst 1, 1) := by decide +kernel
theorem dX3_isNumber_21 : decode cX3_isNumber 21 = .ok (.goto 4, 3) := by decide +kernel
theorem dX3_isNumber_24 : decode cX3_isNumber 24 = .ok (.iconst 0, 1) := by decide +kernel
theorem dX3_isNumber_25 : decode cX3_isNumber 25 = .ok (.ireturn, 1) := by decide +kernel
theorem dX3_tokenOf_0 : decode cX3_tokenOf 0 = .ok (.iload_n 0, 1) := by decide +kernel
theorem dX3_tokenOf_1 : decode cX3_tokenOf 1 = .ok (.bipush 97, 2) := by decide +kernel
theorem dX3_tokenOf_3 : decode cX3_tokenOf 3 = .ok (.if_icmp .lt 11, 3) := by decide +kernel
theorem dX3_tokenOf_6 : decode cX3_tokenOf 6 = .ok (.iload_n 0, 1) := by decide +kernel
theorem dX3_tokenOf_7 : decode cX3_tokenOf 7 = .ok (.bipush 122, 2) := by decide +kernel
theorem dX3_tokenOf_9 : decode cX3_tokenOf 9 = .ok (.if_icmp .gt 5, 3) := by decide +kernel
theorem dX3_tokenOf_12 : decode cX3_tokenOf 12 = .ok (.iconst 1, 1) := by decide +kernel
theorem dX3_tokenOf_13 : decode cX3_tokenOf 13 = .ok (.ireturn, 1) := by decide +kernel
theorem dX3_tokenOf_14 : decode cX3_tokenOf 14 = .ok (.iload_n 0, 1) := by decide +kernel
theorem dX3_tokenOf_15 : decode cX3_tokenOf 15 = .ok (.bipush 48, 2) := by decide +kernel
theorem dX3_tokenOf_17 : decode cX3_tokenOf 17 = .ok (.if_icmp .lt 11, 3) := by decide +kernel
theorem dX3_tokenOf_20 : decode cX3_tokenOf 20 = .ok (.iload_n 0, 1) := by decide +kernel
theorem dX3_tokenOf_21 : decode cX3_tokenOf 21 = .ok (.bipush 57, 2) := by decide +kernel
theorem dX3_tokenOf_23 : decode cX3_tokenOf 23 = .ok (.if_icmp .gt 5, 3) := by decide +kernel
theorem dX3_tokenOf_26 : decode cX3_tokenOf 26 = .ok (.iconst 2, 1) := by decide +kernel
theorem dX3_tokenOf_27 : decode cX3_tokenOf 27 = .ok (.ireturn, 1) := by decide +kernel
theorem dX3_tokenOf_28 : decode cX3_tokenOf 28 = .ok (.iload_n 0, 1) := by decide +kernel
theorem dX3_tokenOf_29 : decode cX3_tokenOf 29 = .ok (.bipush 59, 2) := by decide +kernel
theorem dX3_tokenOf_31 : decode cX3_tokenOf 31 = .ok (.if_icmp .ne 7, 3) := by decide +kernel
theorem dX3_tokenOf_34 : decode cX3_tokenOf 34 = .ok (.iconst 3, 1) := by decide +kernel
theorem dX3_tokenOf_35 : decode cX3_tokenOf 35 = .ok (.goto 4, 3) := by decide +kernel
theorem dX3_tokenOf_38 : decode cX3_tokenOf 38 = .ok (.iconst 4, 1) := by decide +kernel
theorem dX3_tokenOf_39 : decode cX3_tokenOf 39 = .ok (.ireturn, 1) := by decide +kernel
theorem dX3_kindWord_0 : decode cX3_kindWord 0 = .ok (.iload_n 0, 1) := by decide +kernel
theorem dX3_kindWord_1 : decode cX3_kindWord 1 = .ok (.tableswitch 57 1 6 #[39, 42, 45, 48, 51, 54], 39) := by decide +kernel
theorem dX3_kindWord_40 : decode cX3_kindWord 40 = .ok (.ldc 125, 2) := by decide +kernel
theorem dX3_kindWord_42 : decode cX3_kindWord 42 = .ok (.areturn, 1) := by decide +kernel
theorem dX3_kindWord_43 : decode cX3_kindWord 43 = .ok (.ldc 127, 2) := by decide +kernel
theorem dX3_kindWord_45 : decode cX3_kindWord 45 = .ok (.areturn, 1) := by decide +kernel
theorem dX3_kindWord_46 : decode cX3_kindWord 46 = .ok (.ldc 129, 2) := by decide +kernel
theorem dX3_kindWord_48 : decode cX3_kindWord 48 = .ok (.areturn, 1) := by decide +kernel
theorem dX3_kindWord_49 : decode cX3_kindWord 49 = .ok (.ldc 131, 2) := by decide +kernel
theorem dX3_kindWord_51 : decode cX3_kindWord 51 = .ok (.areturn, 1) := by decide +kernel
theorem dX3_kindWord_52 : decode cX3_kindWord 52 = .ok (.ldc 133, 2) := by decide +kernel
theorem dX3_kindWord_54 : decode cX3_kindWord 54 = .ok (.areturn, 1) := by decide +kernel
theorem dX3_kindWord_55 : decode cX3_kindWord 55 = .ok (.ldc 135, 2) := by decide +kernel
theorem dX3_kindWord_57 : decode cX3_kindWord 57 = .ok (.areturn, 1) := by decide +kernel
theorem dX3_kindWord_58 : decode cX3_kindWord 58 = .ok (.ldc 137, 2) := by decide +kernel
theorem dX3_kindWord_60 : decode cX3_kindWord 60 = .ok (.areturn, 1) := by decide +kernel
theorem dX3_settingWord_0 : decode cX3_settingWord 0 = .ok (.iload_n 0, 1) := by decide +kernel
theorem dX3_settingWord_1 : decode cX3_settingWord 1 = .ok (.tableswitch 36 0 2 #[27, 30, 33], 27) := by decide +kernel
theorem dX3_settingWord_28 : decode cX3_settingWord 28 = .ok (.ldc 139, 2) := by decide +kernel
theorem dX3_settingWord_30 : decode cX3_settingWord 30 = .ok (.areturn, 1) := by decide +kernel
theorem dX3_settingWord_31 : decode cX3_settingWord 31 = .ok (.ldc 141, 2) := by decide +kernel
theorem dX3_settingWord_33 : decode cX3_settingWord 33 = .ok (.areturn, 1) := by decide +kernel
theorem dX3_settingWord_34 : decode cX3_settingWord 34 = .ok (.ldc 143, 2) := by decide +kernel
theorem dX3_settingWord_36 : decode cX3_settingWord 36 = .ok (.areturn, 1) := by decide +kernel
theorem dX3_settingWord_37 : decode cX3_settingWord 37 = .ok (.ldc 145, 2) := by decide +kernel
theorem dX3_settingWord_39 : decode cX3_settingWord 39 = .ok (.areturn, 1) := by decide +kernel
theorem dJ6_bitCount_0f7a4_0 : decode cJ6_bitCount_0f7a4 0 = .ok (.iload_n 0, 1) := by decide +kernel
theorem dJ6_bitCount_0f7a4_1 : decode cJ6_bitCount_0f7a4 1 = .ok (.iload_n 0, 1) := by decide +kernel
theorem dJ6_bitCount_0f7a4_2 : decode cJ6_bitCount_0f7a4 2 = .ok (.iconst 1, 1) := by decide +kernel
theorem dJ6_bitCount_0f7a4_3 : decode cJ6_bitCount_0f7a4 3 = .ok (.iushr, 1) := by decide +kernel
theorem dJ6_bitCount_0f7a4_4 : decode cJ6_bitCount_0f7a4 4 = .ok (.ldc_w 265, 3) := by decide +kernel
theorem dJ6_bitCount_0f7a4_7 : decode cJ6_bitCount_0f7a4 7 = .ok (.iand, 1) := by decide +kernel
theorem dJ6_bitCount_0f7a4_8 : decode cJ6_bitCount_0f7a4 8 = .ok (.isub, 1) := by decide +kernel
theorem dJ6_bitCount_0f7a4_9 : decode cJ6_bitCount_0f7a4 9 = .ok (.istore_n 0, 1) := by decide +kernel
theorem dJ6_bitCount_0f7a4_10 : decode cJ6_bitCount_0f7a4 10 = .ok (.iload_n 0, 1) := by decide +kernel
theorem dJ6_bitCount_0f7a4_11 : decode cJ6_bitCount_0f7a4 11 = .ok (.ldc_w 266, 3) := by decide +kernel
theorem dJ6_bitCount_0f7a4_14 : decode cJ6_bitCount_0f7a4 14 = .ok (.iand, 1) := by decide +kernel
theorem dJ6_bitCount_0f7a4_15 : decode cJ6_bitCount_0f7a4 15 = .ok (.iload_n 0, 1) := by decide +kernel
theorem dJ6_bitCount_0f7a4_16 : decode cJ6_bitCount_0f7a4 16 = .ok (.iconst 2, 1) := by decide +kernel
theorem dJ6_bitCount_0f7a4_17 : decode cJ6_bitCount_0f7a4 17 = .ok (.iushr, 1) := by decide +kernel
theorem dJ6_bitCount_0f7a4_18 : decode cJ6_bitCount_0f7a4 18 = .ok (.ldc_w 266, 3) := by decide +kernel
theorem dJ6_bitCount_0f7a4_21 : decode cJ6_bitCount_0f7a4 21 = .ok (.iand, 1) := by decide +kernel
theorem dJ6_bitCount_0f7a4_22 : decode cJ6_bitCount_0f7a4 22 = .ok (.iadd, 1) := by decide +kernel
theorem dJ6_bitCount_0f7a4_23 : decode cJ6_bitCount_0f7a4 23 = .ok (.istore_n 0, 1) := by decide +kernel
theorem dJ6_bitCount_0f7a4_24 : decode cJ6_bitCount_0f7a4 24 = .ok (.iload_n 0, 1) := by decide +kernel
theorem dJ6_bitCount_0f7a4_25 : decode cJ6_bitCount_0f7a4 25 = .ok (.iload_n 0, 1) := by decide +kernel
theorem dJ6_bitCount_0f7a4_26 : decode cJ6_bitCount_0f7a4 26 = .ok (.iconst 4, 1) := by decide +kernel
theorem dJ6_bitCount_0f7a4_27 : decode cJ6_bitCount_0f7a4 27 = .ok (.iushr, 1) := by decide +kernel
theorem dJ6_bitCount_0f7a4_28 : decode cJ6_bitCount_0f7a4 28 = .ok (.iadd, 1) := by decide +kernel
theorem dJ6_bitCount_0f7a4_29 : decode cJ6_bitCount_0f7a4 29 = .ok (.ldc_w 267, 3) := by decide +kernel
theorem dJ6_bitCount_0f7a4_32 : decode cJ6_bitCount_0f7a4 32 = .ok (.iand, 1) := by decide +kernel
theorem dJ6_bitCount_0f7a4_33 : decode cJ6_bitCount_0f7a4 33 = .ok (.istore_n 0, 1) := by decide +kernel
theorem dJ6_bitCount_0f7a4_34 : decode cJ6_bitCount_0f7a4 34 = .ok (.iload_n 0, 1) := by decide +kernel
theorem dJ6_bitCount_0f7a4_35 : decode cJ6_bitCount_0f7a4 35 = .ok (.iload_n 0, 1) := by decide +kernel
theorem dJ6_bitCount_0f7a4_36 : decode cJ6_bitCount_0f7a4 36 = .ok (.bipush 8, 2) := by decide +kernel
theorem dJ6_bitCount_0f7a4_38 : decode cJ6_bitCount_0f7a4 38 = .ok (.iushr, 1) := by decide +kernel
theorem dJ6_bitCount_0f7a4_39 : decode cJ6_bitCount_0f7a4 39 = .ok (.iadd, 1) := by decide +kernel
theorem dJ6_bitCount_0f7a4_40 : decode cJ6_bitCount_0f7a4 40 = .ok (.istore_n 0, 1) := by decide +kernel
theorem dJ6_bitCount_0f7a4_41 : decode cJ6_bitCount_0f7a4 41 = .ok (.iload_n 0, 1) := by decide +kernel
theorem dJ6_bitCount_0f7a4_42 : decode cJ6_bitCount_0f7a4 42 = .ok (.iload_n 0, 1) := by decide +kernel
theorem dJ6_bitCount_0f7a4_43 : decode cJ6_bitCount_0f7a4 43 = .ok (.bipush 16, 2) := by decide +kernel
theorem dJ6_bitCount_0f7a4_45 : decode cJ6_bitCount_0f7a4 45 = .ok (.iushr, 1) := by decide +kernel
theorem dJ6_bitCount_0f7a4_46 : decode cJ6_bitCount_0f7a4 46 = .ok (.iadd, 1) := by decide +kernel
theorem dJ6_bitCount_0f7a4_47 : decode cJ6_bitCount_0f7a4 47 = .ok (.istore_n 0, 1) := by decide +kernel
theorem dJ6_bitCount_0f7a4_48 : decode cJ6_bitCount_0f7a4 48 = .ok (.iload_n 0, 1) := by decide +kernel
theorem dJ6_bitCount_0f7a4_49 : decode cJ6_bitCount_0f7a4 49 = .ok (.bipush 63, 2) := by decide +kernel
theorem dJ6_bitCount_0f7a4_51 : decode cJ6_bitCount_0f7a4 51 = .ok (.iand, 1) := by decide +kernel
theorem dJ6_bitCount_0f7a4_52 : decode cJ6_bitCount_0f7a4 52 = .ok (.ireturn, 1) := by decide +kernel
theorem dJ9_max_7cf53_0 : decode cJ9_max_7cf53 0 = .ok (.iload_n 0, 1) := by decide +kernel
theorem dJ9_max_7cf53_1 : decode cJ9_max_7cf53 1 = .ok (.iload_n 1, 1) := by decide +kernel
theorem dJ9_max_7cf53_2 : decode cJ9_max_7cf53 2 = .ok (.if_icmp .lt 7, 3) := by decide +kernel
theorem dJ9_max_7cf53_5 : decode cJ9_max_7cf53 5 = .ok (.iload_n 0, 1) := by decide +kernel
theorem dJ9_max_7cf53_6 : decode cJ9_max_7cf53 6 = .ok (.goto 4, 3) := by decide +kernel
theorem dJ9_max_7cf53_9 : decode cJ9_max_7cf53 9 = .ok (.iload_n 1, 1) := by decide +kernel
theorem dJ9_max_7cf53_10 : decode cJ9_max_7cf53 10 = .ok (.ireturn, 1) := by decide +kernel
theorem dJ9_min_7cf53_0 : decode cJ9_min_7cf53 0 = .ok (.iload_n 0, 1) := by decide +kernel
theorem dJ9_min_7cf53_1 : decode cJ9_min_7cf53 1 = .ok (.iload_n 1, 1) := by decide +kernel
theorem dJ9_min_7cf53_2 : decode cJ9_min_7cf53 2 = .ok (.if_icmp .gt 7, 3) := by decide +kernel
theorem dJ9_min_7cf53_5 : decode cJ9_min_7cf53 5 = .ok (.iload_n 0, 1) := by decide +kernel
theorem dJ9_min_7cf53_6 : decode cJ9_min_7cf53 6 = .ok (.goto 4, 3) := by decide +kernel
theorem dJ9_min_7cf53_9 : decode cJ9_min_7cf53 9 = .ok (.iload_n 1, 1) := by decide +kernel
theorem dJ9_min_7cf53_10 : decode cJ9_min_7cf53 10 = .ok (.ireturn, 1) := by decide +kernel
theorem dJ0_length_8abf5_0 : decode cJ0_length_8abf5 0 = .ok (.aload_n 0, 1) := by decide +kernel
theorem dJ0_length_8abf5_1 : decode cJ0_length_8abf5 1 = .ok (.getfield 9, 3) := by decide +kernel
theorem dJ0_length_8abf5_4 : decode cJ0_length_8abf5 4 = .ok (.arraylength, 1) := by decide +kernel
theorem dJ0_length_8abf5_5 : decode cJ0_length_8abf5 5 = .ok (.aload_n 0, 1) := by decide +kernel
theorem dJ0_length_8abf5_6 : decode cJ0_length_8abf5 6 = .ok (.invokevirtual 335, 3) := by decide +kernel
theorem dJ0_length_8abf5_9 : decode cJ0_length_8abf5 9 = .ok (.ishr, 1) := by decide +kernel
theorem dJ0_length_8abf5_10 : decode cJ0_length_8abf5 10 = .ok (.ireturn, 1) := by decide +kernel
theorem dJ0_charAt_5068e_0 : decode cJ0_charAt_5068e 0 = .ok (.aload_n 0, 1) := by decide +kernel
theorem dJ0_charAt_5068e_1 : decode cJ0_charAt_5068e 1 = .ok (.invokevirtual 492, 3) := by decide +kernel
theorem dJ0_charAt_5068e_4 : decode cJ0_charAt_5068e 4 = .ok (.ifCond .eq 12, 3) := by decide +kernel
theorem dJ0_charAt_5068e_7 : decode cJ0_charAt_5068e 7 = .ok (.aload_n 0, 1) := by decide +kernel
theorem dJ0_charAt_5068e_8 : decode cJ0_charAt_5068e 8 = .ok (.getfield 9, 3) := by decide +kernel
theorem dJ0_charAt_5068e_11 : decode cJ0_charAt_5068e 11 = .ok (.iload_n 1, 1) := by decide +kernel
theorem dJ0_charAt_5068e_12 : decode cJ0_charAt_5068e 12 = .ok (.invokestatic 495, 3) := by decide +kernel
theorem dJ0_charAt_5068e_15 : decode cJ0_charAt_5068e 15 = .ok (.ireturn, 1) := by decide +kernel
theorem dJ0_charAt_5068e_16 : decode cJ0_charAt_5068e 16 = .ok (.aload_n 0, 1) := by decide +kernel
theorem dJ0_charAt_5068e_17 : decode cJ0_charAt_5068e 17 = .ok (.getfield 9, 3) := by decide +kernel
theorem dJ0_charAt_5068e_20 : decode cJ0_charAt_5068e 20 = .ok (.iload_n 1, 1) := by decide +kernel
theorem dJ0_charAt_5068e_21 : decode cJ0_charAt_5068e 21 = .ok (.invokestatic 498, 3) := by decide +kernel
theorem dJ0_charAt_5068e_24 : decode cJ0_charAt_5068e 24 = .ok (.ireturn, 1) := by decide +kernel
theorem dJ0_coder_7d493_0 : decode cJ0_coder_7d493 0 = .ok (.getstatic 38, 3) := by decide +kernel
theorem dJ0_coder_7d493_3 : decode cJ0_coder_7d493 3 = .ok (.ifCond .eq 10, 3) := by decide +kernel
theorem dJ0_coder_7d493_6 : decode cJ0_coder_7d493 6 = .ok (.aload_n 0, 1) := by decide +kernel
theorem dJ0_coder_7d493_7 : decode cJ0_coder_7d493 7 = .ok (.getfield 15, 3) := by decide +kernel
theorem dJ0_coder_7d493_10 : decode cJ0_coder_7d493 10 = .ok (.goto 4, 3) := by decide +kernel
theorem dJ0_coder_7d493_13 : decode cJ0_coder_7d493 13 = .ok (.iconst 1, 1) := by decide +kernel
theorem dJ0_coder_7d493_14 : decode cJ0_coder_7d493 14 = .ok (.ireturn, 1) := by decide +kernel
theorem dJ0_isLatin1_aae02_0 : decode cJ0_isLatin1_aae02 0 = .ok (.getstatic 38, 3) := by decide +kernel
theorem dJ0_isLatin1_aae02_3 : decode cJ0_isLatin1_aae02 3 = .ok (.ifCond .eq 14, 3) := by decide +kernel
theorem dJ0_isLatin1_aae02_6 : decode cJ0_isLatin1_aae02 6 = .ok (.aload_n 0, 1) := by decide +kernel
theorem dJ0_isLatin1_aae02_7 : decode cJ0_isLatin1_aae02 7 = .ok (.getfield 15, 3) := by decide +kernel
theorem dJ0_isLatin1_aae02_10 : decode cJ0_isLatin1_aae02 10 = .ok (.ifCond .ne 7, 3) := by decide +kernel
theorem dJ0_isLatin1_aae02_13 : decode cJ0_isLatin1_aae02 13 = .ok (.iconst 1, 1) := by decide +kernel
theorem dJ0_isLatin1_aae02_14 : decode cJ0_isLatin1_aae02 14 = .ok (.goto 4, 3) := by decide +kernel
theorem dJ0_isLatin1_aae02_17 : decode cJ0_isLatin1_aae02 17 = .ok (.iconst 0, 1) := by decide +kernel
theorem dJ0_isLatin1_aae02_18 : decode cJ0_isLatin1_aae02 18 = .ok (.ireturn, 1) := by decide +kernel
theorem dJ0_checkIndex_df160_0 : decode cJ0_checkIndex_df160 0 = .ok (.iload_n 0, 1) := by decide +kernel
theorem dJ0_checkIndex_df160_1 : decode cJ0_checkIndex_df160 1 = .ok (.iload_n 1, 1) := by decide +kernel
theorem dJ0_checkIndex_df160_2 : decode cJ0_checkIndex_df160 2 = .ok (.getstatic 1053, 3) := by decide +kernel
theorem dJ0_checkIndex_df160_5 : decode cJ0_checkIndex_df160 5 = .ok (.invokestatic 1059, 3) := by decide +kernel
theorem dJ0_checkIndex_df160_8 : decode cJ0_checkIndex_df160 8 = .ok (.pop, 1) := by decide +kernel
theorem dJ0_checkIndex_df160_9 : decode cJ0_checkIndex_df160 9 = .ok (.return_, 1) := by decide +kernel
theorem dJ1_charAt_3b067_0 : decode cJ1_charAt_3b067 0 = .ok (.iload_n 1, 1) := by decide +kernel
theorem dJ1_charAt_3b067_1 : decode cJ1_charAt_3b067 1 = .ok (.aload_n 0, 1) := by decide +kernel
theorem dJ1_charAt_3b067_2 : decode cJ1_charAt_3b067 2 = .ok (.arraylength, 1) := by decide +kernel
theorem dJ1_charAt_3b067_3 : decode cJ1_charAt_3b067 3 = .ok (.invokestatic 9, 3) := by decide +kernel
theorem dJ1_charAt_3b067_6 : decode cJ1_charAt_3b067 6 = .ok (.aload_n 0, 1) := by decide +kernel
theorem dJ1_charAt_3b067_7 : decode cJ1_charAt_3b067 7 = .ok (.iload_n 1, 1) := by decide +kernel
theorem dJ1_charAt_3b067_8 : decode cJ1_charAt_3b067 8 = .ok (.baload, 1) := by decide +kernel
theorem dJ1_charAt_3b067_9 : decode cJ1_charAt_3b067 9 = .ok (.sipush 255, 3) := by decide +kernel
theorem dJ1_charAt_3b067_12 : decode cJ1_charAt_3b067 12 = .ok (.iand, 1) := by decide +kernel
theorem dJ1_charAt_3b067_13 : decode cJ1_charAt_3b067 13 = .ok (.i2c, 1) := by decide +kernel
theorem dJ1_charAt_3b067_14 : decode cJ1_charAt_3b067 14 = .ok (.ireturn, 1) := by decide +kernel
theorem dJ2_getChar_3b067_0 : decode cJ2_getChar_3b067 0 = .ok (.getstatic 44, 3) := by decide +kernel
theorem dJ2_getChar_3b067_3 : decode cJ2_getChar_3b067 3 = .ok (.ifCond .ne 25, 3) := by decide +kernel
theorem dJ2_getChar_3b067_6 : decode cJ2_getChar_3b067 6 = .ok (.iload_n 1, 1) := by decide +kernel
theorem dJ2_getChar_3b067_7 : decode cJ2_getChar_3b067 7 = .ok (.ifCond .lt 11, 3) := by decide +kernel
theorem dJ2_getChar_3b067_10 : decode cJ2_getChar_3b067 10 = .ok (.iload_n 1, 1) := by decide +kernel
theorem dJ2_getChar_3b067_11 : decode cJ2_getChar_3b067 11 = .ok (.aload_n 0, 1) := by decide +kernel
theorem dJ2_getChar_3b067_12 : decode cJ2_getChar_3b067 12 = .ok (.invokestatic 48, 3) := by decide +kernel
theorem dJ2_getChar_3b067_15 : decode cJ2_getChar_3b067 15 = .ok (.if_icmp .lt 13, 3) := by decide +kernel
theorem dJ2_getChar_3b067_18 : decode cJ2_getChar_3b067 18 = .ok (.new 52, 3) := by decide +kernel
theorem dJ2_getChar_3b067_21 : decode cJ2_getChar_3b067 21 = .ok (.dup, 1) := by decide +kernel
theorem dJ2_getChar_3b067_22 : decode cJ2_getChar_3b067 22 = .ok (.ldc 54, 2) := by decide +kernel
theorem dJ2_getChar_3b067_24 : decode cJ2_getChar_3b067 24 = .ok (.invokespecial 56, 3) := by decide +kernel
theorem dJ2_getChar_3b067_27 : decode cJ2_getChar_3b067 27 = .ok (.athrow, 1) := by decide +kernel
theorem dJ2_getChar_3b067_28 : decode cJ2_getChar_3b067 28 = .ok (.iload_n 1, 1) := by decide +kernel
theorem dJ2_getChar_3b067_29 : decode cJ2_getChar_3b067 29 = .ok (.iconst 1, 1) := by decide +kernel
theorem dJ2_getChar_3b067_30 : decode cJ2_getChar_3b067 30 = .ok (.ishl, 1) := by decide +kernel
theorem dJ2_getChar_3b067_31 : decode cJ2_getChar_3b067 31 = .ok (.istore_n 1, 1) := by decide +kernel
theorem dJ2_getChar_3b067_32 : decode cJ2_getChar_3b067 32 = .ok (.aload_n 0, 1) := by decide +kernel
theorem dJ2_getChar_3b067_33 : decode cJ2_getChar_3b067 33 = .ok (.iload_n 1, 1) := by decide +kernel
theorem dJ2_getChar_3b067_34 : decode cJ2_getChar_3b067 34 = .ok (.iinc 1 1, 3) := by decide +kernel
theorem dJ2_getChar_3b067_37 : decode cJ2_getChar_3b067 37 = .ok (.baload, 1) := by decide +kernel
theorem dJ2_getChar_3b067_38 : decode cJ2_getChar_3b067 38 = .ok (.sipush 255, 3) := by decide +kernel
theorem dJ2_getChar_3b067_41 : decode cJ2_getChar_3b067 41 = .ok (.iand, 1) := by decide +kernel
theorem dJ2_getChar_3b067_42 : decode cJ2_getChar_3b067 42 = .ok (.getstatic 59, 3) := by decide +kernel
theorem dJ2_getChar_3b067_45 : decode cJ2_getChar_3b067 45 = .ok (.ishl, 1) := by decide +kernel
theorem dJ2_getChar_3b067_46 : decode cJ2_getChar_3b067 46 = .ok (.aload_n 0, 1) := by decide +kernel
theorem dJ2_getChar_3b067_47 : decode cJ2_getChar_3b067 47 = .ok (.iload_n 1, 1) := by decide +kernel
theorem dJ2_getChar_3b067_48 : decode cJ2_getChar_3b067 48 = .ok (.baload, 1) := by decide +kernel
theorem dJ2_getChar_3b067_49 : decode cJ2_getChar_3b067 49 = .ok (.sipush 255, 3) := by decide +kernel
theorem dJ2_getChar_3b067_52 : decode cJ2_getChar_3b067 52 = .ok (.iand, 1) := by decide +kernel
theorem dJ2_getChar_3b067_53 : decode cJ2_getChar_3b067 53 = .ok (.getstatic 63, 3) := by decide +kernel
theorem dJ2_getChar_3b067_56 : decode cJ2_getChar_3b067 56 = .ok (.ishl, 1) := by decide +kernel
theorem dJ2_getChar_3b067_57 : decode cJ2_getChar_3b067 57 = .ok (.ior, 1) := by decide +kernel
theorem dJ2_getChar_3b067_58 : decode cJ2_getChar_3b067 58 = .ok (.i2c, 1) := by decide +kernel
theorem dJ2_getChar_3b067_59 : decode cJ2_getChar_3b067 59 = .ok (.ireturn, 1) := by decide +kernel
theorem dJ2_length_9d52b_0 : decode cJ2_length_9d52b 0 = .ok (.aload_n 0, 1) := by decide +kernel
theorem dJ2_length_9d52b_1 : decode cJ2_length_9d52b 1 = .ok (.arraylength, 1) := by decide +kernel
theorem dJ2_length_9d52b_2 : decode cJ2_length_9d52b 2 = .ok (.iconst 1, 1) := by decide +kernel
theorem dJ2_length_9d52b_3 : decode cJ2_length_9d52b 3 = .ok (.ishr, 1) := by decide +kernel
theorem dJ2_length_9d52b_4 : decode cJ2_length_9d52b 4 = .ok (.ireturn, 1) := by decide +kernel
theorem dJ2_charAt_3b067_0 : decode cJ2_charAt_3b067 0 = .ok (.iload_n 1, 1) := by decide +kernel
theorem dJ2_charAt_3b067_1 : decode cJ2_charAt_3b067 1 = .ok (.aload_n 0, 1) := by decide +kernel
theorem dJ2_charAt_3b067_2 : decode cJ2_charAt_3b067 2 = .ok (.invokestatic 67, 3) := by decide +kernel
theorem dJ2_charAt_3b067_5 : decode cJ2_charAt_3b067 5 = .ok (.aload_n 0, 1) := by decide +kernel
theorem dJ2_charAt_3b067_6 : decode cJ2_charAt_3b067 6 = .ok (.iload_n 1, 1) := by decide +kernel
theorem dJ2_charAt_3b067_7 : decode cJ2_charAt_3b067 7 = .ok (.invokestatic 71, 3) := by decide +kernel
theorem dJ2_charAt_3b067_10 : decode cJ2_charAt_3b067 10 = .ok (.ireturn, 1) := by decide +kernel
theorem dJ2_checkIndex_2214a_0 : decode cJ2_checkIndex_2214a 0 = .ok (.iload_n 0, 1) := by decide +kernel
theorem dJ2_checkIndex_2214a_1 : decode cJ2_checkIndex_2214a 1 = .ok (.aload_n 1, 1) := by decide +kernel
theorem dJ2_checkIndex_2214a_2 : decode cJ2_checkIndex_2214a 2 = .ok (.invokestatic 48, 3) := by decide +kernel
theorem dJ2_checkIndex_2214a_5 : decode cJ2_checkIndex_2214a 5 = .ok (.invokestatic 414, 3) := by decide +kernel
theorem dJ2_checkIndex_2214a_8 : decode cJ2_checkIndex_2214a 8 = .ok (.return_, 1) := by decide +kernel
theorem dJ7_fill_53178_0 : decode cJ7_fill_53178 0 = .ok (.iconst 0, 1) := by decide +kernel
theorem dJ7_fill_53178_1 : decode cJ7_fill_53178 1 = .ok (.istore_n 2, 1) := by decide +kernel
theorem dJ7_fill_53178_2 : decode cJ7_fill_53178 2 = .ok (.aload_n 0, 1) := by decide +kernel
theorem dJ7_fill_53178_3 : decode cJ7_fill_53178 3 = .ok (.arraylength, 1) := by decide +kernel
theorem dJ7_fill_53178_4 : decode cJ7_fill_53178 4 = .ok (.istore_n 3, 1) := by decide +kernel
theorem dJ7_fill_53178_5 : decode cJ7_fill_53178 5 = .ok (.iload_n 2, 1) := by decide +kernel
theorem dJ7_fill_53178_6 : decode cJ7_fill_53178 6 = .ok (.iload_n 3, 1) := by decide +kernel
theorem dJ7_fill_53178_7 : decode cJ7_fill_53178 7 = .ok (.if_icmp .ge 13, 3) := by decide +kernel
theorem dJ7_fill_53178_10 : decode cJ7_fill_53178 10 = .ok (.aload_n 0, 1) := by decide +kernel
theorem dJ7_fill_53178_11 : decode cJ7_fill_53178 11 = .ok (.iload_n 2, 1) := by decide +kernel
theorem dJ7_fill_53178_12 : decode cJ7_fill_53178 12 = .ok (.iload_n 1, 1) := by decide +kernel
theorem dJ7_fill_53178_13 : decode cJ7_fill_53178 13 = .ok (.iastore, 1) := by decide +kernel
theorem dJ7_fill_53178_14 : decode cJ7_fill_53178 14 = .ok (.iinc 2 1, 3) := by decide +kernel
theorem dJ7_fill_53178_17 : decode cJ7_fill_53178 17 = .ok (.goto (-12), 3) := by decide +kernel
theorem dJ7_fill_53178_20 : decode cJ7_fill_53178 20 = .ok (.return_, 1) := by decide +kernel
theorem dJ3_checkIndex_8e157_0 : decode cJ3_checkIndex_8e157 0 = .ok (.iload_n 0, 1) := by decide +kernel
theorem dJ3_checkIndex_8e157_1 : decode cJ3_checkIndex_8e157 1 = .ok (.ifCond .lt 8, 3) := by decide +kernel
theorem dJ3_checkIndex_8e157_4 : decode cJ3_checkIndex_8e157 4 = .ok (.iload_n 0, 1) := by decide +kernel
theorem dJ3_checkIndex_8e157_5 : decode cJ3_checkIndex_8e157 5 = .ok (.iload_n 1, 1) := by decide +kernel
theorem dJ3_checkIndex_8e157_6 : decode cJ3_checkIndex_8e157 6 = .ok (.if_icmp .lt 10, 3) := by decide +kernel
theorem dJ3_checkIndex_8e157_9 : decode cJ3_checkIndex_8e157 9 = .ok (.aload_n 2, 1) := by decide +kernel
theorem dJ3_checkIndex_8e157_10 : decode cJ3_checkIndex_8e157 10 = .ok (.iload_n 0, 1) := by decide +kernel
theorem dJ3_checkIndex_8e157_11 : decode cJ3_checkIndex_8e157 11 = .ok (.iload_n 1, 1) := by decide +kernel
theorem dJ3_checkIndex_8e157_12 : decode cJ3_checkIndex_8e157 12 = .ok (.invokestatic 95, 3) := by decide +kernel
theorem dJ3_checkIndex_8e157_15 : decode cJ3_checkIndex_8e157 15 = .ok (.athrow, 1) := by decide +kernel
theorem dJ3_checkIndex_8e157_16 : decode cJ3_checkIndex_8e157 16 = .ok (.iload_n 0, 1) := by decide +kernel
theorem dJ3_checkIndex_8e157_17 : decode cJ3_checkIndex_8e157 17 = .ok (.ireturn, 1) := by decide +kernel
