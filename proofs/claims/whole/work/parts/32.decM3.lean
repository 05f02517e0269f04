theorem d_M_onesAhead_42 : decode b_M_onesAhead 42 = .ok (.invokestatic 38, 3) := by decide +kernel
theorem d_M_onesAhead_45 : decode b_M_onesAhead 45 = .ok (.iload_n 3, 1) := by decide +kernel
theorem d_M_onesAhead_46 : decode b_M_onesAhead 46 = .ok (.aload_n 0, 1) := by decide +kernel
theorem d_M_onesAhead_47 : decode b_M_onesAhead 47 = .ok (.getfield 13, 3) := by decide +kernel
theorem d_M_onesAhead_50 : decode b_M_onesAhead 50 = .ok (.iload_n 1, 1) := by decide +kernel
theorem d_M_onesAhead_51 : decode b_M_onesAhead 51 = .ok (.iaload, 1) := by decide +kernel
theorem d_M_onesAhead_52 : decode b_M_onesAhead 52 = .ok (.idiv, 1) := by decide +kernel
theorem d_M_onesAhead_53 : decode b_M_onesAhead 53 = .ok (.aload_n 0, 1) := by decide +kernel
theorem d_M_onesAhead_54 : decode b_M_onesAhead 54 = .ok (.iload_n 1, 1) := by decide +kernel
theorem d_M_onesAhead_55 : decode b_M_onesAhead 55 = .ok (.invokevirtual 56, 3) := by decide +kernel
theorem d_M_onesAhead_58 : decode b_M_onesAhead 58 = .ok (.imul, 1) := by decide +kernel
theorem d_M_onesAhead_59 : decode b_M_onesAhead 59 = .ok (.iadd, 1) := by decide +kernel
theorem d_M_onesAhead_60 : decode b_M_onesAhead 60 = .ok (.aload_n 0, 1) := by decide +kernel
theorem d_M_onesAhead_61 : decode b_M_onesAhead 61 = .ok (.getfield 20, 3) := by decide +kernel
theorem d_M_onesAhead_64 : decode b_M_onesAhead 64 = .ok (.iload_n 1, 1) := by decide +kernel
theorem d_M_onesAhead_65 : decode b_M_onesAhead 65 = .ok (.laload, 1) := by decide +kernel
theorem d_M_onesAhead_66 : decode b_M_onesAhead 66 = .ok (.iload_n 3, 1) := by decide +kernel
theorem d_M_onesAhead_67 : decode b_M_onesAhead 67 = .ok (.aload_n 0, 1) := by decide +kernel
theorem d_M_onesAhead_68 : decode b_M_onesAhead 68 = .ok (.getfield 13, 3) := by decide +kernel
theorem d_M_onesAhead_71 : decode b_M_onesAhead 71 = .ok (.iload_n 1, 1) := by decide +kernel
theorem d_M_onesAhead_72 : decode b_M_onesAhead 72 = .ok (.iaload, 1) := by decide +kernel
theorem d_M_onesAhead_73 : decode b_M_onesAhead 73 = .ok (.irem, 1) := by decide +kernel
theorem d_M_onesAhead_74 : decode b_M_onesAhead 74 = .ok (.invokestatic 38, 3) := by decide +kernel
theorem d_M_onesAhead_77 : decode b_M_onesAhead 77 = .ok (.iadd, 1) := by decide +kernel
theorem d_M_onesAhead_78 : decode b_M_onesAhead 78 = .ok (.ireturn, 1) := by decide +kernel
theorem d_M_ones_0 : decode b_M_ones 0 = .ok (.aload_n 0, 1) := by decide +kernel
theorem d_M_ones_1 : decode b_M_ones 1 = .ok (.iconst 0, 1) := by decide +kernel
theorem d_M_ones_2 : decode b_M_ones 2 = .ok (.putfield 27, 3) := by decide +kernel
theorem d_M_ones_5 : decode b_M_ones 5 = .ok (.aload_n 0, 1) := by decide +kernel
theorem d_M_ones_6 : decode b_M_ones 6 = .ok (.iload_n 1, 1) := by decide +kernel
theorem d_M_ones_7 : decode b_M_ones 7 = .ok (.invokevirtual 60, 3) := by decide +kernel
theorem d_M_ones_10 : decode b_M_ones 10 = .ok (.ifCond .eq 22, 3) := by decide +kernel
theorem d_M_ones_13 : decode b_M_ones 13 = .ok (.iload_n 2, 1) := by decide +kernel
theorem d_M_ones_14 : decode b_M_ones 14 = .ok (.iconst 0, 1) := by decide +kernel
theorem d_M_ones_15 : decode b_M_ones 15 = .ok (.ldc 90, 2) := by decide +kernel
theorem d_M_ones_17 : decode b_M_ones 17 = .ok (.invokestatic 34, 3) := by decide +kernel
theorem d_M_ones_20 : decode b_M_ones 20 = .ok (.ifCond .eq 12, 3) := by decide +kernel
theorem d_M_ones_23 : decode b_M_ones 23 = .ok (.aload_n 0, 1) := by decide +kernel
theorem d_M_ones_24 : decode b_M_ones 24 = .ok (.iload_n 1, 1) := by decide +kernel
theorem d_M_ones_25 : decode b_M_ones 25 = .ok (.iload_n 2, 1) := by decide +kernel
theorem d_M_ones_26 : decode b_M_ones 26 = .ok (.invokevirtual 91, 3) := by decide +kernel
theorem d_M_ones_29 : decode b_M_ones 29 = .ok (.goto 4, 3) := by decide +kernel
theorem d_M_ones_32 : decode b_M_ones 32 = .ok (.iconst (-1), 1) := by decide +kernel
theorem d_M_ones_33 : decode b_M_ones 33 = .ok (.ireturn, 1) := by decide +kernel
theorem d_M_place_0 : decode b_M_place 0 = .ok (.iconst 0, 1) := by decide +kernel
theorem d_M_place_1 : decode b_M_place 1 = .ok (.istore_n 3, 1) := by decide +kernel
theorem d_M_place_2 : decode b_M_place 2 = .ok (.iload_n 2, 1) := by decide +kernel
theorem d_M_place_3 : decode b_M_place 3 = .ok (.istore 4, 2) := by decide +kernel
theorem d_M_place_5 : decode b_M_place 5 = .ok (.aload_n 0, 1) := by decide +kernel
theorem d_M_place_6 : decode b_M_place 6 = .ok (.getfield 16, 3) := by decide +kernel
theorem d_M_place_9 : decode b_M_place 9 = .ok (.iload_n 1, 1) := by decide +kernel
theorem d_M_place_10 : decode b_M_place 10 = .ok (.laload, 1) := by decide +kernel
theorem d_M_place_11 : decode b_M_place 11 = .ok (.aload_n 0, 1) := by decide +kernel
theorem d_M_place_12 : decode b_M_place 12 = .ok (.getfield 7, 3) := by decide +kernel
theorem d_M_place_15 : decode b_M_place 15 = .ok (.iload_n 1, 1) := by decide +kernel
theorem d_M_place_16 : decode b_M_place 16 = .ok (.iaload, 1) := by decide +kernel
theorem d_M_place_17 : decode b_M_place 17 = .ok (.invokestatic 38, 3) := by decide +kernel
theorem d_M_place_20 : decode b_M_place 20 = .ok (.istore 5, 2) := by decide +kernel
theorem d_M_place_22 : decode b_M_place 22 = .ok (.iload 4, 2) := by decide +kernel
theorem d_M_place_24 : decode b_M_place 24 = .ok (.iload 5, 2) := by decide +kernel
theorem d_M_place_26 : decode b_M_place 26 = .ok (.if_icmp .le 59, 3) := by decide +kernel
theorem d_M_place_29 : decode b_M_place 29 = .ok (.aload_n 0, 1) := by decide +kernel
theorem d_M_place_30 : decode b_M_place 30 = .ok (.iload_n 1, 1) := by decide +kernel
theorem d_M_place_31 : decode b_M_place 31 = .ok (.invokevirtual 56, 3) := by decide +kernel
theorem d_M_place_34 : decode b_M_place 34 = .ok (.istore 6, 2) := by decide +kernel
theorem d_M_place_36 : decode b_M_place 36 = .ok (.iload 6, 2) := by decide +kernel
theorem d_M_place_38 : decode b_M_place 38 = .ok (.ifCond .ne 5, 3) := by decide +kernel
theorem d_M_place_41 : decode b_M_place 41 = .ok (.iconst (-1), 1) := by decide +kernel
theorem d_M_place_42 : decode b_M_place 42 = .ok (.ireturn, 1) := by decide +kernel
theorem d_M_place_43 : decode b_M_place 43 = .ok (.iload 4, 2) := by decide +kernel
theorem d_M_place_45 : decode b_M_place 45 = .ok (.iload 5, 2) := by decide +kernel
theorem d_M_place_47 : decode b_M_place 47 = .ok (.isub, 1) := by decide +kernel
theorem d_M_place_48 : decode b_M_place 48 = .ok (.iconst 1, 1) := by decide +kernel
theorem d_M_place_49 : decode b_M_place 49 = .ok (.isub, 1) := by decide +kernel
theorem d_M_place_50 : decode b_M_place 50 = .ok (.iload 6, 2) := by decide +kernel
theorem d_M_place_52 : decode b_M_place 52 = .ok (.idiv, 1) := by decide +kernel
theorem d_M_place_53 : decode b_M_place 53 = .ok (.istore 7, 2) := by decide +kernel
theorem d_M_place_55 : decode b_M_place 55 = .ok (.iload 4, 2) := by decide +kernel
theorem d_M_place_57 : decode b_M_place 57 = .ok (.iload 5, 2) := by decide +kernel
theorem d_M_place_59 : decode b_M_place 59 = .ok (.iload 7, 2) := by decide +kernel
theorem d_M_place_61 : decode b_M_place 61 = .ok (.iload 6, 2) := by decide +kernel
theorem d_M_place_63 : decode b_M_place 63 = .ok (.imul, 1) := by decide +kernel
theorem d_M_place_64 : decode b_M_place 64 = .ok (.iadd, 1) := by decide +kernel
theorem d_M_place_65 : decode b_M_place 65 = .ok (.isub, 1) := by decide +kernel
theorem d_M_place_66 : decode b_M_place 66 = .ok (.istore 4, 2) := by decide +kernel
theorem d_M_place_68 : decode b_M_place 68 = .ok (.aload_n 0, 1) := by decide +kernel
theorem d_M_place_69 : decode b_M_place 69 = .ok (.getfield 7, 3) := by decide +kernel
theorem d_M_place_72 : decode b_M_place 72 = .ok (.iload_n 1, 1) := by decide +kernel
theorem d_M_place_73 : decode b_M_place 73 = .ok (.iaload, 1) := by decide +kernel
theorem d_M_place_74 : decode b_M_place 74 = .ok (.iload 7, 2) := by decide +kernel
theorem d_M_place_76 : decode b_M_place 76 = .ok (.aload_n 0, 1) := by decide +kernel
theorem d_M_place_77 : decode b_M_place 77 = .ok (.getfield 13, 3) := by decide +kernel
theorem d_M_place_80 : decode b_M_place 80 = .ok (.iload_n 1, 1) := by decide +kernel
theorem d_M_place_81 : decode b_M_place 81 = .ok (.iaload, 1) := by decide +kernel
theorem d_M_place_82 : decode b_M_place 82 = .ok (.imul, 1) := by decide +kernel
theorem d_M_place_83 : decode b_M_place 83 = .ok (.iadd, 1) := by decide +kernel
theorem d_M_place_84 : decode b_M_place 84 = .ok (.istore_n 3, 1) := by decide +kernel
theorem d_M_place_85 : decode b_M_place 85 = .ok (.iload 4, 2) := by decide +kernel
theorem d_M_place_87 : decode b_M_place 87 = .ok (.aload_n 0, 1) := by decide +kernel
theorem d_M_place_88 : decode b_M_place 88 = .ok (.iload_n 1, 1) := by decide +kernel
theorem d_M_place_89 : decode b_M_place 89 = .ok (.iload_n 3, 1) := by decide +kernel
theorem d_M_place_90 : decode b_M_place 90 = .ok (.invokevirtual 52, 3) := by decide +kernel
theorem d_M_place_93 : decode b_M_place 93 = .ok (.ifCond .eq 7, 3) := by decide +kernel
theorem d_M_place_96 : decode b_M_place 96 = .ok (.iconst 1, 1) := by decide +kernel
theorem d_M_place_97 : decode b_M_place 97 = .ok (.goto 4, 3) := by decide +kernel
theorem d_M_place_100 : decode b_M_place 100 = .ok (.iconst 0, 1) := by decide +kernel
theorem d_M_place_101 : decode b_M_place 101 = .ok (.isub, 1) := by decide +kernel
theorem d_M_place_102 : decode b_M_place 102 = .ok (.istore 4, 2) := by decide +kernel
theorem d_M_place_104 : decode b_M_place 104 = .ok (.iload 4, 2) := by decide +kernel
theorem d_M_place_106 : decode b_M_place 106 = .ok (.ifCond .ne 5, 3) := by decide +kernel
theorem d_M_place_109 : decode b_M_place 109 = .ok (.iload_n 3, 1) := by decide +kernel
theorem d_M_place_110 : decode b_M_place 110 = .ok (.ireturn, 1) := by decide +kernel
theorem d_M_place_111 : decode b_M_place 111 = .ok (.iinc 3 1, 3) := by decide +kernel
theorem d_M_place_114 : decode b_M_place 114 = .ok (.goto (-29), 3) := by decide +kernel
theorem d_M_at_0 : decode b_M_at 0 = .ok (.aload_n 0, 1) := by decide +kernel
theorem d_M_at_1 : decode b_M_at 1 = .ok (.iconst 0, 1) := by decide +kernel
theorem d_M_at_2 : decode b_M_at 2 = .ok (.putfield 27, 3) := by decide +kernel
theorem d_M_at_5 : decode b_M_at 5 = .ok (.aload_n 0, 1) := by decide +kernel
theorem d_M_at_6 : decode b_M_at 6 = .ok (.iload_n 1, 1) := by decide +kernel
theorem d_M_at_7 : decode b_M_at 7 = .ok (.invokevirtual 60, 3) := by decide +kernel
theorem d_M_at_10 : decode b_M_at 10 = .ok (.ifCond .eq 13, 3) := by decide +kernel
theorem d_M_at_13 : decode b_M_at 13 = .ok (.iload_n 2, 1) := by decide +kernel
theorem d_M_at_14 : decode b_M_at 14 = .ok (.iconst 1, 1) := by decide +kernel
theorem d_M_at_15 : decode b_M_at 15 = .ok (.ldc 94, 2) := by decide +kernel
theorem d_M_at_17 : decode b_M_at 17 = .ok (.invokestatic 34, 3) := by decide +kernel
theorem d_M_at_20 : decode b_M_at 20 = .ok (.ifCond .ne 8, 3) := by decide +kernel
theorem d_M_at_23 : decode b_M_at 23 = .ok (.aload_n 0, 1) := by decide +kernel
theorem d_M_at_24 : decode b_M_at 24 = .ok (.invokevirtual 64, 3) := by decide +kernel
theorem d_M_at_27 : decode b_M_at 27 = .ok (.ireturn, 1) := by decide +kernel
theorem d_M_at_28 : decode b_M_at 28 = .ok (.aload_n 0, 1) := by decide +kernel
theorem d_M_at_29 : decode b_M_at 29 = .ok (.iload_n 1, 1) := by decide +kernel
theorem d_M_at_30 : decode b_M_at 30 = .ok (.iload_n 2, 1) := by decide +kernel
theorem d_M_at_31 : decode b_M_at 31 = .ok (.invokevirtual 95, 3) := by decide +kernel
theorem d_M_at_34 : decode b_M_at 34 = .ok (.istore_n 3, 1) := by decide +kernel
theorem d_M_at_35 : decode b_M_at 35 = .ok (.iload_n 3, 1) := by decide +kernel
theorem d_M_at_36 : decode b_M_at 36 = .ok (.iconst (-1), 1) := by decide +kernel
theorem d_M_at_37 : decode b_M_at 37 = .ok (.if_icmp .ne 10, 3) := by decide +kernel
theorem d_M_at_40 : decode b_M_at 40 = .ok (.aload_n 0, 1) := by decide +kernel
theorem d_M_at_41 : decode b_M_at 41 = .ok (.invokevirtual 64, 3) := by decide +kernel
theorem d_M_at_44 : decode b_M_at 44 = .ok (.goto 4, 3) := by decide +kernel
theorem d_M_at_47 : decode b_M_at 47 = .ok (.iload_n 3, 1) := by decide +kernel
theorem d_M_at_48 : decode b_M_at 48 = .ok (.ireturn, 1) := by decide +kernel
theorem d_M_same_0 : decode b_M_same 0 = .ok (.aload_n 0, 1) := by decide +kernel
theorem d_M_same_1 : decode b_M_same 1 = .ok (.iconst 0, 1) := by decide +kernel
theorem d_M_same_2 : decode b_M_same 2 = .ok (.putfield 27, 3) := by decide +kernel
theorem d_M_same_5 : decode b_M_same 5 = .ok (.aload_n 0, 1) := by decide +kernel
theorem d_M_same_6 : decode b_M_same 6 = .ok (.iload_n 1, 1) := by decide +kernel
theorem d_M_same_7 : decode b_M_same 7 = .ok (.invokevirtual 60, 3) := by decide +kernel
theorem d_M_same_10 : decode b_M_same 10 = .ok (.ifCond .ne 5, 3) := by decide +kernel
theorem d_M_same_13 : decode b_M_same 13 = .ok (.iconst (-1), 1) := by decide +kernel
theorem d_M_same_14 : decode b_M_same 14 = .ok (.ireturn, 1) := by decide +kernel
theorem d_M_same_15 : decode b_M_same 15 = .ok (.iconst 0, 1) := by decide +kernel
theorem d_M_same_16 : decode b_M_same 16 = .ok (.istore_n 2, 1) := by decide +kernel
theorem d_M_same_17 : decode b_M_same 17 = .ok (.aload_n 0, 1) := by decide +kernel
theorem d_M_same_18 : decode b_M_same 18 = .ok (.getfield 7, 3) := by decide +kernel
theorem d_M_same_21 : decode b_M_same 21 = .ok (.iload_n 2, 1) := by decide +kernel
theorem d_M_same_22 : decode b_M_same 22 = .ok (.iaload, 1) := by decide +kernel
theorem d_M_same_23 : decode b_M_same 23 = .ok (.aload_n 0, 1) := by decide +kernel
theorem d_M_same_24 : decode b_M_same 24 = .ok (.getfield 7, 3) := by decide +kernel
theorem d_M_same_27 : decode b_M_same 27 = .ok (.iload_n 1, 1) := by decide +kernel
theorem d_M_same_28 : decode b_M_same 28 = .ok (.iaload, 1) := by decide +kernel
theorem d_M_same_29 : decode b_M_same 29 = .ok (.if_icmp .ne 50, 3) := by decide +kernel
theorem d_M_same_32 : decode b_M_same 32 = .ok (.aload_n 0, 1) := by decide +kernel
theorem d_M_same_33 : decode b_M_same 33 = .ok (.getfield 13, 3) := by decide +kernel
theorem d_M_same_36 : decode b_M_same 36 = .ok (.iload_n 2, 1) := by decide +kernel
theorem d_M_same_37 : decode b_M_same 37 = .ok (.iaload, 1) := by decide +kernel
theorem d_M_same_38 : decode b_M_same 38 = .ok (.aload_n 0, 1) := by decide +kernel
theorem d_M_same_39 : decode b_M_same 39 = .ok (.getfield 13, 3) := by decide +kernel
theorem d_M_same_42 : decode b_M_same 42 = .ok (.iload_n 1, 1) := by decide +kernel
theorem d_M_same_43 : decode b_M_same 43 = .ok (.iaload, 1) := by decide +kernel
theorem d_M_same_44 : decode b_M_same 44 = .ok (.if_icmp .ne 35, 3) := by decide +kernel
theorem d_M_same_47 : decode b_M_same 47 = .ok (.aload_n 0, 1) := by decide +kernel
theorem d_M_same_48 : decode b_M_same 48 = .ok (.getfield 16, 3) := by decide +kernel
theorem d_M_same_51 : decode b_M_same 51 = .ok (.iload_n 2, 1) := by decide +kernel
theorem d_M_same_52 : decode b_M_same 52 = .ok (.laload, 1) := by decide +kernel
theorem d_M_same_53 : decode b_M_same 53 = .ok (.aload_n 0, 1) := by decide +kernel
theorem d_M_same_54 : decode b_M_same 54 = .ok (.getfield 16, 3) := by decide +kernel
theorem d_M_same_57 : decode b_M_same 57 = .ok (.iload_n 1, 1) := by decide +kernel
theorem d_M_same_58 : decode b_M_same 58 = .ok (.laload, 1) := by decide +kernel
theorem d_M_same_59 : decode b_M_same 59 = .ok (.lcmp, 1) := by decide +kernel
theorem d_M_same_60 : decode b_M_same 60 = .ok (.ifCond .ne 19, 3) := by decide +kernel
theorem d_M_same_63 : decode b_M_same 63 = .ok (.aload_n 0, 1) := by decide +kernel
theorem d_M_same_64 : decode b_M_same 64 = .ok (.getfield 20, 3) := by decide +kernel
theorem d_M_same_67 : decode b_M_same 67 = .ok (.iload_n 2, 1) := by decide +kernel
theorem d_M_same_68 : decode b_M_same 68 = .ok (.laload, 1) := by decide +kernel
theorem d_M_same_69 : decode b_M_same 69 = .ok (.aload_n 0, 1) := by decide +kernel
theorem d_M_same_70 : decode b_M_same 70 = .ok (.getfield 20, 3) := by decide +kernel
theorem d_M_same_73 : decode b_M_same 73 = .ok (.iload_n 1, 1) := by decide +kernel
theorem d_M_same_74 : decode b_M_same 74 = .ok (.laload, 1) := by decide +kernel
theorem d_M_same_75 : decode b_M_same 75 = .ok (.lcmp, 1) := by decide +kernel
theorem d_M_same_76 : decode b_M_same 76 = .ok (.ifCond .eq 9, 3) := by decide +kernel
theorem d_M_same_79 : decode b_M_same 79 = .ok (.iinc 2 1, 3) := by decide +kernel
theorem d_M_same_82 : decode b_M_same 82 = .ok (.goto (-65), 3) := by decide +kernel
theorem d_M_same_85 : decode b_M_same 85 = .ok (.iload_n 2, 1) := by decide +kernel
theorem d_M_same_86 : decode b_M_same 86 = .ok (.ireturn, 1) := by decide +kernel
theorem d_M_rates_0 : decode b_M_rates 0 = .ok (.aload_n 0, 1) := by decide +kernel
theorem d_M_rates_1 : decode b_M_rates 1 = .ok (.iload_n 1, 1) := by decide +kernel
theorem d_M_rates_2 : decode b_M_rates 2 = .ok (.invokevirtual 56, 3) := by decide +kernel
theorem d_M_rates_5 : decode b_M_rates 5 = .ok (.aload_n 0, 1) := by decide +kernel
theorem d_M_rates_6 : decode b_M_rates 6 = .ok (.getfield 13, 3) := by decide +kernel
theorem d_M_rates_9 : decode b_M_rates 9 = .ok (.iload_n 2, 1) := by decide +kernel
theorem d_M_rates_10 : decode b_M_rates 10 = .ok (.iaload, 1) := by decide +kernel
theorem d_M_rates_11 : decode b_M_rates 11 = .ok (.imul, 1) := by decide +kernel
theorem d_M_rates_12 : decode b_M_rates 12 = .ok (.aload_n 0, 1) := by decide +kernel
theorem d_M_rates_13 : decode b_M_rates 13 = .ok (.iload_n 2, 1) := by decide +kernel
theorem d_M_rates_14 : decode b_M_rates 14 = .ok (.invokevirtual 56, 3) := by decide +kernel
theorem d_M_rates_17 : decode b_M_rates 17 = .ok (.aload_n 0, 1) := by decide +kernel
theorem d_M_rates_18 : decode b_M_rates 18 = .ok (.getfield 13, 3) := by decide +kernel
theorem d_M_rates_21 : decode b_M_rates 21 = .ok (.iload_n 1, 1) := by decide +kernel
theorem d_M_rates_22 : decode b_M_rates 22 = .ok (.iaload, 1) := by decide +kernel
theorem d_M_rates_23 : decode b_M_rates 23 = .ok (.imul, 1) := by decide +kernel
theorem d_M_rates_24 : decode b_M_rates 24 = .ok (.isub, 1) := by decide +kernel
theorem d_M_rates_25 : decode b_M_rates 25 = .ok (.ireturn, 1) := by decide +kernel
theorem d_M_till_0 : decode b_M_till 0 = .ok (.aload_n 0, 1) := by decide +kernel
theorem d_M_till_1 : decode b_M_till 1 = .ok (.getfield 7, 3) := by decide +kernel
theorem d_M_till_4 : decode b_M_till 4 = .ok (.iload_n 1, 1) := by decide +kernel
theorem d_M_till_5 : decode b_M_till 5 = .ok (.iaload, 1) := by decide +kernel
theorem d_M_till_6 : decode b_M_till 6 = .ok (.aload_n 0, 1) := by decide +kernel
theorem d_M_till_7 : decode b_M_till 7 = .ok (.getfield 7, 3) := by decide +kernel
theorem d_M_till_10 : decode b_M_till 10 = .ok (.iload_n 2, 1) := by decide +kernel
theorem d_M_till_11 : decode b_M_till 11 = .ok (.iaload, 1) := by decide +kernel
theorem d_M_till_12 : decode b_M_till 12 = .ok (.invokestatic 49, 3) := by decide +kernel
theorem d_M_till_15 : decode b_M_till 15 = .ok (.aload_n 0, 1) := by decide +kernel
theorem d_M_till_16 : decode b_M_till 16 = .ok (.getfield 13, 3) := by decide +kernel
theorem d_M_till_19 : decode b_M_till 19 = .ok (.iload_n 1, 1) := by decide +kernel
theorem d_M_till_20 : decode b_M_till 20 = .ok (.iaload, 1) := by decide +kernel
theorem d_M_till_21 : decode b_M_till 21 = .ok (.aload_n 0, 1) := by decide +kernel
theorem d_M_till_22 : decode b_M_till 22 = .ok (.getfield 13, 3) := by decide +kernel
theorem d_M_till_25 : decode b_M_till 25 = .ok (.iload_n 2, 1) := by decide +kernel
theorem d_M_till_26 : decode b_M_till 26 = .ok (.iaload, 1) := by decide +kernel
theorem d_M_till_27 : decode b_M_till 27 = .ok (.imul, 1) := by decide +kernel
theorem d_M_till_28 : decode b_M_till 28 = .ok (.iadd, 1) := by decide +kernel
theorem d_M_till_29 : decode b_M_till 29 = .ok (.ireturn, 1) := by decide +kernel
theorem d_M_keep_0 : decode b_M_keep 0 = .ok (.aload_n 0, 1) := by decide +kernel
theorem d_M_keep_1 : decode b_M_keep 1 = .ok (.iconst 0, 1) := by decide +kernel
theorem d_M_keep_2 : decode b_M_keep 2 = .ok (.putfield 98, 3) := by decide +kernel
theorem d_M_keep_5 : decode b_M_keep 5 = .ok (.aload_n 0, 1) := by decide +kernel
theorem d_M_keep_6 : decode b_M_keep 6 = .ok (.iconst 0, 1) := by decide +kernel
theorem d_M_keep_7 : decode b_M_keep 7 = .ok (.putfield 101, 3) := by decide +kernel
theorem d_M_keep_10 : decode b_M_keep 10 = .ok (.iconst 0, 1) := by decide +kernel
theorem d_M_keep_11 : decode b_M_keep 11 = .ok (.istore_n 3, 1) := by decide +kernel
theorem d_M_keep_12 : decode b_M_keep 12 = .ok (.iconst 0, 1) := by decide +kernel
theorem d_M_keep_13 : decode b_M_keep 13 = .ok (.istore 4, 2) := by decide +kernel
theorem d_M_keep_15 : decode b_M_keep 15 = .ok (.iload 4, 2) := by decide +kernel
theorem d_M_keep_17 : decode b_M_keep 17 = .ok (.aload_n 0, 1) := by decide +kernel
theorem d_M_keep_18 : decode b_M_keep 18 = .ok (.iload_n 1, 1) := by decide +kernel
theorem d_M_keep_19 : decode b_M_keep 19 = .ok (.iload_n 2, 1) := by decide +kernel
theorem d_M_keep_20 : decode b_M_keep 20 = .ok (.invokevirtual 104, 3) := by decide +kernel
theorem d_M_keep_23 : decode b_M_keep 23 = .ok (.if_icmp .ge 83, 3) := by decide +kernel
theorem d_M_keep_26 : decode b_M_keep 26 = .ok (.iload_n 3, 1) := by decide +kernel
theorem d_M_keep_27 : decode b_M_keep 27 = .ok (.aload_n 0, 1) := by decide +kernel
theorem d_M_keep_28 : decode b_M_keep 28 = .ok (.iload_n 1, 1) := by decide +kernel
theorem d_M_keep_29 : decode b_M_keep 29 = .ok (.iload 4, 2) := by decide +kernel
theorem d_M_keep_31 : decode b_M_keep 31 = .ok (.invokevirtual 52, 3) := by decide +kernel
theorem d_M_keep_34 : decode b_M_keep 34 = .ok (.ifCond .eq 7, 3) := by decide +kernel
theorem d_M_keep_37 : decode b_M_keep 37 = .ok (.iconst 1, 1) := by decide +kernel
theorem d_M_keep_38 : decode b_M_keep 38 = .ok (.goto 4, 3) := by decide +kernel
theorem d_M_keep_41 : decode b_M_keep 41 = .ok (.iconst 0, 1) := by decide +kernel
theorem d_M_keep_42 : decode b_M_keep 42 = .ok (.aload_n 0, 1) := by decide +kernel
theorem d_M_keep_43 : decode b_M_keep 43 = .ok (.iload_n 2, 1) := by decide +kernel
theorem d_M_keep_44 : decode b_M_keep 44 = .ok (.iload 4, 2) := by decide +kernel
theorem d_M_keep_46 : decode b_M_keep 46 = .ok (.invokevirtual 52, 3) := by decide +kernel
theorem d_M_keep_49 : decode b_M_keep 49 = .ok (.ifCond .eq 7, 3) := by decide +kernel
theorem d_M_keep_52 : decode b_M_keep 52 = .ok (.iconst 1, 1) := by decide +kernel
theorem d_M_keep_53 : decode b_M_keep 53 = .ok (.goto 4, 3) := by decide +kernel
theorem d_M_keep_56 : decode b_M_keep 56 = .ok (.iconst 0, 1) := by decide +kernel
theorem d_M_keep_57 : decode b_M_keep 57 = .ok (.isub, 1) := by decide +kernel
theorem d_M_keep_58 : decode b_M_keep 58 = .ok (.iadd, 1) := by decide +kernel
theorem d_M_keep_59 : decode b_M_keep 59 = .ok (.istore_n 3, 1) := by decide +kernel
theorem d_M_keep_60 : decode b_M_keep 60 = .ok (.aload_n 0, 1) := by decide +kernel
theorem d_M_keep_61 : decode b_M_keep 61 = .ok (.iload_n 3, 1) := by decide +kernel
theorem d_M_keep_62 : decode b_M_keep 62 = .ok (.aload_n 0, 1) := by decide +kernel
theorem d_M_keep_63 : decode b_M_keep 63 = .ok (.getfield 98, 3) := by decide +kernel
theorem d_M_keep_66 : decode b_M_keep 66 = .ok (.if_icmp .le 7, 3) := by decide +kernel
theorem d_M_keep_69 : decode b_M_keep 69 = .ok (.iload_n 3, 1) := by decide +kernel
theorem d_M_keep_70 : decode b_M_keep 70 = .ok (.goto 7, 3) := by decide +kernel
theorem d_M_keep_73 : decode b_M_keep 73 = .ok (.aload_n 0, 1) := by decide +kernel
theorem d_M_keep_74 : decode b_M_keep 74 = .ok (.getfield 98, 3) := by decide +kernel
theorem d_M_keep_77 : decode b_M_keep 77 = .ok (.putfield 98, 3) := by decide +kernel
theorem d_M_keep_80 : decode b_M_keep 80 = .ok (.aload_n 0, 1) := by decide +kernel
theorem d_M_keep_81 : decode b_M_keep 81 = .ok (.iload_n 3, 1) := by decide +kernel
theorem d_M_keep_82 : decode b_M_keep 82 = .ok (.aload_n 0, 1) := by decide +kernel
theorem d_M_keep_83 : decode b_M_keep 83 = .ok (.getfield 101, 3) := by decide +kernel
theorem d_M_keep_86 : decode b_M_keep 86 = .ok (.if_icmp .ge 7, 3) := by decide +kernel
theorem d_M_keep_89 : decode b_M_keep 89 = .ok (.iload_n 3, 1) := by decide +kernel
theorem d_M_keep_90 : decode b_M_keep 90 = .ok (.goto 7, 3) := by decide +kernel
theorem d_M_keep_93 : decode b_M_keep 93 = .ok (.aload_n 0, 1) := by decide +kernel
theorem d_M_keep_94 : decode b_M_keep 94 = .ok (.getfield 101, 3) := by decide +kernel
theorem d_M_keep_97 : decode b_M_keep 97 = .ok (.putfield 101, 3) := by decide +kernel
theorem d_M_keep_100 : decode b_M_keep 100 = .ok (.iinc 4 1, 3) := by decide +kernel
theorem d_M_keep_103 : decode b_M_keep 103 = .ok (.goto (-88), 3) := by decide +kernel
theorem d_M_keep_106 : decode b_M_keep 106 = .ok (.return_, 1) := by decide +kernel
theorem d_M_ahead_0 : decode b_M_ahead 0 = .ok (.aload_n 0, 1) := by decide +kernel
theorem d_M_ahead_1 : decode b_M_ahead 1 = .ok (.iconst 0, 1) := by decide +kernel
theorem d_M_ahead_2 : decode b_M_ahead 2 = .ok (.putfield 27, 3) := by decide +kernel
theorem d_M_ahead_5 : decode b_M_ahead 5 = .ok (.aload_n 0, 1) := by decide +kernel
theorem d_M_ahead_6 : decode b_M_ahead 6 = .ok (.iload_n 1, 1) := by decide +kernel
theorem d_M_ahead_7 : decode b_M_ahead 7 = .ok (.invokevirtual 60, 3) := by decide +kernel
theorem d_M_ahead_10 : decode b_M_ahead 10 = .ok (.ifCond .eq 20, 3) := by decide +kernel
theorem d_M_ahead_13 : decode b_M_ahead 13 = .ok (.aload_n 0, 1) := by decide +kernel
theorem d_M_ahead_14 : decode b_M_ahead 14 = .ok (.iload_n 2, 1) := by decide +kernel
theorem d_M_ahead_15 : decode b_M_ahead 15 = .ok (.invokevirtual 60, 3) := by decide +kernel
theorem d_M_ahead_18 : decode b_M_ahead 18 = .ok (.ifCond .eq 12, 3) := by decide +kernel
theorem d_M_ahead_21 : decode b_M_ahead 21 = .ok (.aload_n 0, 1) := by decide +kernel
theorem d_M_ahead_22 : decode b_M_ahead 22 = .ok (.iload_n 1, 1) := by decide +kernel
theorem d_M_ahead_23 : decode b_M_ahead 23 = .ok (.iload_n 2, 1) := by decide +kernel
theorem d_M_ahead_24 : decode b_M_ahead 24 = .ok (.invokevirtual 107, 3) := by decide +kernel
theorem d_M_ahead_27 : decode b_M_ahead 27 = .ok (.ifCond .ge 5, 3) := by decide +kernel
theorem d_M_ahead_30 : decode b_M_ahead 30 = .ok (.iconst 0, 1) := by decide +kernel
theorem d_M_ahead_31 : decode b_M_ahead 31 = .ok (.ireturn, 1) := by decide +kernel
theorem d_M_ahead_32 : decode b_M_ahead 32 = .ok (.aload_n 0, 1) := by decide +kernel
theorem d_M_ahead_33 : decode b_M_ahead 33 = .ok (.iload_n 1, 1) := by decide +kernel
theorem d_M_ahead_34 : decode b_M_ahead 34 = .ok (.iload_n 2, 1) := by decide +kernel
theorem d_M_ahead_35 : decode b_M_ahead 35 = .ok (.invokevirtual 110, 3) := by decide +kernel
theorem d_M_ahead_38 : decode b_M_ahead 38 = .ok (.aload_n 0, 1) := by decide +kernel
theorem d_M_ahead_39 : decode b_M_ahead 39 = .ok (.getfield 101, 3) := by decide +kernel
theorem d_M_ahead_42 : decode b_M_ahead 42 = .ok (.ifCond .ne 7, 3) := by decide +kernel
theorem d_M_ahead_45 : decode b_M_ahead 45 = .ok (.iconst 1, 1) := by decide +kernel
theorem d_M_ahead_46 : decode b_M_ahead 46 = .ok (.goto 4, 3) := by decide +kernel
theorem d_M_ahead_49 : decode b_M_ahead 49 = .ok (.iconst 0, 1) := by decide +kernel
theorem d_M_ahead_50 : decode b_M_ahead 50 = .ok (.ireturn, 1) := by decide +kernel
theorem d_M_waiting_0 : decode b_M_waiting 0 = .ok (.aload_n 0, 1) := by decide +kernel
theorem d_M_waiting_1 : decode b_M_waiting 1 = .ok (.iload_n 1, 1) := by decide +kernel
theorem d_M_waiting_2 : decode b_M_waiting 2 = .ok (.iload_n 2, 1) := by decide +kernel
theorem d_M_waiting_3 : decode b_M_waiting 3 = .ok (.invokevirtual 107, 3) := by decide +kernel
theorem d_M_waiting_6 : decode b_M_waiting 6 = .ok (.ifCond .ge 5, 3) := by decide +kernel
theorem d_M_waiting_9 : decode b_M_waiting 9 = .ok (.iconst (-1), 1) := by decide +kernel
theorem d_M_waiting_10 : decode b_M_waiting 10 = .ok (.ireturn, 1) := by decide +kernel
theorem d_M_waiting_11 : decode b_M_waiting 11 = .ok (.iconst 0, 1) := by decide +kernel
theorem d_M_waiting_12 : decode b_M_waiting 12 = .ok (.istore_n 3, 1) := by decide +kernel
theorem d_M_waiting_13 : decode b_M_waiting 13 = .ok (.bipush 61, 2) := by decide +kernel
theorem d_M_waiting_15 : decode b_M_waiting 15 = .ok (.aload_n 0, 1) := by decide +kernel
theorem d_M_waiting_16 : decode b_M_waiting 16 = .ok (.iload_n 2, 1) := by decide +kernel
theorem d_M_waiting_17 : decode b_M_waiting 17 = .ok (.invokevirtual 56, 3) := by decide +kernel
theorem d_M_waiting_20 : decode b_M_waiting 20 = .ok (.aload_n 0, 1) := by decide +kernel
theorem d_M_waiting_21 : decode b_M_waiting 21 = .ok (.getfield 13, 3) := by decide +kernel
theorem d_M_waiting_24 : decode b_M_waiting 24 = .ok (.iload_n 1, 1) := by decide +kernel
theorem d_M_waiting_25 : decode b_M_waiting 25 = .ok (.iaload, 1) := by decide +kernel
theorem d_M_waiting_26 : decode b_M_waiting 26 = .ok (.imul, 1) := by decide +kernel
theorem d_M_waiting_27 : decode b_M_waiting 27 = .ok (.iadd, 1) := by decide +kernel
theorem d_M_waiting_28 : decode b_M_waiting 28 = .ok (.istore 4, 2) := by decide +kernel
theorem d_M_waiting_30 : decode b_M_waiting 30 = .ok (.iconst 1, 1) := by decide +kernel
theorem d_M_waiting_31 : decode b_M_waiting 31 = .ok (.istore 5, 2) := by decide +kernel
theorem d_M_waiting_33 : decode b_M_waiting 33 = .ok (.iload 5, 2) := by decide +kernel
theorem d_M_waiting_35 : decode b_M_waiting 35 = .ok (.iload 4, 2) := by decide +kernel
theorem d_M_waiting_37 : decode b_M_waiting 37 = .ok (.if_icmp .gt 53, 3) := by decide +kernel
theorem d_M_waiting_40 : decode b_M_waiting 40 = .ok (.aload_n 0, 1) := by decide +kernel
theorem d_M_waiting_41 : decode b_M_waiting 41 = .ok (.iload_n 2, 1) := by decide +kernel
theorem d_M_waiting_42 : decode b_M_waiting 42 = .ok (.iload 5, 2) := by decide +kernel
theorem d_M_waiting_44 : decode b_M_waiting 44 = .ok (.invokevirtual 95, 3) := by decide +kernel
theorem d_M_waiting_47 : decode b_M_waiting 47 = .ok (.istore 6, 2) := by decide +kernel
theorem d_M_waiting_49 : decode b_M_waiting 49 = .ok (.iload 6, 2) := by decide +kernel
theorem d_M_waiting_51 : decode b_M_waiting 51 = .ok (.iconst (-1), 1) := by decide +kernel
theorem d_M_waiting_52 : decode b_M_waiting 52 = .ok (.if_icmp .ne 5, 3) := by decide +kernel
theorem d_M_waiting_55 : decode b_M_waiting 55 = .ok (.iload_n 3, 1) := by decide +kernel
theorem d_M_waiting_56 : decode b_M_waiting 56 = .ok (.ireturn, 1) := by decide +kernel
theorem d_M_waiting_57 : decode b_M_waiting 57 = .ok (.aload_n 0, 1) := by decide +kernel
theorem d_M_waiting_58 : decode b_M_waiting 58 = .ok (.iload_n 1, 1) := by decide +kernel
theorem d_M_waiting_59 : decode b_M_waiting 59 = .ok (.iload 5, 2) := by decide +kernel
theorem d_M_waiting_61 : decode b_M_waiting 61 = .ok (.invokevirtual 95, 3) := by decide +kernel
theorem d_M_waiting_64 : decode b_M_waiting 64 = .ok (.istore 7, 2) := by decide +kernel
theorem d_M_waiting_66 : decode b_M_waiting 66 = .ok (.iload 7, 2) := by decide +kernel
theorem d_M_waiting_68 : decode b_M_waiting 68 = .ok (.iconst (-1), 1) := by decide +kernel
theorem d_M_waiting_69 : decode b_M_waiting 69 = .ok (.if_icmp .ne 5, 3) := by decide +kernel
theorem d_M_waiting_72 : decode b_M_waiting 72 = .ok (.iconst (-1), 1) := by decide +kernel
theorem d_M_waiting_73 : decode b_M_waiting 73 = .ok (.ireturn, 1) := by decide +kernel
theorem d_M_waiting_74 : decode b_M_waiting 74 = .ok (.iload_n 3, 1) := by decide +kernel
theorem d_M_waiting_75 : decode b_M_waiting 75 = .ok (.iload 7, 2) := by decide +kernel
theorem d_M_waiting_77 : decode b_M_waiting 77 = .ok (.iload 6, 2) := by decide +kernel
theorem d_M_waiting_79 : decode b_M_waiting 79 = .ok (.isub, 1) := by decide +kernel
theorem d_M_waiting_80 : decode b_M_waiting 80 = .ok (.invokestatic 49, 3) := by decide +kernel
theorem d_M_waiting_83 : decode b_M_waiting 83 = .ok (.istore_n 3, 1) := by decide +kernel
theorem d_M_waiting_84 : decode b_M_waiting 84 = .ok (.iinc 5 1, 3) := by decide +kernel
theorem d_M_waiting_87 : decode b_M_waiting 87 = .ok (.goto (-54), 3) := by decide +kernel
theorem d_M_waiting_90 : decode b_M_waiting 90 = .ok (.iload_n 3, 1) := by decide +kernel
theorem d_M_waiting_91 : decode b_M_waiting 91 = .ok (.ireturn, 1) := by decide +kernel
theorem d_M_between_0 : decode b_M_between 0 = .ok (.aload_n 0, 1) := by decide +kernel
theorem d_M_between_1 : decode b_M_between 1 = .ok (.iconst 0, 1) := by decide +kernel
theorem d_M_between_2 : decode b_M_between 2 = .ok (.putfield 27, 3) := by decide +kernel
theorem d_M_between_5 : decode b_M_between 5 = .ok (.aload_n 0, 1) := by decide +kernel
theorem d_M_between_6 : decode b_M_between 6 = .ok (.iload_n 1, 1) := by decide +kernel
theorem d_M_between_7 : decode b_M_between 7 = .ok (.invokevirtual 60, 3) := by decide +kernel
theorem d_M_between_10 : decode b_M_between 10 = .ok (.ifCond .eq 20, 3) := by decide +kernel
theorem d_M_between_13 : decode b_M_between 13 = .ok (.aload_n 0, 1) := by decide +kernel
theorem d_M_between_14 : decode b_M_between 14 = .ok (.iload_n 2, 1) := by decide +kernel
theorem d_M_between_15 : decode b_M_between 15 = .ok (.invokevirtual 60, 3) := by decide +kernel
theorem d_M_between_18 : decode b_M_between 18 = .ok (.ifCond .eq 12, 3) := by decide +kernel
theorem d_M_between_21 : decode b_M_between 21 = .ok (.iload_n 3, 1) := by decide +kernel
theorem d_M_between_22 : decode b_M_between 22 = .ok (.iconst 0, 1) := by decide +kernel
theorem d_M_between_23 : decode b_M_between 23 = .ok (.iconst 2, 1) := by decide +kernel
theorem d_M_between_24 : decode b_M_between 24 = .ok (.invokestatic 34, 3) := by decide +kernel
theorem d_M_between_27 : decode b_M_between 27 = .ok (.ifCond .ne 5, 3) := by decide +kernel
theorem d_M_between_30 : decode b_M_between 30 = .ok (.iconst (-1), 1) := by decide +kernel
theorem d_M_between_31 : decode b_M_between 31 = .ok (.ireturn, 1) := by decide +kernel
theorem d_M_between_32 : decode b_M_between 32 = .ok (.iload_n 3, 1) := by decide +kernel
theorem d_M_between_33 : decode b_M_between 33 = .ok (.iconst 2, 1) := by decide +kernel
theorem d_M_between_34 : decode b_M_between 34 = .ok (.if_icmp .ne 27, 3) := by decide +kernel
theorem d_M_between_37 : decode b_M_between 37 = .ok (.aload_n 0, 1) := by decide +kernel
theorem d_M_between_38 : decode b_M_between 38 = .ok (.iload_n 1, 1) := by decide +kernel
theorem d_M_between_39 : decode b_M_between 39 = .ok (.iload_n 2, 1) := by decide +kernel
theorem d_M_between_40 : decode b_M_between 40 = .ok (.invokevirtual 114, 3) := by decide +kernel
theorem d_M_between_43 : decode b_M_between 43 = .ok (.istore 4, 2) := by decide +kernel
theorem d_M_between_45 : decode b_M_between 45 = .ok (.iload 4, 2) := by decide +kernel
theorem d_M_between_47 : decode b_M_between 47 = .ok (.iconst (-1), 1) := by decide +kernel
theorem d_M_between_48 : decode b_M_between 48 = .ok (.if_icmp .ne 10, 3) := by decide +kernel
theorem d_M_between_51 : decode b_M_between 51 = .ok (.aload_n 0, 1) := by decide +kernel
theorem d_M_between_52 : decode b_M_between 52 = .ok (.invokevirtual 64, 3) := by decide +kernel
theorem d_M_between_55 : decode b_M_between 55 = .ok (.goto 5, 3) := by decide +kernel
theorem d_M_between_58 : decode b_M_between 58 = .ok (.iload 4, 2) := by decide +kernel
theorem d_M_between_60 : decode b_M_between 60 = .ok (.ireturn, 1) := by decide +kernel
theorem d_M_between_61 : decode b_M_between 61 = .ok (.aload_n 0, 1) := by decide +kernel
theorem d_M_between_62 : decode b_M_between 62 = .ok (.iload_n 1, 1) := by decide +kernel
theorem d_M_between_63 : decode b_M_between 63 = .ok (.iload_n 2, 1) := by decide +kernel
theorem d_M_between_64 : decode b_M_between 64 = .ok (.invokevirtual 107, 3) := by decide +kernel
theorem d_M_between_67 : decode b_M_between 67 = .ok (.ifCond .eq 8, 3) := by decide +kernel
theorem d_M_between_70 : decode b_M_between 70 = .ok (.aload_n 0, 1) := by decide +kernel
theorem d_M_between_71 : decode b_M_between 71 = .ok (.invokevirtual 64, 3) := by decide +kernel
theorem d_M_between_74 : decode b_M_between 74 = .ok (.ireturn, 1) := by decide +kernel
theorem d_M_between_75 : decode b_M_between 75 = .ok (.aload_n 0, 1) := by decide +kernel
theorem d_M_between_76 : decode b_M_between 76 = .ok (.iload_n 1, 1) := by decide +kernel
theorem d_M_between_77 : decode b_M_between 77 = .ok (.iload_n 2, 1) := by decide +kernel
theorem d_M_between_78 : decode b_M_between 78 = .ok (.invokevirtual 110, 3) := by decide +kernel
theorem d_M_between_81 : decode b_M_between 81 = .ok (.iload_n 3, 1) := by decide +kernel
theorem d_M_between_82 : decode b_M_between 82 = .ok (.ifCond .ne 10, 3) := by decide +kernel
theorem d_M_between_85 : decode b_M_between 85 = .ok (.aload_n 0, 1) := by decide +kernel
theorem d_M_between_86 : decode b_M_between 86 = .ok (.getfield 98, 3) := by decide +kernel
theorem d_M_between_89 : decode b_M_between 89 = .ok (.goto 8, 3) := by decide +kernel
theorem d_M_between_92 : decode b_M_between 92 = .ok (.aload_n 0, 1) := by decide +kernel
theorem d_M_between_93 : decode b_M_between 93 = .ok (.getfield 101, 3) := by decide +kernel
theorem d_M_between_96 : decode b_M_between 96 = .ok (.ineg, 1) := by decide +kernel
theorem d_M_between_97 : decode b_M_between 97 = .ok (.ireturn, 1) := by decide +kernel
theorem d_M_clear_0 : decode b_M_clear 0 = .ok (.aload_n 0, 1) := by decide +kernel
theorem d_M_clear_1 : decode b_M_clear 1 = .ok (.iconst 0, 1) := by decide +kernel
theorem d_M_clear_2 : decode b_M_clear 2 = .ok (.putfield 27, 3) := by decide +kernel
theorem d_M_clear_5 : decode b_M_clear 5 = .ok (.aload_n 0, 1) := by decide +kernel
theorem d_M_clear_6 : decode b_M_clear 6 = .ok (.iconst 0, 1) := by decide +kernel
theorem d_M_clear_7 : decode b_M_clear 7 = .ok (.putfield 31, 3) := by decide +kernel
theorem d_M_clear_10 : decode b_M_clear 10 = .ok (.return_, 1) := by decide +kernel
theorem d_M_total_0 : decode b_M_total 0 = .ok (.aload_n 0, 1) := by decide +kernel
theorem d_M_total_1 : decode b_M_total 1 = .ok (.iconst 0, 1) := by decide +kernel
theorem d_M_total_2 : decode b_M_total 2 = .ok (.putfield 27, 3) := by decide +kernel
theorem d_M_total_5 : decode b_M_total 5 = .ok (.aload_n 0, 1) := by decide +kernel
theorem d_M_total_6 : decode b_M_total 6 = .ok (.getfield 31, 3) := by decide +kernel
theorem d_M_total_9 : decode b_M_total 9 = .ok (.ireturn, 1) := by decide +kernel
