theorem d_M_opposite_57 : decode b_M_opposite 57 = .ok (.iaload, 1) := by decide +kernel
theorem d_M_opposite_58 : decode b_M_opposite 58 = .ok (.invokevirtual 45, 3) := by decide +kernel
theorem d_M_opposite_61 : decode b_M_opposite 61 = .ok (.ireturn, 1) := by decide +kernel
theorem d_M_on_0 : decode b_M_on 0 = .ok (.aload_n 0, 1) := by decide +kernel
theorem d_M_on_1 : decode b_M_on 1 = .ok (.iload_n 1, 1) := by decide +kernel
theorem d_M_on_2 : decode b_M_on 2 = .ok (.invokevirtual 56, 3) := by decide +kernel
theorem d_M_on_5 : decode b_M_on 5 = .ok (.ifCond .ne 7, 3) := by decide +kernel
theorem d_M_on_8 : decode b_M_on 8 = .ok (.iconst 1, 1) := by decide +kernel
theorem d_M_on_9 : decode b_M_on 9 = .ok (.goto 4, 3) := by decide +kernel
theorem d_M_on_12 : decode b_M_on 12 = .ok (.iconst 0, 1) := by decide +kernel
theorem d_M_on_13 : decode b_M_on 13 = .ok (.istore_n 3, 1) := by decide +kernel
theorem d_M_on_14 : decode b_M_on 14 = .ok (.aload_n 0, 1) := by decide +kernel
theorem d_M_on_15 : decode b_M_on 15 = .ok (.getfield 7, 3) := by decide +kernel
theorem d_M_on_18 : decode b_M_on 18 = .ok (.iload_n 1, 1) := by decide +kernel
theorem d_M_on_19 : decode b_M_on 19 = .ok (.iaload, 1) := by decide +kernel
theorem d_M_on_20 : decode b_M_on 20 = .ok (.iload_n 3, 1) := by decide +kernel
theorem d_M_on_21 : decode b_M_on 21 = .ok (.ifCond .eq 7, 3) := by decide +kernel
theorem d_M_on_24 : decode b_M_on 24 = .ok (.iconst 0, 1) := by decide +kernel
theorem d_M_on_25 : decode b_M_on 25 = .ok (.goto 12, 3) := by decide +kernel
theorem d_M_on_28 : decode b_M_on 28 = .ok (.bipush 60, 2) := by decide +kernel
theorem d_M_on_30 : decode b_M_on 30 = .ok (.aload_n 0, 1) := by decide +kernel
theorem d_M_on_31 : decode b_M_on 31 = .ok (.getfield 13, 3) := by decide +kernel
theorem d_M_on_34 : decode b_M_on 34 = .ok (.iload_n 1, 1) := by decide +kernel
theorem d_M_on_35 : decode b_M_on 35 = .ok (.iaload, 1) := by decide +kernel
theorem d_M_on_36 : decode b_M_on 36 = .ok (.imul, 1) := by decide +kernel
theorem d_M_on_37 : decode b_M_on 37 = .ok (.iadd, 1) := by decide +kernel
theorem d_M_on_38 : decode b_M_on 38 = .ok (.istore 4, 2) := by decide +kernel
theorem d_M_on_40 : decode b_M_on 40 = .ok (.iload_n 3, 1) := by decide +kernel
theorem d_M_on_41 : decode b_M_on 41 = .ok (.ifCond .eq 7, 3) := by decide +kernel
theorem d_M_on_44 : decode b_M_on 44 = .ok (.iconst 1, 1) := by decide +kernel
theorem d_M_on_45 : decode b_M_on 45 = .ok (.goto 16, 3) := by decide +kernel
theorem d_M_on_48 : decode b_M_on 48 = .ok (.aload_n 0, 1) := by decide +kernel
theorem d_M_on_49 : decode b_M_on 49 = .ok (.getfield 13, 3) := by decide +kernel
theorem d_M_on_52 : decode b_M_on 52 = .ok (.iload_n 1, 1) := by decide +kernel
theorem d_M_on_53 : decode b_M_on 53 = .ok (.iaload, 1) := by decide +kernel
theorem d_M_on_54 : decode b_M_on 54 = .ok (.aload_n 0, 1) := by decide +kernel
theorem d_M_on_55 : decode b_M_on 55 = .ok (.getfield 13, 3) := by decide +kernel
theorem d_M_on_58 : decode b_M_on 58 = .ok (.iload_n 2, 1) := by decide +kernel
theorem d_M_on_59 : decode b_M_on 59 = .ok (.iaload, 1) := by decide +kernel
theorem d_M_on_60 : decode b_M_on 60 = .ok (.imul, 1) := by decide +kernel
theorem d_M_on_61 : decode b_M_on 61 = .ok (.istore 5, 2) := by decide +kernel
theorem d_M_on_63 : decode b_M_on 63 = .ok (.iconst 0, 1) := by decide +kernel
theorem d_M_on_64 : decode b_M_on 64 = .ok (.istore 6, 2) := by decide +kernel
theorem d_M_on_66 : decode b_M_on 66 = .ok (.iconst 0, 1) := by decide +kernel
theorem d_M_on_67 : decode b_M_on 67 = .ok (.istore 7, 2) := by decide +kernel
theorem d_M_on_69 : decode b_M_on 69 = .ok (.iload 7, 2) := by decide +kernel
theorem d_M_on_71 : decode b_M_on 71 = .ok (.iload 4, 2) := by decide +kernel
theorem d_M_on_73 : decode b_M_on 73 = .ok (.iload 5, 2) := by decide +kernel
theorem d_M_on_75 : decode b_M_on 75 = .ok (.iadd, 1) := by decide +kernel
theorem d_M_on_76 : decode b_M_on 76 = .ok (.if_icmp .ge 61, 3) := by decide +kernel
theorem d_M_on_79 : decode b_M_on 79 = .ok (.aload_n 0, 1) := by decide +kernel
theorem d_M_on_80 : decode b_M_on 80 = .ok (.getfield 23, 3) := by decide +kernel
theorem d_M_on_83 : decode b_M_on 83 = .ok (.iload 7, 2) := by decide +kernel
theorem d_M_on_85 : decode b_M_on 85 = .ok (.aload_n 0, 1) := by decide +kernel
theorem d_M_on_86 : decode b_M_on 86 = .ok (.iload_n 1, 1) := by decide +kernel
theorem d_M_on_87 : decode b_M_on 87 = .ok (.iload 7, 2) := by decide +kernel
theorem d_M_on_89 : decode b_M_on 89 = .ok (.invokevirtual 52, 3) := by decide +kernel
theorem d_M_on_92 : decode b_M_on 92 = .ok (.ifCond .eq 17, 3) := by decide +kernel
theorem d_M_on_95 : decode b_M_on 95 = .ok (.aload_n 0, 1) := by decide +kernel
theorem d_M_on_96 : decode b_M_on 96 = .ok (.iload_n 2, 1) := by decide +kernel
theorem d_M_on_97 : decode b_M_on 97 = .ok (.iload 6, 2) := by decide +kernel
theorem d_M_on_99 : decode b_M_on 99 = .ok (.invokevirtual 52, 3) := by decide +kernel
theorem d_M_on_102 : decode b_M_on 102 = .ok (.ifCond .eq 7, 3) := by decide +kernel
theorem d_M_on_105 : decode b_M_on 105 = .ok (.iconst 1, 1) := by decide +kernel
theorem d_M_on_106 : decode b_M_on 106 = .ok (.goto 4, 3) := by decide +kernel
theorem d_M_on_109 : decode b_M_on 109 = .ok (.iconst 0, 1) := by decide +kernel
theorem d_M_on_110 : decode b_M_on 110 = .ok (.bastore, 1) := by decide +kernel
theorem d_M_on_111 : decode b_M_on 111 = .ok (.iload 6, 2) := by decide +kernel
theorem d_M_on_113 : decode b_M_on 113 = .ok (.aload_n 0, 1) := by decide +kernel
theorem d_M_on_114 : decode b_M_on 114 = .ok (.iload_n 1, 1) := by decide +kernel
theorem d_M_on_115 : decode b_M_on 115 = .ok (.iload 7, 2) := by decide +kernel
theorem d_M_on_117 : decode b_M_on 117 = .ok (.invokevirtual 52, 3) := by decide +kernel
theorem d_M_on_120 : decode b_M_on 120 = .ok (.ifCond .eq 7, 3) := by decide +kernel
theorem d_M_on_123 : decode b_M_on 123 = .ok (.iconst 1, 1) := by decide +kernel
theorem d_M_on_124 : decode b_M_on 124 = .ok (.goto 4, 3) := by decide +kernel
theorem d_M_on_127 : decode b_M_on 127 = .ok (.iconst 0, 1) := by decide +kernel
theorem d_M_on_128 : decode b_M_on 128 = .ok (.iadd, 1) := by decide +kernel
theorem d_M_on_129 : decode b_M_on 129 = .ok (.istore 6, 2) := by decide +kernel
theorem d_M_on_131 : decode b_M_on 131 = .ok (.iinc 7 1, 3) := by decide +kernel
theorem d_M_on_134 : decode b_M_on 134 = .ok (.goto (-65), 3) := by decide +kernel
theorem d_M_on_137 : decode b_M_on 137 = .ok (.aload_n 0, 1) := by decide +kernel
theorem d_M_on_138 : decode b_M_on 138 = .ok (.iload 4, 2) := by decide +kernel
theorem d_M_on_140 : decode b_M_on 140 = .ok (.iload 5, 2) := by decide +kernel
theorem d_M_on_142 : decode b_M_on 142 = .ok (.invokevirtual 45, 3) := by decide +kernel
theorem d_M_on_145 : decode b_M_on 145 = .ok (.ireturn, 1) := by decide +kernel
theorem d_M_by_0 : decode b_M_by 0 = .ok (.aload_n 0, 1) := by decide +kernel
theorem d_M_by_1 : decode b_M_by 1 = .ok (.getfield 7, 3) := by decide +kernel
theorem d_M_by_4 : decode b_M_by 4 = .ok (.iload_n 1, 1) := by decide +kernel
theorem d_M_by_5 : decode b_M_by 5 = .ok (.iaload, 1) := by decide +kernel
theorem d_M_by_6 : decode b_M_by 6 = .ok (.aload_n 0, 1) := by decide +kernel
theorem d_M_by_7 : decode b_M_by 7 = .ok (.getfield 7, 3) := by decide +kernel
theorem d_M_by_10 : decode b_M_by 10 = .ok (.iload_n 2, 1) := by decide +kernel
theorem d_M_by_11 : decode b_M_by 11 = .ok (.iaload, 1) := by decide +kernel
theorem d_M_by_12 : decode b_M_by 12 = .ok (.invokestatic 49, 3) := by decide +kernel
theorem d_M_by_15 : decode b_M_by 15 = .ok (.istore_n 3, 1) := by decide +kernel
theorem d_M_by_16 : decode b_M_by 16 = .ok (.iconst 0, 1) := by decide +kernel
theorem d_M_by_17 : decode b_M_by 17 = .ok (.istore 4, 2) := by decide +kernel
theorem d_M_by_19 : decode b_M_by 19 = .ok (.iconst 0, 1) := by decide +kernel
theorem d_M_by_20 : decode b_M_by 20 = .ok (.istore 5, 2) := by decide +kernel
theorem d_M_by_22 : decode b_M_by 22 = .ok (.iload 5, 2) := by decide +kernel
theorem d_M_by_24 : decode b_M_by 24 = .ok (.iload_n 3, 1) := by decide +kernel
theorem d_M_by_25 : decode b_M_by 25 = .ok (.if_icmp .ge 29, 3) := by decide +kernel
theorem d_M_by_28 : decode b_M_by 28 = .ok (.iload 4, 2) := by decide +kernel
theorem d_M_by_30 : decode b_M_by 30 = .ok (.aload_n 0, 1) := by decide +kernel
theorem d_M_by_31 : decode b_M_by 31 = .ok (.iload_n 2, 1) := by decide +kernel
theorem d_M_by_32 : decode b_M_by 32 = .ok (.iload 5, 2) := by decide +kernel
theorem d_M_by_34 : decode b_M_by 34 = .ok (.invokevirtual 52, 3) := by decide +kernel
theorem d_M_by_37 : decode b_M_by 37 = .ok (.ifCond .eq 7, 3) := by decide +kernel
theorem d_M_by_40 : decode b_M_by 40 = .ok (.iconst 1, 1) := by decide +kernel
theorem d_M_by_41 : decode b_M_by 41 = .ok (.goto 4, 3) := by decide +kernel
theorem d_M_by_44 : decode b_M_by 44 = .ok (.iconst 0, 1) := by decide +kernel
theorem d_M_by_45 : decode b_M_by 45 = .ok (.iadd, 1) := by decide +kernel
theorem d_M_by_46 : decode b_M_by 46 = .ok (.istore 4, 2) := by decide +kernel
theorem d_M_by_48 : decode b_M_by 48 = .ok (.iinc 5 1, 3) := by decide +kernel
theorem d_M_by_51 : decode b_M_by 51 = .ok (.goto (-29), 3) := by decide +kernel
theorem d_M_by_54 : decode b_M_by 54 = .ok (.aload_n 0, 1) := by decide +kernel
theorem d_M_by_55 : decode b_M_by 55 = .ok (.iload_n 2, 1) := by decide +kernel
theorem d_M_by_56 : decode b_M_by 56 = .ok (.invokevirtual 56, 3) := by decide +kernel
theorem d_M_by_59 : decode b_M_by 59 = .ok (.aload_n 0, 1) := by decide +kernel
theorem d_M_by_60 : decode b_M_by 60 = .ok (.getfield 13, 3) := by decide +kernel
theorem d_M_by_63 : decode b_M_by 63 = .ok (.iload_n 1, 1) := by decide +kernel
theorem d_M_by_64 : decode b_M_by 64 = .ok (.iaload, 1) := by decide +kernel
theorem d_M_by_65 : decode b_M_by 65 = .ok (.imul, 1) := by decide +kernel
theorem d_M_by_66 : decode b_M_by 66 = .ok (.istore 5, 2) := by decide +kernel
theorem d_M_by_68 : decode b_M_by 68 = .ok (.iconst 0, 1) := by decide +kernel
theorem d_M_by_69 : decode b_M_by 69 = .ok (.istore 6, 2) := by decide +kernel
theorem d_M_by_71 : decode b_M_by 71 = .ok (.iconst 0, 1) := by decide +kernel
theorem d_M_by_72 : decode b_M_by 72 = .ok (.istore 7, 2) := by decide +kernel
theorem d_M_by_74 : decode b_M_by 74 = .ok (.iload 6, 2) := by decide +kernel
theorem d_M_by_76 : decode b_M_by 76 = .ok (.iload 4, 2) := by decide +kernel
theorem d_M_by_78 : decode b_M_by 78 = .ok (.iload 5, 2) := by decide +kernel
theorem d_M_by_80 : decode b_M_by 80 = .ok (.iadd, 1) := by decide +kernel
theorem d_M_by_81 : decode b_M_by 81 = .ok (.if_icmp .ge 39, 3) := by decide +kernel
theorem d_M_by_84 : decode b_M_by 84 = .ok (.aload_n 0, 1) := by decide +kernel
theorem d_M_by_85 : decode b_M_by 85 = .ok (.iload_n 2, 1) := by decide +kernel
theorem d_M_by_86 : decode b_M_by 86 = .ok (.iload 7, 2) := by decide +kernel
theorem d_M_by_88 : decode b_M_by 88 = .ok (.invokevirtual 52, 3) := by decide +kernel
theorem d_M_by_91 : decode b_M_by 91 = .ok (.ifCond .ne 6, 3) := by decide +kernel
theorem d_M_by_94 : decode b_M_by 94 = .ok (.goto 20, 3) := by decide +kernel
theorem d_M_by_97 : decode b_M_by 97 = .ok (.aload_n 0, 1) := by decide +kernel
theorem d_M_by_98 : decode b_M_by 98 = .ok (.getfield 23, 3) := by decide +kernel
theorem d_M_by_101 : decode b_M_by 101 = .ok (.iload 6, 2) := by decide +kernel
theorem d_M_by_103 : decode b_M_by 103 = .ok (.aload_n 0, 1) := by decide +kernel
theorem d_M_by_104 : decode b_M_by 104 = .ok (.iload_n 1, 1) := by decide +kernel
theorem d_M_by_105 : decode b_M_by 105 = .ok (.iload 7, 2) := by decide +kernel
theorem d_M_by_107 : decode b_M_by 107 = .ok (.invokevirtual 52, 3) := by decide +kernel
theorem d_M_by_110 : decode b_M_by 110 = .ok (.bastore, 1) := by decide +kernel
theorem d_M_by_111 : decode b_M_by 111 = .ok (.iinc 6 1, 3) := by decide +kernel
theorem d_M_by_114 : decode b_M_by 114 = .ok (.iinc 7 1, 3) := by decide +kernel
theorem d_M_by_117 : decode b_M_by 117 = .ok (.goto (-43), 3) := by decide +kernel
theorem d_M_by_120 : decode b_M_by 120 = .ok (.aload_n 0, 1) := by decide +kernel
theorem d_M_by_121 : decode b_M_by 121 = .ok (.iload 4, 2) := by decide +kernel
theorem d_M_by_123 : decode b_M_by 123 = .ok (.iload 5, 2) := by decide +kernel
theorem d_M_by_125 : decode b_M_by 125 = .ok (.invokevirtual 45, 3) := by decide +kernel
theorem d_M_by_128 : decode b_M_by 128 = .ok (.ireturn, 1) := by decide +kernel
theorem d_M_late_0 : decode b_M_late 0 = .ok (.iconst 0, 1) := by decide +kernel
theorem d_M_late_1 : decode b_M_late 1 = .ok (.istore_n 3, 1) := by decide +kernel
theorem d_M_late_2 : decode b_M_late 2 = .ok (.iload_n 3, 1) := by decide +kernel
theorem d_M_late_3 : decode b_M_late 3 = .ok (.iload_n 2, 1) := by decide +kernel
theorem d_M_late_4 : decode b_M_late 4 = .ok (.if_icmp .ge 16, 3) := by decide +kernel
theorem d_M_late_7 : decode b_M_late 7 = .ok (.aload_n 0, 1) := by decide +kernel
theorem d_M_late_8 : decode b_M_late 8 = .ok (.getfield 23, 3) := by decide +kernel
theorem d_M_late_11 : decode b_M_late 11 = .ok (.iload_n 3, 1) := by decide +kernel
theorem d_M_late_12 : decode b_M_late 12 = .ok (.iconst 0, 1) := by decide +kernel
theorem d_M_late_13 : decode b_M_late 13 = .ok (.bastore, 1) := by decide +kernel
theorem d_M_late_14 : decode b_M_late 14 = .ok (.iinc 3 1, 3) := by decide +kernel
theorem d_M_late_17 : decode b_M_late 17 = .ok (.goto (-15), 3) := by decide +kernel
theorem d_M_late_20 : decode b_M_late 20 = .ok (.iconst 0, 1) := by decide +kernel
theorem d_M_late_21 : decode b_M_late 21 = .ok (.istore_n 3, 1) := by decide +kernel
theorem d_M_late_22 : decode b_M_late 22 = .ok (.iload_n 3, 1) := by decide +kernel
theorem d_M_late_23 : decode b_M_late 23 = .ok (.aload_n 0, 1) := by decide +kernel
theorem d_M_late_24 : decode b_M_late 24 = .ok (.getfield 7, 3) := by decide +kernel
theorem d_M_late_27 : decode b_M_late 27 = .ok (.iload_n 1, 1) := by decide +kernel
theorem d_M_late_28 : decode b_M_late 28 = .ok (.iaload, 1) := by decide +kernel
theorem d_M_late_29 : decode b_M_late 29 = .ok (.aload_n 0, 1) := by decide +kernel
theorem d_M_late_30 : decode b_M_late 30 = .ok (.getfield 13, 3) := by decide +kernel
theorem d_M_late_33 : decode b_M_late 33 = .ok (.iload_n 1, 1) := by decide +kernel
theorem d_M_late_34 : decode b_M_late 34 = .ok (.iaload, 1) := by decide +kernel
theorem d_M_late_35 : decode b_M_late 35 = .ok (.iadd, 1) := by decide +kernel
theorem d_M_late_36 : decode b_M_late 36 = .ok (.if_icmp .ge 23, 3) := by decide +kernel
theorem d_M_late_39 : decode b_M_late 39 = .ok (.aload_n 0, 1) := by decide +kernel
theorem d_M_late_40 : decode b_M_late 40 = .ok (.getfield 23, 3) := by decide +kernel
theorem d_M_late_43 : decode b_M_late 43 = .ok (.iload_n 2, 1) := by decide +kernel
theorem d_M_late_44 : decode b_M_late 44 = .ok (.iload_n 3, 1) := by decide +kernel
theorem d_M_late_45 : decode b_M_late 45 = .ok (.iadd, 1) := by decide +kernel
theorem d_M_late_46 : decode b_M_late 46 = .ok (.aload_n 0, 1) := by decide +kernel
theorem d_M_late_47 : decode b_M_late 47 = .ok (.iload_n 1, 1) := by decide +kernel
theorem d_M_late_48 : decode b_M_late 48 = .ok (.iload_n 3, 1) := by decide +kernel
theorem d_M_late_49 : decode b_M_late 49 = .ok (.invokevirtual 52, 3) := by decide +kernel
theorem d_M_late_52 : decode b_M_late 52 = .ok (.bastore, 1) := by decide +kernel
theorem d_M_late_53 : decode b_M_late 53 = .ok (.iinc 3 1, 3) := by decide +kernel
theorem d_M_late_56 : decode b_M_late 56 = .ok (.goto (-34), 3) := by decide +kernel
theorem d_M_late_59 : decode b_M_late 59 = .ok (.aload_n 0, 1) := by decide +kernel
theorem d_M_late_60 : decode b_M_late 60 = .ok (.iload_n 2, 1) := by decide +kernel
theorem d_M_late_61 : decode b_M_late 61 = .ok (.aload_n 0, 1) := by decide +kernel
theorem d_M_late_62 : decode b_M_late 62 = .ok (.getfield 7, 3) := by decide +kernel
theorem d_M_late_65 : decode b_M_late 65 = .ok (.iload_n 1, 1) := by decide +kernel
theorem d_M_late_66 : decode b_M_late 66 = .ok (.iaload, 1) := by decide +kernel
theorem d_M_late_67 : decode b_M_late 67 = .ok (.iadd, 1) := by decide +kernel
theorem d_M_late_68 : decode b_M_late 68 = .ok (.aload_n 0, 1) := by decide +kernel
theorem d_M_late_69 : decode b_M_late 69 = .ok (.getfield 13, 3) := by decide +kernel
theorem d_M_late_72 : decode b_M_late 72 = .ok (.iload_n 1, 1) := by decide +kernel
theorem d_M_late_73 : decode b_M_late 73 = .ok (.iaload, 1) := by decide +kernel
theorem d_M_late_74 : decode b_M_late 74 = .ok (.invokevirtual 45, 3) := by decide +kernel
theorem d_M_late_77 : decode b_M_late 77 = .ok (.ireturn, 1) := by decide +kernel
theorem d_M_halved_0 : decode b_M_halved 0 = .ok (.iconst 1, 1) := by decide +kernel
theorem d_M_halved_1 : decode b_M_halved 1 = .ok (.istore_n 2, 1) := by decide +kernel
theorem d_M_halved_2 : decode b_M_halved 2 = .ok (.iconst 0, 1) := by decide +kernel
theorem d_M_halved_3 : decode b_M_halved 3 = .ok (.istore_n 3, 1) := by decide +kernel
theorem d_M_halved_4 : decode b_M_halved 4 = .ok (.iload_n 3, 1) := by decide +kernel
theorem d_M_halved_5 : decode b_M_halved 5 = .ok (.aload_n 0, 1) := by decide +kernel
theorem d_M_halved_6 : decode b_M_halved 6 = .ok (.getfield 7, 3) := by decide +kernel
theorem d_M_halved_9 : decode b_M_halved 9 = .ok (.iload_n 1, 1) := by decide +kernel
theorem d_M_halved_10 : decode b_M_halved 10 = .ok (.iaload, 1) := by decide +kernel
theorem d_M_halved_11 : decode b_M_halved 11 = .ok (.iconst 2, 1) := by decide +kernel
theorem d_M_halved_12 : decode b_M_halved 12 = .ok (.aload_n 0, 1) := by decide +kernel
theorem d_M_halved_13 : decode b_M_halved 13 = .ok (.getfield 13, 3) := by decide +kernel
theorem d_M_halved_16 : decode b_M_halved 16 = .ok (.iload_n 1, 1) := by decide +kernel
theorem d_M_halved_17 : decode b_M_halved 17 = .ok (.iaload, 1) := by decide +kernel
theorem d_M_halved_18 : decode b_M_halved 18 = .ok (.imul, 1) := by decide +kernel
theorem d_M_halved_19 : decode b_M_halved 19 = .ok (.iadd, 1) := by decide +kernel
theorem d_M_halved_20 : decode b_M_halved 20 = .ok (.if_icmp .ge 49, 3) := by decide +kernel
theorem d_M_halved_23 : decode b_M_halved 23 = .ok (.aload_n 0, 1) := by decide +kernel
theorem d_M_halved_24 : decode b_M_halved 24 = .ok (.getfield 23, 3) := by decide +kernel
theorem d_M_halved_27 : decode b_M_halved 27 = .ok (.iload_n 3, 1) := by decide +kernel
theorem d_M_halved_28 : decode b_M_halved 28 = .ok (.aload_n 0, 1) := by decide +kernel
theorem d_M_halved_29 : decode b_M_halved 29 = .ok (.iload_n 1, 1) := by decide +kernel
theorem d_M_halved_30 : decode b_M_halved 30 = .ok (.iload_n 3, 1) := by decide +kernel
theorem d_M_halved_31 : decode b_M_halved 31 = .ok (.invokevirtual 52, 3) := by decide +kernel
theorem d_M_halved_34 : decode b_M_halved 34 = .ok (.ifCond .eq 11, 3) := by decide +kernel
theorem d_M_halved_37 : decode b_M_halved 37 = .ok (.iload_n 2, 1) := by decide +kernel
theorem d_M_halved_38 : decode b_M_halved 38 = .ok (.ifCond .eq 7, 3) := by decide +kernel
theorem d_M_halved_41 : decode b_M_halved 41 = .ok (.iconst 1, 1) := by decide +kernel
theorem d_M_halved_42 : decode b_M_halved 42 = .ok (.goto 4, 3) := by decide +kernel
theorem d_M_halved_45 : decode b_M_halved 45 = .ok (.iconst 0, 1) := by decide +kernel
theorem d_M_halved_46 : decode b_M_halved 46 = .ok (.bastore, 1) := by decide +kernel
theorem d_M_halved_47 : decode b_M_halved 47 = .ok (.aload_n 0, 1) := by decide +kernel
theorem d_M_halved_48 : decode b_M_halved 48 = .ok (.iload_n 1, 1) := by decide +kernel
theorem d_M_halved_49 : decode b_M_halved 49 = .ok (.iload_n 3, 1) := by decide +kernel
theorem d_M_halved_50 : decode b_M_halved 50 = .ok (.invokevirtual 52, 3) := by decide +kernel
theorem d_M_halved_53 : decode b_M_halved 53 = .ok (.iload_n 2, 1) := by decide +kernel
theorem d_M_halved_54 : decode b_M_halved 54 = .ok (.if_icmp .eq 7, 3) := by decide +kernel
theorem d_M_halved_57 : decode b_M_halved 57 = .ok (.iconst 1, 1) := by decide +kernel
theorem d_M_halved_58 : decode b_M_halved 58 = .ok (.goto 4, 3) := by decide +kernel
theorem d_M_halved_61 : decode b_M_halved 61 = .ok (.iconst 0, 1) := by decide +kernel
theorem d_M_halved_62 : decode b_M_halved 62 = .ok (.istore_n 2, 1) := by decide +kernel
theorem d_M_halved_63 : decode b_M_halved 63 = .ok (.iinc 3 1, 3) := by decide +kernel
theorem d_M_halved_66 : decode b_M_halved 66 = .ok (.goto (-62), 3) := by decide +kernel
theorem d_M_halved_69 : decode b_M_halved 69 = .ok (.aload_n 0, 1) := by decide +kernel
theorem d_M_halved_70 : decode b_M_halved 70 = .ok (.aload_n 0, 1) := by decide +kernel
theorem d_M_halved_71 : decode b_M_halved 71 = .ok (.getfield 7, 3) := by decide +kernel
theorem d_M_halved_74 : decode b_M_halved 74 = .ok (.iload_n 1, 1) := by decide +kernel
theorem d_M_halved_75 : decode b_M_halved 75 = .ok (.iaload, 1) := by decide +kernel
theorem d_M_halved_76 : decode b_M_halved 76 = .ok (.iconst 2, 1) := by decide +kernel
theorem d_M_halved_77 : decode b_M_halved 77 = .ok (.aload_n 0, 1) := by decide +kernel
theorem d_M_halved_78 : decode b_M_halved 78 = .ok (.getfield 13, 3) := by decide +kernel
theorem d_M_halved_81 : decode b_M_halved 81 = .ok (.iload_n 1, 1) := by decide +kernel
theorem d_M_halved_82 : decode b_M_halved 82 = .ok (.iaload, 1) := by decide +kernel
theorem d_M_halved_83 : decode b_M_halved 83 = .ok (.imul, 1) := by decide +kernel
theorem d_M_halved_84 : decode b_M_halved 84 = .ok (.invokevirtual 45, 3) := by decide +kernel
theorem d_M_halved_87 : decode b_M_halved 87 = .ok (.ireturn, 1) := by decide +kernel
theorem d_M_make_0 : decode b_M_make 0 = .ok (.aload_n 0, 1) := by decide +kernel
theorem d_M_make_1 : decode b_M_make 1 = .ok (.iconst 0, 1) := by decide +kernel
theorem d_M_make_2 : decode b_M_make 2 = .ok (.putfield 27, 3) := by decide +kernel
theorem d_M_make_5 : decode b_M_make 5 = .ok (.iload_n 1, 1) := by decide +kernel
theorem d_M_make_6 : decode b_M_make 6 = .ok (.iconst 3, 1) := by decide +kernel
theorem d_M_make_7 : decode b_M_make 7 = .ok (.if_icmp .lt 13, 3) := by decide +kernel
theorem d_M_make_10 : decode b_M_make 10 = .ok (.iload_n 1, 1) := by decide +kernel
theorem d_M_make_11 : decode b_M_make 11 = .ok (.iconst 4, 1) := by decide +kernel
theorem d_M_make_12 : decode b_M_make 12 = .ok (.if_icmp .eq 8, 3) := by decide +kernel
theorem d_M_make_15 : decode b_M_make 15 = .ok (.iload_n 1, 1) := by decide +kernel
theorem d_M_make_16 : decode b_M_make 16 = .ok (.iconst 5, 1) := by decide +kernel
theorem d_M_make_17 : decode b_M_make 17 = .ok (.if_icmp .ne 7, 3) := by decide +kernel
theorem d_M_make_20 : decode b_M_make 20 = .ok (.iconst 1, 1) := by decide +kernel
theorem d_M_make_21 : decode b_M_make 21 = .ok (.goto 4, 3) := by decide +kernel
theorem d_M_make_24 : decode b_M_make 24 = .ok (.iconst 0, 1) := by decide +kernel
theorem d_M_make_25 : decode b_M_make 25 = .ok (.istore 4, 2) := by decide +kernel
theorem d_M_make_27 : decode b_M_make 27 = .ok (.iload_n 1, 1) := by decide +kernel
theorem d_M_make_28 : decode b_M_make 28 = .ok (.iconst 0, 1) := by decide +kernel
theorem d_M_make_29 : decode b_M_make 29 = .ok (.bipush 7, 2) := by decide +kernel
theorem d_M_make_31 : decode b_M_make 31 = .ok (.invokestatic 34, 3) := by decide +kernel
theorem d_M_make_34 : decode b_M_make 34 = .ok (.ifCond .eq 49, 3) := by decide +kernel
theorem d_M_make_37 : decode b_M_make 37 = .ok (.aload_n 0, 1) := by decide +kernel
theorem d_M_make_38 : decode b_M_make 38 = .ok (.iload_n 2, 1) := by decide +kernel
theorem d_M_make_39 : decode b_M_make 39 = .ok (.invokevirtual 60, 3) := by decide +kernel
theorem d_M_make_42 : decode b_M_make 42 = .ok (.ifCond .eq 41, 3) := by decide +kernel
theorem d_M_make_45 : decode b_M_make 45 = .ok (.iload 4, 2) := by decide +kernel
theorem d_M_make_47 : decode b_M_make 47 = .ok (.ifCond .eq 11, 3) := by decide +kernel
theorem d_M_make_50 : decode b_M_make 50 = .ok (.aload_n 0, 1) := by decide +kernel
theorem d_M_make_51 : decode b_M_make 51 = .ok (.iload_n 3, 1) := by decide +kernel
theorem d_M_make_52 : decode b_M_make 52 = .ok (.invokevirtual 60, 3) := by decide +kernel
theorem d_M_make_55 : decode b_M_make 55 = .ok (.ifCond .eq 28, 3) := by decide +kernel
theorem d_M_make_58 : decode b_M_make 58 = .ok (.iload_n 1, 1) := by decide +kernel
theorem d_M_make_59 : decode b_M_make 59 = .ok (.bipush 6, 2) := by decide +kernel
theorem d_M_make_61 : decode b_M_make 61 = .ok (.if_icmp .ne 13, 3) := by decide +kernel
theorem d_M_make_64 : decode b_M_make 64 = .ok (.iload_n 3, 1) := by decide +kernel
theorem d_M_make_65 : decode b_M_make 65 = .ok (.iconst 0, 1) := by decide +kernel
theorem d_M_make_66 : decode b_M_make 66 = .ok (.bipush 30, 2) := by decide +kernel
theorem d_M_make_68 : decode b_M_make 68 = .ok (.invokestatic 34, 3) := by decide +kernel
theorem d_M_make_71 : decode b_M_make 71 = .ok (.ifCond .eq 12, 3) := by decide +kernel
theorem d_M_make_74 : decode b_M_make 74 = .ok (.aload_n 0, 1) := by decide +kernel
theorem d_M_make_75 : decode b_M_make 75 = .ok (.getfield 31, 3) := by decide +kernel
theorem d_M_make_78 : decode b_M_make 78 = .ok (.bipush 40, 2) := by decide +kernel
theorem d_M_make_80 : decode b_M_make 80 = .ok (.if_icmp .ne 5, 3) := by decide +kernel
theorem d_M_make_83 : decode b_M_make 83 = .ok (.iconst (-1), 1) := by decide +kernel
theorem d_M_make_84 : decode b_M_make 84 = .ok (.ireturn, 1) := by decide +kernel
theorem d_M_make_85 : decode b_M_make 85 = .ok (.iload_n 1, 1) := by decide +kernel
theorem d_M_make_86 : decode b_M_make 86 = .ok (.iconst 5, 1) := by decide +kernel
theorem d_M_make_87 : decode b_M_make 87 = .ok (.if_icmp .ne 16, 3) := by decide +kernel
theorem d_M_make_90 : decode b_M_make 90 = .ok (.aload_n 0, 1) := by decide +kernel
theorem d_M_make_91 : decode b_M_make 91 = .ok (.iload_n 3, 1) := by decide +kernel
theorem d_M_make_92 : decode b_M_make 92 = .ok (.invokevirtual 56, 3) := by decide +kernel
theorem d_M_make_95 : decode b_M_make 95 = .ok (.ifCond .ne 8, 3) := by decide +kernel
theorem d_M_make_98 : decode b_M_make 98 = .ok (.aload_n 0, 1) := by decide +kernel
theorem d_M_make_99 : decode b_M_make 99 = .ok (.invokevirtual 64, 3) := by decide +kernel
theorem d_M_make_102 : decode b_M_make 102 = .ok (.ireturn, 1) := by decide +kernel
theorem d_M_make_103 : decode b_M_make 103 = .ok (.iload_n 1, 1) := by decide +kernel
theorem d_M_make_104 : decode b_M_make 104 = .ok (.tableswitch 69 3 7 #[36, 42, 49, 56, 63], 36) := by decide +kernel
theorem d_M_make_140 : decode b_M_make 140 = .ok (.aload_n 0, 1) := by decide +kernel
theorem d_M_make_141 : decode b_M_make 141 = .ok (.iload_n 2, 1) := by decide +kernel
theorem d_M_make_142 : decode b_M_make 142 = .ok (.invokevirtual 68, 3) := by decide +kernel
theorem d_M_make_145 : decode b_M_make 145 = .ok (.ireturn, 1) := by decide +kernel
theorem d_M_make_146 : decode b_M_make 146 = .ok (.aload_n 0, 1) := by decide +kernel
theorem d_M_make_147 : decode b_M_make 147 = .ok (.iload_n 2, 1) := by decide +kernel
theorem d_M_make_148 : decode b_M_make 148 = .ok (.iload_n 3, 1) := by decide +kernel
theorem d_M_make_149 : decode b_M_make 149 = .ok (.invokevirtual 71, 3) := by decide +kernel
theorem d_M_make_152 : decode b_M_make 152 = .ok (.ireturn, 1) := by decide +kernel
theorem d_M_make_153 : decode b_M_make 153 = .ok (.aload_n 0, 1) := by decide +kernel
theorem d_M_make_154 : decode b_M_make 154 = .ok (.iload_n 2, 1) := by decide +kernel
theorem d_M_make_155 : decode b_M_make 155 = .ok (.iload_n 3, 1) := by decide +kernel
theorem d_M_make_156 : decode b_M_make 156 = .ok (.invokevirtual 74, 3) := by decide +kernel
theorem d_M_make_159 : decode b_M_make 159 = .ok (.ireturn, 1) := by decide +kernel
theorem d_M_make_160 : decode b_M_make 160 = .ok (.aload_n 0, 1) := by decide +kernel
theorem d_M_make_161 : decode b_M_make 161 = .ok (.iload_n 2, 1) := by decide +kernel
theorem d_M_make_162 : decode b_M_make 162 = .ok (.iload_n 3, 1) := by decide +kernel
theorem d_M_make_163 : decode b_M_make 163 = .ok (.invokevirtual 77, 3) := by decide +kernel
theorem d_M_make_166 : decode b_M_make 166 = .ok (.ireturn, 1) := by decide +kernel
theorem d_M_make_167 : decode b_M_make 167 = .ok (.aload_n 0, 1) := by decide +kernel
theorem d_M_make_168 : decode b_M_make 168 = .ok (.iload_n 2, 1) := by decide +kernel
theorem d_M_make_169 : decode b_M_make 169 = .ok (.invokevirtual 80, 3) := by decide +kernel
theorem d_M_make_172 : decode b_M_make 172 = .ok (.ireturn, 1) := by decide +kernel
theorem d_M_make_173 : decode b_M_make 173 = .ok (.aload_n 0, 1) := by decide +kernel
theorem d_M_make_174 : decode b_M_make 174 = .ok (.iload_n 1, 1) := by decide +kernel
theorem d_M_make_175 : decode b_M_make 175 = .ok (.iload_n 2, 1) := by decide +kernel
theorem d_M_make_176 : decode b_M_make 176 = .ok (.iload_n 3, 1) := by decide +kernel
theorem d_M_make_177 : decode b_M_make 177 = .ok (.invokevirtual 83, 3) := by decide +kernel
theorem d_M_make_180 : decode b_M_make 180 = .ok (.ireturn, 1) := by decide +kernel
theorem d_M_divisor_0 : decode b_M_divisor 0 = .ok (.iload_n 0, 1) := by decide +kernel
theorem d_M_divisor_1 : decode b_M_divisor 1 = .ok (.istore_n 2, 1) := by decide +kernel
theorem d_M_divisor_2 : decode b_M_divisor 2 = .ok (.iload_n 1, 1) := by decide +kernel
theorem d_M_divisor_3 : decode b_M_divisor 3 = .ok (.istore_n 3, 1) := by decide +kernel
theorem d_M_divisor_4 : decode b_M_divisor 4 = .ok (.iload_n 3, 1) := by decide +kernel
theorem d_M_divisor_5 : decode b_M_divisor 5 = .ok (.ifCond .eq 16, 3) := by decide +kernel
theorem d_M_divisor_8 : decode b_M_divisor 8 = .ok (.iload_n 2, 1) := by decide +kernel
theorem d_M_divisor_9 : decode b_M_divisor 9 = .ok (.iload_n 3, 1) := by decide +kernel
theorem d_M_divisor_10 : decode b_M_divisor 10 = .ok (.irem, 1) := by decide +kernel
theorem d_M_divisor_11 : decode b_M_divisor 11 = .ok (.istore 4, 2) := by decide +kernel
theorem d_M_divisor_13 : decode b_M_divisor 13 = .ok (.iload_n 3, 1) := by decide +kernel
theorem d_M_divisor_14 : decode b_M_divisor 14 = .ok (.istore_n 2, 1) := by decide +kernel
theorem d_M_divisor_15 : decode b_M_divisor 15 = .ok (.iload 4, 2) := by decide +kernel
theorem d_M_divisor_17 : decode b_M_divisor 17 = .ok (.istore_n 3, 1) := by decide +kernel
theorem d_M_divisor_18 : decode b_M_divisor 18 = .ok (.goto (-14), 3) := by decide +kernel
theorem d_M_divisor_21 : decode b_M_divisor 21 = .ok (.iload_n 2, 1) := by decide +kernel
theorem d_M_divisor_22 : decode b_M_divisor 22 = .ok (.ireturn, 1) := by decide +kernel
theorem d_M_form_0 : decode b_M_form 0 = .ok (.aload_n 0, 1) := by decide +kernel
theorem d_M_form_1 : decode b_M_form 1 = .ok (.iconst 0, 1) := by decide +kernel
theorem d_M_form_2 : decode b_M_form 2 = .ok (.putfield 27, 3) := by decide +kernel
theorem d_M_form_5 : decode b_M_form 5 = .ok (.aload_n 0, 1) := by decide +kernel
theorem d_M_form_6 : decode b_M_form 6 = .ok (.iload_n 1, 1) := by decide +kernel
theorem d_M_form_7 : decode b_M_form 7 = .ok (.invokevirtual 60, 3) := by decide +kernel
theorem d_M_form_10 : decode b_M_form 10 = .ok (.ifCond .ne 5, 3) := by decide +kernel
theorem d_M_form_13 : decode b_M_form 13 = .ok (.iconst (-1), 1) := by decide +kernel
theorem d_M_form_14 : decode b_M_form 14 = .ok (.ireturn, 1) := by decide +kernel
theorem d_M_form_15 : decode b_M_form 15 = .ok (.aload_n 0, 1) := by decide +kernel
theorem d_M_form_16 : decode b_M_form 16 = .ok (.iload_n 1, 1) := by decide +kernel
theorem d_M_form_17 : decode b_M_form 17 = .ok (.invokevirtual 56, 3) := by decide +kernel
theorem d_M_form_20 : decode b_M_form 20 = .ok (.istore_n 3, 1) := by decide +kernel
theorem d_M_form_21 : decode b_M_form 21 = .ok (.iload_n 3, 1) := by decide +kernel
theorem d_M_form_22 : decode b_M_form 22 = .ok (.aload_n 0, 1) := by decide +kernel
theorem d_M_form_23 : decode b_M_form 23 = .ok (.getfield 13, 3) := by decide +kernel
theorem d_M_form_26 : decode b_M_form 26 = .ok (.iload_n 1, 1) := by decide +kernel
theorem d_M_form_27 : decode b_M_form 27 = .ok (.iaload, 1) := by decide +kernel
theorem d_M_form_28 : decode b_M_form 28 = .ok (.invokestatic 87, 3) := by decide +kernel
theorem d_M_form_31 : decode b_M_form 31 = .ok (.istore 4, 2) := by decide +kernel
theorem d_M_form_33 : decode b_M_form 33 = .ok (.iload_n 2, 1) := by decide +kernel
theorem d_M_form_34 : decode b_M_form 34 = .ok (.tableswitch 79 0 4 #[34, 41, 48, 53, 63], 34) := by decide +kernel
theorem d_M_form_68 : decode b_M_form 68 = .ok (.aload_n 0, 1) := by decide +kernel
theorem d_M_form_69 : decode b_M_form 69 = .ok (.getfield 7, 3) := by decide +kernel
theorem d_M_form_72 : decode b_M_form 72 = .ok (.iload_n 1, 1) := by decide +kernel
theorem d_M_form_73 : decode b_M_form 73 = .ok (.iaload, 1) := by decide +kernel
theorem d_M_form_74 : decode b_M_form 74 = .ok (.ireturn, 1) := by decide +kernel
theorem d_M_form_75 : decode b_M_form 75 = .ok (.aload_n 0, 1) := by decide +kernel
theorem d_M_form_76 : decode b_M_form 76 = .ok (.getfield 13, 3) := by decide +kernel
theorem d_M_form_79 : decode b_M_form 79 = .ok (.iload_n 1, 1) := by decide +kernel
theorem d_M_form_80 : decode b_M_form 80 = .ok (.iaload, 1) := by decide +kernel
theorem d_M_form_81 : decode b_M_form 81 = .ok (.ireturn, 1) := by decide +kernel
theorem d_M_form_82 : decode b_M_form 82 = .ok (.iload_n 3, 1) := by decide +kernel
theorem d_M_form_83 : decode b_M_form 83 = .ok (.iload 4, 2) := by decide +kernel
theorem d_M_form_85 : decode b_M_form 85 = .ok (.idiv, 1) := by decide +kernel
theorem d_M_form_86 : decode b_M_form 86 = .ok (.ireturn, 1) := by decide +kernel
theorem d_M_form_87 : decode b_M_form 87 = .ok (.aload_n 0, 1) := by decide +kernel
theorem d_M_form_88 : decode b_M_form 88 = .ok (.getfield 13, 3) := by decide +kernel
theorem d_M_form_91 : decode b_M_form 91 = .ok (.iload_n 1, 1) := by decide +kernel
theorem d_M_form_92 : decode b_M_form 92 = .ok (.iaload, 1) := by decide +kernel
theorem d_M_form_93 : decode b_M_form 93 = .ok (.iload 4, 2) := by decide +kernel
theorem d_M_form_95 : decode b_M_form 95 = .ok (.idiv, 1) := by decide +kernel
theorem d_M_form_96 : decode b_M_form 96 = .ok (.ireturn, 1) := by decide +kernel
theorem d_M_form_97 : decode b_M_form 97 = .ok (.aload_n 0, 1) := by decide +kernel
theorem d_M_form_98 : decode b_M_form 98 = .ok (.getfield 16, 3) := by decide +kernel
theorem d_M_form_101 : decode b_M_form 101 = .ok (.iload_n 1, 1) := by decide +kernel
theorem d_M_form_102 : decode b_M_form 102 = .ok (.laload, 1) := by decide +kernel
theorem d_M_form_103 : decode b_M_form 103 = .ok (.aload_n 0, 1) := by decide +kernel
theorem d_M_form_104 : decode b_M_form 104 = .ok (.getfield 7, 3) := by decide +kernel
theorem d_M_form_107 : decode b_M_form 107 = .ok (.iload_n 1, 1) := by decide +kernel
theorem d_M_form_108 : decode b_M_form 108 = .ok (.iaload, 1) := by decide +kernel
theorem d_M_form_109 : decode b_M_form 109 = .ok (.invokestatic 38, 3) := by decide +kernel
theorem d_M_form_112 : decode b_M_form 112 = .ok (.ireturn, 1) := by decide +kernel
theorem d_M_form_113 : decode b_M_form 113 = .ok (.iconst (-1), 1) := by decide +kernel
theorem d_M_form_114 : decode b_M_form 114 = .ok (.ireturn, 1) := by decide +kernel
theorem d_M_bit_0 : decode b_M_bit 0 = .ok (.aload_n 0, 1) := by decide +kernel
theorem d_M_bit_1 : decode b_M_bit 1 = .ok (.iconst 0, 1) := by decide +kernel
theorem d_M_bit_2 : decode b_M_bit 2 = .ok (.putfield 27, 3) := by decide +kernel
theorem d_M_bit_5 : decode b_M_bit 5 = .ok (.aload_n 0, 1) := by decide +kernel
theorem d_M_bit_6 : decode b_M_bit 6 = .ok (.iload_n 1, 1) := by decide +kernel
theorem d_M_bit_7 : decode b_M_bit 7 = .ok (.invokevirtual 60, 3) := by decide +kernel
theorem d_M_bit_10 : decode b_M_bit 10 = .ok (.ifCond .eq 30, 3) := by decide +kernel
theorem d_M_bit_13 : decode b_M_bit 13 = .ok (.iload_n 2, 1) := by decide +kernel
theorem d_M_bit_14 : decode b_M_bit 14 = .ok (.iconst 0, 1) := by decide +kernel
theorem d_M_bit_15 : decode b_M_bit 15 = .ok (.ldc 90, 2) := by decide +kernel
theorem d_M_bit_17 : decode b_M_bit 17 = .ok (.invokestatic 34, 3) := by decide +kernel
theorem d_M_bit_20 : decode b_M_bit 20 = .ok (.ifCond .eq 20, 3) := by decide +kernel
theorem d_M_bit_23 : decode b_M_bit 23 = .ok (.aload_n 0, 1) := by decide +kernel
theorem d_M_bit_24 : decode b_M_bit 24 = .ok (.iload_n 1, 1) := by decide +kernel
theorem d_M_bit_25 : decode b_M_bit 25 = .ok (.iload_n 2, 1) := by decide +kernel
theorem d_M_bit_26 : decode b_M_bit 26 = .ok (.invokevirtual 52, 3) := by decide +kernel
theorem d_M_bit_29 : decode b_M_bit 29 = .ok (.ifCond .eq 7, 3) := by decide +kernel
theorem d_M_bit_32 : decode b_M_bit 32 = .ok (.iconst 1, 1) := by decide +kernel
theorem d_M_bit_33 : decode b_M_bit 33 = .ok (.goto 8, 3) := by decide +kernel
theorem d_M_bit_36 : decode b_M_bit 36 = .ok (.iconst 0, 1) := by decide +kernel
theorem d_M_bit_37 : decode b_M_bit 37 = .ok (.goto 4, 3) := by decide +kernel
theorem d_M_bit_40 : decode b_M_bit 40 = .ok (.iconst (-1), 1) := by decide +kernel
theorem d_M_bit_41 : decode b_M_bit 41 = .ok (.ireturn, 1) := by decide +kernel
theorem d_M_onesAhead_0 : decode b_M_onesAhead 0 = .ok (.iload_n 2, 1) := by decide +kernel
theorem d_M_onesAhead_1 : decode b_M_onesAhead 1 = .ok (.aload_n 0, 1) := by decide +kernel
theorem d_M_onesAhead_2 : decode b_M_onesAhead 2 = .ok (.getfield 7, 3) := by decide +kernel
theorem d_M_onesAhead_5 : decode b_M_onesAhead 5 = .ok (.iload_n 1, 1) := by decide +kernel
theorem d_M_onesAhead_6 : decode b_M_onesAhead 6 = .ok (.iaload, 1) := by decide +kernel
theorem d_M_onesAhead_7 : decode b_M_onesAhead 7 = .ok (.if_icmp .gt 14, 3) := by decide +kernel
theorem d_M_onesAhead_10 : decode b_M_onesAhead 10 = .ok (.aload_n 0, 1) := by decide +kernel
theorem d_M_onesAhead_11 : decode b_M_onesAhead 11 = .ok (.getfield 16, 3) := by decide +kernel
theorem d_M_onesAhead_14 : decode b_M_onesAhead 14 = .ok (.iload_n 1, 1) := by decide +kernel
theorem d_M_onesAhead_15 : decode b_M_onesAhead 15 = .ok (.laload, 1) := by decide +kernel
theorem d_M_onesAhead_16 : decode b_M_onesAhead 16 = .ok (.iload_n 2, 1) := by decide +kernel
theorem d_M_onesAhead_17 : decode b_M_onesAhead 17 = .ok (.invokestatic 38, 3) := by decide +kernel
theorem d_M_onesAhead_20 : decode b_M_onesAhead 20 = .ok (.ireturn, 1) := by decide +kernel
theorem d_M_onesAhead_21 : decode b_M_onesAhead 21 = .ok (.iload_n 2, 1) := by decide +kernel
theorem d_M_onesAhead_22 : decode b_M_onesAhead 22 = .ok (.aload_n 0, 1) := by decide +kernel
theorem d_M_onesAhead_23 : decode b_M_onesAhead 23 = .ok (.getfield 7, 3) := by decide +kernel
theorem d_M_onesAhead_26 : decode b_M_onesAhead 26 = .ok (.iload_n 1, 1) := by decide +kernel
theorem d_M_onesAhead_27 : decode b_M_onesAhead 27 = .ok (.iaload, 1) := by decide +kernel
theorem d_M_onesAhead_28 : decode b_M_onesAhead 28 = .ok (.isub, 1) := by decide +kernel
theorem d_M_onesAhead_29 : decode b_M_onesAhead 29 = .ok (.istore_n 3, 1) := by decide +kernel
theorem d_M_onesAhead_30 : decode b_M_onesAhead 30 = .ok (.aload_n 0, 1) := by decide +kernel
theorem d_M_onesAhead_31 : decode b_M_onesAhead 31 = .ok (.getfield 16, 3) := by decide +kernel
theorem d_M_onesAhead_34 : decode b_M_onesAhead 34 = .ok (.iload_n 1, 1) := by decide +kernel
theorem d_M_onesAhead_35 : decode b_M_onesAhead 35 = .ok (.laload, 1) := by decide +kernel
theorem d_M_onesAhead_36 : decode b_M_onesAhead 36 = .ok (.aload_n 0, 1) := by decide +kernel
theorem d_M_onesAhead_37 : decode b_M_onesAhead 37 = .ok (.getfield 7, 3) := by decide +kernel
theorem d_M_onesAhead_40 : decode b_M_onesAhead 40 = .ok (.iload_n 1, 1) := by decide +kernel
theorem d_M_onesAhead_41 : decode b_M_onesAhead 41 = .ok (.iaload, 1) := by decide +kernel
