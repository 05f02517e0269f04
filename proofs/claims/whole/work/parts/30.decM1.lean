theorem d_M_init_0 : decode b_M_init 0 = .ok (.aload_n 0, 1) := by decide +kernel
theorem d_M_init_1 : decode b_M_init 1 = .ok (.invokespecial 1, 3) := by decide +kernel
theorem d_M_init_4 : decode b_M_init 4 = .ok (.aload_n 0, 1) := by decide +kernel
theorem d_M_init_5 : decode b_M_init 5 = .ok (.bipush 40, 2) := by decide +kernel
theorem d_M_init_7 : decode b_M_init 7 = .ok (.newarray .int, 2) := by decide +kernel
theorem d_M_init_9 : decode b_M_init 9 = .ok (.putfield 7, 3) := by decide +kernel
theorem d_M_init_12 : decode b_M_init 12 = .ok (.aload_n 0, 1) := by decide +kernel
theorem d_M_init_13 : decode b_M_init 13 = .ok (.bipush 40, 2) := by decide +kernel
theorem d_M_init_15 : decode b_M_init 15 = .ok (.newarray .int, 2) := by decide +kernel
theorem d_M_init_17 : decode b_M_init 17 = .ok (.putfield 13, 3) := by decide +kernel
theorem d_M_init_20 : decode b_M_init 20 = .ok (.aload_n 0, 1) := by decide +kernel
theorem d_M_init_21 : decode b_M_init 21 = .ok (.bipush 40, 2) := by decide +kernel
theorem d_M_init_23 : decode b_M_init 23 = .ok (.newarray .long, 2) := by decide +kernel
theorem d_M_init_25 : decode b_M_init 25 = .ok (.putfield 16, 3) := by decide +kernel
theorem d_M_init_28 : decode b_M_init 28 = .ok (.aload_n 0, 1) := by decide +kernel
theorem d_M_init_29 : decode b_M_init 29 = .ok (.bipush 40, 2) := by decide +kernel
theorem d_M_init_31 : decode b_M_init 31 = .ok (.newarray .long, 2) := by decide +kernel
theorem d_M_init_33 : decode b_M_init 33 = .ok (.putfield 20, 3) := by decide +kernel
theorem d_M_init_36 : decode b_M_init 36 = .ok (.aload_n 0, 1) := by decide +kernel
theorem d_M_init_37 : decode b_M_init 37 = .ok (.sipush 7400, 3) := by decide +kernel
theorem d_M_init_40 : decode b_M_init 40 = .ok (.newarray .boolean, 2) := by decide +kernel
theorem d_M_init_42 : decode b_M_init 42 = .ok (.putfield 23, 3) := by decide +kernel
theorem d_M_init_45 : decode b_M_init 45 = .ok (.return_, 1) := by decide +kernel
theorem d_M_thrown_0 : decode b_M_thrown 0 = .ok (.aload_n 0, 1) := by decide +kernel
theorem d_M_thrown_1 : decode b_M_thrown 1 = .ok (.getfield 27, 3) := by decide +kernel
theorem d_M_thrown_4 : decode b_M_thrown 4 = .ok (.ireturn, 1) := by decide +kernel
theorem d_M_raise_0 : decode b_M_raise 0 = .ok (.aload_n 0, 1) := by decide +kernel
theorem d_M_raise_1 : decode b_M_raise 1 = .ok (.iconst 1, 1) := by decide +kernel
theorem d_M_raise_2 : decode b_M_raise 2 = .ok (.putfield 27, 3) := by decide +kernel
theorem d_M_raise_5 : decode b_M_raise 5 = .ok (.iconst 0, 1) := by decide +kernel
theorem d_M_raise_6 : decode b_M_raise 6 = .ok (.ireturn, 1) := by decide +kernel
theorem d_M_in_0 : decode b_M_in 0 = .ok (.iload_n 0, 1) := by decide +kernel
theorem d_M_in_1 : decode b_M_in 1 = .ok (.iload_n 1, 1) := by decide +kernel
theorem d_M_in_2 : decode b_M_in 2 = .ok (.if_icmp .lt 12, 3) := by decide +kernel
theorem d_M_in_5 : decode b_M_in 5 = .ok (.iload_n 0, 1) := by decide +kernel
theorem d_M_in_6 : decode b_M_in 6 = .ok (.iload_n 2, 1) := by decide +kernel
theorem d_M_in_7 : decode b_M_in 7 = .ok (.if_icmp .gt 7, 3) := by decide +kernel
theorem d_M_in_10 : decode b_M_in 10 = .ok (.iconst 1, 1) := by decide +kernel
theorem d_M_in_11 : decode b_M_in 11 = .ok (.goto 4, 3) := by decide +kernel
theorem d_M_in_14 : decode b_M_in 14 = .ok (.iconst 0, 1) := by decide +kernel
theorem d_M_in_15 : decode b_M_in 15 = .ok (.ireturn, 1) := by decide +kernel
theorem d_M_isWord_0 : decode b_M_isWord 0 = .ok (.iload_n 1, 1) := by decide +kernel
theorem d_M_isWord_1 : decode b_M_isWord 1 = .ok (.iconst 0, 1) := by decide +kernel
theorem d_M_isWord_2 : decode b_M_isWord 2 = .ok (.aload_n 0, 1) := by decide +kernel
theorem d_M_isWord_3 : decode b_M_isWord 3 = .ok (.getfield 31, 3) := by decide +kernel
theorem d_M_isWord_6 : decode b_M_isWord 6 = .ok (.iconst 1, 1) := by decide +kernel
theorem d_M_isWord_7 : decode b_M_isWord 7 = .ok (.isub, 1) := by decide +kernel
theorem d_M_isWord_8 : decode b_M_isWord 8 = .ok (.invokestatic 34, 3) := by decide +kernel
theorem d_M_isWord_11 : decode b_M_isWord 11 = .ok (.ireturn, 1) := by decide +kernel
theorem d_M_has_0 : decode b_M_has 0 = .ok (.iload_n 2, 1) := by decide +kernel
theorem d_M_has_1 : decode b_M_has 1 = .ok (.aload_n 0, 1) := by decide +kernel
theorem d_M_has_2 : decode b_M_has 2 = .ok (.getfield 7, 3) := by decide +kernel
theorem d_M_has_5 : decode b_M_has 5 = .ok (.iload_n 1, 1) := by decide +kernel
theorem d_M_has_6 : decode b_M_has 6 = .ok (.iaload, 1) := by decide +kernel
theorem d_M_has_7 : decode b_M_has 7 = .ok (.if_icmp .ge 16, 3) := by decide +kernel
theorem d_M_has_10 : decode b_M_has 10 = .ok (.aload_n 0, 1) := by decide +kernel
theorem d_M_has_11 : decode b_M_has 11 = .ok (.getfield 16, 3) := by decide +kernel
theorem d_M_has_14 : decode b_M_has 14 = .ok (.iload_n 1, 1) := by decide +kernel
theorem d_M_has_15 : decode b_M_has 15 = .ok (.laload, 1) := by decide +kernel
theorem d_M_has_16 : decode b_M_has 16 = .ok (.iload_n 2, 1) := by decide +kernel
theorem d_M_has_17 : decode b_M_has 17 = .ok (.lshr, 1) := by decide +kernel
theorem d_M_has_18 : decode b_M_has 18 = .ok (.lconst 1, 1) := by decide +kernel
theorem d_M_has_19 : decode b_M_has 19 = .ok (.land, 1) := by decide +kernel
theorem d_M_has_20 : decode b_M_has 20 = .ok (.goto 27, 3) := by decide +kernel
theorem d_M_has_23 : decode b_M_has 23 = .ok (.aload_n 0, 1) := by decide +kernel
theorem d_M_has_24 : decode b_M_has 24 = .ok (.getfield 20, 3) := by decide +kernel
theorem d_M_has_27 : decode b_M_has 27 = .ok (.iload_n 1, 1) := by decide +kernel
theorem d_M_has_28 : decode b_M_has 28 = .ok (.laload, 1) := by decide +kernel
theorem d_M_has_29 : decode b_M_has 29 = .ok (.iload_n 2, 1) := by decide +kernel
theorem d_M_has_30 : decode b_M_has 30 = .ok (.aload_n 0, 1) := by decide +kernel
theorem d_M_has_31 : decode b_M_has 31 = .ok (.getfield 7, 3) := by decide +kernel
theorem d_M_has_34 : decode b_M_has 34 = .ok (.iload_n 1, 1) := by decide +kernel
theorem d_M_has_35 : decode b_M_has 35 = .ok (.iaload, 1) := by decide +kernel
theorem d_M_has_36 : decode b_M_has 36 = .ok (.isub, 1) := by decide +kernel
theorem d_M_has_37 : decode b_M_has 37 = .ok (.aload_n 0, 1) := by decide +kernel
theorem d_M_has_38 : decode b_M_has 38 = .ok (.getfield 13, 3) := by decide +kernel
theorem d_M_has_41 : decode b_M_has 41 = .ok (.iload_n 1, 1) := by decide +kernel
theorem d_M_has_42 : decode b_M_has 42 = .ok (.iaload, 1) := by decide +kernel
theorem d_M_has_43 : decode b_M_has 43 = .ok (.irem, 1) := by decide +kernel
theorem d_M_has_44 : decode b_M_has 44 = .ok (.lshr, 1) := by decide +kernel
theorem d_M_has_45 : decode b_M_has 45 = .ok (.lconst 1, 1) := by decide +kernel
theorem d_M_has_46 : decode b_M_has 46 = .ok (.land, 1) := by decide +kernel
theorem d_M_has_47 : decode b_M_has 47 = .ok (.lconst 1, 1) := by decide +kernel
theorem d_M_has_48 : decode b_M_has 48 = .ok (.lcmp, 1) := by decide +kernel
theorem d_M_has_49 : decode b_M_has 49 = .ok (.ifCond .ne 7, 3) := by decide +kernel
theorem d_M_has_52 : decode b_M_has 52 = .ok (.iconst 1, 1) := by decide +kernel
theorem d_M_has_53 : decode b_M_has 53 = .ok (.goto 4, 3) := by decide +kernel
theorem d_M_has_56 : decode b_M_has 56 = .ok (.iconst 0, 1) := by decide +kernel
theorem d_M_has_57 : decode b_M_has 57 = .ok (.ireturn, 1) := by decide +kernel
theorem d_M_onesOf_0 : decode b_M_onesOf 0 = .ok (.iconst 0, 1) := by decide +kernel
theorem d_M_onesOf_1 : decode b_M_onesOf 1 = .ok (.istore_n 3, 1) := by decide +kernel
theorem d_M_onesOf_2 : decode b_M_onesOf 2 = .ok (.iconst 0, 1) := by decide +kernel
theorem d_M_onesOf_3 : decode b_M_onesOf 3 = .ok (.istore 4, 2) := by decide +kernel
theorem d_M_onesOf_5 : decode b_M_onesOf 5 = .ok (.iload 4, 2) := by decide +kernel
theorem d_M_onesOf_7 : decode b_M_onesOf 7 = .ok (.iload_n 2, 1) := by decide +kernel
theorem d_M_onesOf_8 : decode b_M_onesOf 8 = .ok (.if_icmp .ge 19, 3) := by decide +kernel
theorem d_M_onesOf_11 : decode b_M_onesOf 11 = .ok (.iload_n 3, 1) := by decide +kernel
theorem d_M_onesOf_12 : decode b_M_onesOf 12 = .ok (.lload_n 0, 1) := by decide +kernel
theorem d_M_onesOf_13 : decode b_M_onesOf 13 = .ok (.iload 4, 2) := by decide +kernel
theorem d_M_onesOf_15 : decode b_M_onesOf 15 = .ok (.lshr, 1) := by decide +kernel
theorem d_M_onesOf_16 : decode b_M_onesOf 16 = .ok (.lconst 1, 1) := by decide +kernel
theorem d_M_onesOf_17 : decode b_M_onesOf 17 = .ok (.land, 1) := by decide +kernel
theorem d_M_onesOf_18 : decode b_M_onesOf 18 = .ok (.l2i, 1) := by decide +kernel
theorem d_M_onesOf_19 : decode b_M_onesOf 19 = .ok (.iadd, 1) := by decide +kernel
theorem d_M_onesOf_20 : decode b_M_onesOf 20 = .ok (.istore_n 3, 1) := by decide +kernel
theorem d_M_onesOf_21 : decode b_M_onesOf 21 = .ok (.iinc 4 1, 3) := by decide +kernel
theorem d_M_onesOf_24 : decode b_M_onesOf 24 = .ok (.goto (-19), 3) := by decide +kernel
theorem d_M_onesOf_27 : decode b_M_onesOf 27 = .ok (.iload_n 3, 1) := by decide +kernel
theorem d_M_onesOf_28 : decode b_M_onesOf 28 = .ok (.ireturn, 1) := by decide +kernel
theorem d_M_inRing_0 : decode b_M_inRing 0 = .ok (.aload_n 0, 1) := by decide +kernel
theorem d_M_inRing_1 : decode b_M_inRing 1 = .ok (.getfield 20, 3) := by decide +kernel
theorem d_M_inRing_4 : decode b_M_inRing 4 = .ok (.iload_n 1, 1) := by decide +kernel
theorem d_M_inRing_5 : decode b_M_inRing 5 = .ok (.laload, 1) := by decide +kernel
theorem d_M_inRing_6 : decode b_M_inRing 6 = .ok (.aload_n 0, 1) := by decide +kernel
theorem d_M_inRing_7 : decode b_M_inRing 7 = .ok (.getfield 13, 3) := by decide +kernel
theorem d_M_inRing_10 : decode b_M_inRing 10 = .ok (.iload_n 1, 1) := by decide +kernel
theorem d_M_inRing_11 : decode b_M_inRing 11 = .ok (.iaload, 1) := by decide +kernel
theorem d_M_inRing_12 : decode b_M_inRing 12 = .ok (.invokestatic 38, 3) := by decide +kernel
theorem d_M_inRing_15 : decode b_M_inRing 15 = .ok (.ireturn, 1) := by decide +kernel
theorem d_M_settle_0 : decode b_M_settle 0 = .ok (.iconst 1, 1) := by decide +kernel
theorem d_M_settle_1 : decode b_M_settle 1 = .ok (.istore_n 3, 1) := by decide +kernel
theorem d_M_settle_2 : decode b_M_settle 2 = .ok (.iload_n 2, 1) := by decide +kernel
theorem d_M_settle_3 : decode b_M_settle 3 = .ok (.iload_n 3, 1) := by decide +kernel
theorem d_M_settle_4 : decode b_M_settle 4 = .ok (.irem, 1) := by decide +kernel
theorem d_M_settle_5 : decode b_M_settle 5 = .ok (.ifCond .ne 13, 3) := by decide +kernel
theorem d_M_settle_8 : decode b_M_settle 8 = .ok (.aload_n 0, 1) := by decide +kernel
theorem d_M_settle_9 : decode b_M_settle 9 = .ok (.iload_n 1, 1) := by decide +kernel
theorem d_M_settle_10 : decode b_M_settle 10 = .ok (.iload_n 2, 1) := by decide +kernel
theorem d_M_settle_11 : decode b_M_settle 11 = .ok (.iload_n 3, 1) := by decide +kernel
theorem d_M_settle_12 : decode b_M_settle 12 = .ok (.invokevirtual 42, 3) := by decide +kernel
theorem d_M_settle_15 : decode b_M_settle 15 = .ok (.ifCond .ne 9, 3) := by decide +kernel
theorem d_M_settle_18 : decode b_M_settle 18 = .ok (.iinc 3 1, 3) := by decide +kernel
theorem d_M_settle_21 : decode b_M_settle 21 = .ok (.goto (-19), 3) := by decide +kernel
theorem d_M_settle_24 : decode b_M_settle 24 = .ok (.iload_n 1, 1) := by decide +kernel
theorem d_M_settle_25 : decode b_M_settle 25 = .ok (.istore 4, 2) := by decide +kernel
theorem d_M_settle_27 : decode b_M_settle 27 = .ok (.iload 4, 2) := by decide +kernel
theorem d_M_settle_29 : decode b_M_settle 29 = .ok (.ifCond .le 32, 3) := by decide +kernel
theorem d_M_settle_32 : decode b_M_settle 32 = .ok (.aload_n 0, 1) := by decide +kernel
theorem d_M_settle_33 : decode b_M_settle 33 = .ok (.getfield 23, 3) := by decide +kernel
theorem d_M_settle_36 : decode b_M_settle 36 = .ok (.iload 4, 2) := by decide +kernel
theorem d_M_settle_38 : decode b_M_settle 38 = .ok (.iconst 1, 1) := by decide +kernel
theorem d_M_settle_39 : decode b_M_settle 39 = .ok (.isub, 1) := by decide +kernel
theorem d_M_settle_40 : decode b_M_settle 40 = .ok (.baload, 1) := by decide +kernel
theorem d_M_settle_41 : decode b_M_settle 41 = .ok (.aload_n 0, 1) := by decide +kernel
theorem d_M_settle_42 : decode b_M_settle 42 = .ok (.getfield 23, 3) := by decide +kernel
theorem d_M_settle_45 : decode b_M_settle 45 = .ok (.iload 4, 2) := by decide +kernel
theorem d_M_settle_47 : decode b_M_settle 47 = .ok (.iconst 1, 1) := by decide +kernel
theorem d_M_settle_48 : decode b_M_settle 48 = .ok (.isub, 1) := by decide +kernel
theorem d_M_settle_49 : decode b_M_settle 49 = .ok (.iload_n 3, 1) := by decide +kernel
theorem d_M_settle_50 : decode b_M_settle 50 = .ok (.iadd, 1) := by decide +kernel
theorem d_M_settle_51 : decode b_M_settle 51 = .ok (.baload, 1) := by decide +kernel
theorem d_M_settle_52 : decode b_M_settle 52 = .ok (.if_icmp .ne 9, 3) := by decide +kernel
theorem d_M_settle_55 : decode b_M_settle 55 = .ok (.iinc 4 (-1), 3) := by decide +kernel
theorem d_M_settle_58 : decode b_M_settle 58 = .ok (.goto (-31), 3) := by decide +kernel
theorem d_M_settle_61 : decode b_M_settle 61 = .ok (.iload 4, 2) := by decide +kernel
theorem d_M_settle_63 : decode b_M_settle 63 = .ok (.bipush 60, 2) := by decide +kernel
theorem d_M_settle_65 : decode b_M_settle 65 = .ok (.if_icmp .gt 9, 3) := by decide +kernel
theorem d_M_settle_68 : decode b_M_settle 68 = .ok (.iload_n 3, 1) := by decide +kernel
theorem d_M_settle_69 : decode b_M_settle 69 = .ok (.bipush 60, 2) := by decide +kernel
theorem d_M_settle_71 : decode b_M_settle 71 = .ok (.if_icmp .le 5, 3) := by decide +kernel
theorem d_M_settle_74 : decode b_M_settle 74 = .ok (.iconst (-1), 1) := by decide +kernel
theorem d_M_settle_75 : decode b_M_settle 75 = .ok (.ireturn, 1) := by decide +kernel
theorem d_M_settle_76 : decode b_M_settle 76 = .ok (.aload_n 0, 1) := by decide +kernel
theorem d_M_settle_77 : decode b_M_settle 77 = .ok (.getfield 7, 3) := by decide +kernel
theorem d_M_settle_80 : decode b_M_settle 80 = .ok (.aload_n 0, 1) := by decide +kernel
theorem d_M_settle_81 : decode b_M_settle 81 = .ok (.getfield 31, 3) := by decide +kernel
theorem d_M_settle_84 : decode b_M_settle 84 = .ok (.iload 4, 2) := by decide +kernel
theorem d_M_settle_86 : decode b_M_settle 86 = .ok (.iastore, 1) := by decide +kernel
theorem d_M_settle_87 : decode b_M_settle 87 = .ok (.aload_n 0, 1) := by decide +kernel
theorem d_M_settle_88 : decode b_M_settle 88 = .ok (.getfield 13, 3) := by decide +kernel
theorem d_M_settle_91 : decode b_M_settle 91 = .ok (.aload_n 0, 1) := by decide +kernel
theorem d_M_settle_92 : decode b_M_settle 92 = .ok (.getfield 31, 3) := by decide +kernel
theorem d_M_settle_95 : decode b_M_settle 95 = .ok (.iload_n 3, 1) := by decide +kernel
theorem d_M_settle_96 : decode b_M_settle 96 = .ok (.iastore, 1) := by decide +kernel
theorem d_M_settle_97 : decode b_M_settle 97 = .ok (.aload_n 0, 1) := by decide +kernel
theorem d_M_settle_98 : decode b_M_settle 98 = .ok (.getfield 16, 3) := by decide +kernel
theorem d_M_settle_101 : decode b_M_settle 101 = .ok (.aload_n 0, 1) := by decide +kernel
theorem d_M_settle_102 : decode b_M_settle 102 = .ok (.getfield 31, 3) := by decide +kernel
theorem d_M_settle_105 : decode b_M_settle 105 = .ok (.lconst 0, 1) := by decide +kernel
theorem d_M_settle_106 : decode b_M_settle 106 = .ok (.lastore, 1) := by decide +kernel
theorem d_M_settle_107 : decode b_M_settle 107 = .ok (.aload_n 0, 1) := by decide +kernel
theorem d_M_settle_108 : decode b_M_settle 108 = .ok (.getfield 20, 3) := by decide +kernel
theorem d_M_settle_111 : decode b_M_settle 111 = .ok (.aload_n 0, 1) := by decide +kernel
theorem d_M_settle_112 : decode b_M_settle 112 = .ok (.getfield 31, 3) := by decide +kernel
theorem d_M_settle_115 : decode b_M_settle 115 = .ok (.lconst 0, 1) := by decide +kernel
theorem d_M_settle_116 : decode b_M_settle 116 = .ok (.lastore, 1) := by decide +kernel
theorem d_M_settle_117 : decode b_M_settle 117 = .ok (.iconst 0, 1) := by decide +kernel
theorem d_M_settle_118 : decode b_M_settle 118 = .ok (.istore 5, 2) := by decide +kernel
theorem d_M_settle_120 : decode b_M_settle 120 = .ok (.iload 5, 2) := by decide +kernel
theorem d_M_settle_122 : decode b_M_settle 122 = .ok (.iload 4, 2) := by decide +kernel
theorem d_M_settle_124 : decode b_M_settle 124 = .ok (.if_icmp .ge 39, 3) := by decide +kernel
theorem d_M_settle_127 : decode b_M_settle 127 = .ok (.aload_n 0, 1) := by decide +kernel
theorem d_M_settle_128 : decode b_M_settle 128 = .ok (.getfield 16, 3) := by decide +kernel
theorem d_M_settle_131 : decode b_M_settle 131 = .ok (.aload_n 0, 1) := by decide +kernel
theorem d_M_settle_132 : decode b_M_settle 132 = .ok (.getfield 31, 3) := by decide +kernel
theorem d_M_settle_135 : decode b_M_settle 135 = .ok (.dup2, 1) := by decide +kernel
theorem d_M_settle_136 : decode b_M_settle 136 = .ok (.laload, 1) := by decide +kernel
theorem d_M_settle_137 : decode b_M_settle 137 = .ok (.aload_n 0, 1) := by decide +kernel
theorem d_M_settle_138 : decode b_M_settle 138 = .ok (.getfield 23, 3) := by decide +kernel
theorem d_M_settle_141 : decode b_M_settle 141 = .ok (.iload 5, 2) := by decide +kernel
theorem d_M_settle_143 : decode b_M_settle 143 = .ok (.baload, 1) := by decide +kernel
theorem d_M_settle_144 : decode b_M_settle 144 = .ok (.ifCond .eq 10, 3) := by decide +kernel
theorem d_M_settle_147 : decode b_M_settle 147 = .ok (.lconst 1, 1) := by decide +kernel
theorem d_M_settle_148 : decode b_M_settle 148 = .ok (.iload 5, 2) := by decide +kernel
theorem d_M_settle_150 : decode b_M_settle 150 = .ok (.lshl, 1) := by decide +kernel
theorem d_M_settle_151 : decode b_M_settle 151 = .ok (.goto 4, 3) := by decide +kernel
theorem d_M_settle_154 : decode b_M_settle 154 = .ok (.lconst 0, 1) := by decide +kernel
theorem d_M_settle_155 : decode b_M_settle 155 = .ok (.lor, 1) := by decide +kernel
theorem d_M_settle_156 : decode b_M_settle 156 = .ok (.lastore, 1) := by decide +kernel
theorem d_M_settle_157 : decode b_M_settle 157 = .ok (.iinc 5 1, 3) := by decide +kernel
theorem d_M_settle_160 : decode b_M_settle 160 = .ok (.goto (-40), 3) := by decide +kernel
theorem d_M_settle_163 : decode b_M_settle 163 = .ok (.iconst 0, 1) := by decide +kernel
theorem d_M_settle_164 : decode b_M_settle 164 = .ok (.istore 5, 2) := by decide +kernel
theorem d_M_settle_166 : decode b_M_settle 166 = .ok (.iload 5, 2) := by decide +kernel
theorem d_M_settle_168 : decode b_M_settle 168 = .ok (.iload_n 3, 1) := by decide +kernel
theorem d_M_settle_169 : decode b_M_settle 169 = .ok (.if_icmp .ge 42, 3) := by decide +kernel
theorem d_M_settle_172 : decode b_M_settle 172 = .ok (.aload_n 0, 1) := by decide +kernel
theorem d_M_settle_173 : decode b_M_settle 173 = .ok (.getfield 20, 3) := by decide +kernel
theorem d_M_settle_176 : decode b_M_settle 176 = .ok (.aload_n 0, 1) := by decide +kernel
theorem d_M_settle_177 : decode b_M_settle 177 = .ok (.getfield 31, 3) := by decide +kernel
theorem d_M_settle_180 : decode b_M_settle 180 = .ok (.dup2, 1) := by decide +kernel
theorem d_M_settle_181 : decode b_M_settle 181 = .ok (.laload, 1) := by decide +kernel
theorem d_M_settle_182 : decode b_M_settle 182 = .ok (.aload_n 0, 1) := by decide +kernel
theorem d_M_settle_183 : decode b_M_settle 183 = .ok (.getfield 23, 3) := by decide +kernel
theorem d_M_settle_186 : decode b_M_settle 186 = .ok (.iload 4, 2) := by decide +kernel
theorem d_M_settle_188 : decode b_M_settle 188 = .ok (.iload 5, 2) := by decide +kernel
theorem d_M_settle_190 : decode b_M_settle 190 = .ok (.iadd, 1) := by decide +kernel
theorem d_M_settle_191 : decode b_M_settle 191 = .ok (.baload, 1) := by decide +kernel
theorem d_M_settle_192 : decode b_M_settle 192 = .ok (.ifCond .eq 10, 3) := by decide +kernel
theorem d_M_settle_195 : decode b_M_settle 195 = .ok (.lconst 1, 1) := by decide +kernel
theorem d_M_settle_196 : decode b_M_settle 196 = .ok (.iload 5, 2) := by decide +kernel
theorem d_M_settle_198 : decode b_M_settle 198 = .ok (.lshl, 1) := by decide +kernel
theorem d_M_settle_199 : decode b_M_settle 199 = .ok (.goto 4, 3) := by decide +kernel
theorem d_M_settle_202 : decode b_M_settle 202 = .ok (.lconst 0, 1) := by decide +kernel
theorem d_M_settle_203 : decode b_M_settle 203 = .ok (.lor, 1) := by decide +kernel
theorem d_M_settle_204 : decode b_M_settle 204 = .ok (.lastore, 1) := by decide +kernel
theorem d_M_settle_205 : decode b_M_settle 205 = .ok (.iinc 5 1, 3) := by decide +kernel
theorem d_M_settle_208 : decode b_M_settle 208 = .ok (.goto (-42), 3) := by decide +kernel
theorem d_M_settle_211 : decode b_M_settle 211 = .ok (.aload_n 0, 1) := by decide +kernel
theorem d_M_settle_212 : decode b_M_settle 212 = .ok (.dup, 1) := by decide +kernel
theorem d_M_settle_213 : decode b_M_settle 213 = .ok (.getfield 31, 3) := by decide +kernel
theorem d_M_settle_216 : decode b_M_settle 216 = .ok (.iconst 1, 1) := by decide +kernel
theorem d_M_settle_217 : decode b_M_settle 217 = .ok (.iadd, 1) := by decide +kernel
theorem d_M_settle_218 : decode b_M_settle 218 = .ok (.putfield 31, 3) := by decide +kernel
theorem d_M_settle_221 : decode b_M_settle 221 = .ok (.aload_n 0, 1) := by decide +kernel
theorem d_M_settle_222 : decode b_M_settle 222 = .ok (.getfield 31, 3) := by decide +kernel
theorem d_M_settle_225 : decode b_M_settle 225 = .ok (.iconst 1, 1) := by decide +kernel
theorem d_M_settle_226 : decode b_M_settle 226 = .ok (.isub, 1) := by decide +kernel
theorem d_M_settle_227 : decode b_M_settle 227 = .ok (.ireturn, 1) := by decide +kernel
theorem d_M_comesBack_0 : decode b_M_comesBack 0 = .ok (.iconst 0, 1) := by decide +kernel
theorem d_M_comesBack_1 : decode b_M_comesBack 1 = .ok (.istore 4, 2) := by decide +kernel
theorem d_M_comesBack_3 : decode b_M_comesBack 3 = .ok (.iload 4, 2) := by decide +kernel
theorem d_M_comesBack_5 : decode b_M_comesBack 5 = .ok (.iload_n 3, 1) := by decide +kernel
theorem d_M_comesBack_6 : decode b_M_comesBack 6 = .ok (.iadd, 1) := by decide +kernel
theorem d_M_comesBack_7 : decode b_M_comesBack 7 = .ok (.iload_n 2, 1) := by decide +kernel
theorem d_M_comesBack_8 : decode b_M_comesBack 8 = .ok (.if_icmp .ge 34, 3) := by decide +kernel
theorem d_M_comesBack_11 : decode b_M_comesBack 11 = .ok (.aload_n 0, 1) := by decide +kernel
theorem d_M_comesBack_12 : decode b_M_comesBack 12 = .ok (.getfield 23, 3) := by decide +kernel
theorem d_M_comesBack_15 : decode b_M_comesBack 15 = .ok (.iload_n 1, 1) := by decide +kernel
theorem d_M_comesBack_16 : decode b_M_comesBack 16 = .ok (.iload 4, 2) := by decide +kernel
theorem d_M_comesBack_18 : decode b_M_comesBack 18 = .ok (.iadd, 1) := by decide +kernel
theorem d_M_comesBack_19 : decode b_M_comesBack 19 = .ok (.baload, 1) := by decide +kernel
theorem d_M_comesBack_20 : decode b_M_comesBack 20 = .ok (.aload_n 0, 1) := by decide +kernel
theorem d_M_comesBack_21 : decode b_M_comesBack 21 = .ok (.getfield 23, 3) := by decide +kernel
theorem d_M_comesBack_24 : decode b_M_comesBack 24 = .ok (.iload_n 1, 1) := by decide +kernel
theorem d_M_comesBack_25 : decode b_M_comesBack 25 = .ok (.iload 4, 2) := by decide +kernel
theorem d_M_comesBack_27 : decode b_M_comesBack 27 = .ok (.iadd, 1) := by decide +kernel
theorem d_M_comesBack_28 : decode b_M_comesBack 28 = .ok (.iload_n 3, 1) := by decide +kernel
theorem d_M_comesBack_29 : decode b_M_comesBack 29 = .ok (.iadd, 1) := by decide +kernel
theorem d_M_comesBack_30 : decode b_M_comesBack 30 = .ok (.baload, 1) := by decide +kernel
theorem d_M_comesBack_31 : decode b_M_comesBack 31 = .ok (.if_icmp .eq 5, 3) := by decide +kernel
theorem d_M_comesBack_34 : decode b_M_comesBack 34 = .ok (.iconst 0, 1) := by decide +kernel
theorem d_M_comesBack_35 : decode b_M_comesBack 35 = .ok (.ireturn, 1) := by decide +kernel
theorem d_M_comesBack_36 : decode b_M_comesBack 36 = .ok (.iinc 4 1, 3) := by decide +kernel
theorem d_M_comesBack_39 : decode b_M_comesBack 39 = .ok (.goto (-36), 3) := by decide +kernel
theorem d_M_comesBack_42 : decode b_M_comesBack 42 = .ok (.iconst 1, 1) := by decide +kernel
theorem d_M_comesBack_43 : decode b_M_comesBack 43 = .ok (.ireturn, 1) := by decide +kernel
theorem d_M_word_0 : decode b_M_word 0 = .ok (.aload_n 0, 1) := by decide +kernel
theorem d_M_word_1 : decode b_M_word 1 = .ok (.iconst 0, 1) := by decide +kernel
theorem d_M_word_2 : decode b_M_word 2 = .ok (.putfield 27, 3) := by decide +kernel
theorem d_M_word_5 : decode b_M_word 5 = .ok (.iload_n 1, 1) := by decide +kernel
theorem d_M_word_6 : decode b_M_word 6 = .ok (.iconst 0, 1) := by decide +kernel
theorem d_M_word_7 : decode b_M_word 7 = .ok (.bipush 30, 2) := by decide +kernel
theorem d_M_word_9 : decode b_M_word 9 = .ok (.invokestatic 34, 3) := by decide +kernel
theorem d_M_word_12 : decode b_M_word 12 = .ok (.ifCond .eq 22, 3) := by decide +kernel
theorem d_M_word_15 : decode b_M_word 15 = .ok (.iload_n 3, 1) := by decide +kernel
theorem d_M_word_16 : decode b_M_word 16 = .ok (.iconst 1, 1) := by decide +kernel
theorem d_M_word_17 : decode b_M_word 17 = .ok (.bipush 30, 2) := by decide +kernel
theorem d_M_word_19 : decode b_M_word 19 = .ok (.invokestatic 34, 3) := by decide +kernel
theorem d_M_word_22 : decode b_M_word 22 = .ok (.ifCond .eq 12, 3) := by decide +kernel
theorem d_M_word_25 : decode b_M_word 25 = .ok (.aload_n 0, 1) := by decide +kernel
theorem d_M_word_26 : decode b_M_word 26 = .ok (.getfield 31, 3) := by decide +kernel
theorem d_M_word_29 : decode b_M_word 29 = .ok (.bipush 40, 2) := by decide +kernel
theorem d_M_word_31 : decode b_M_word 31 = .ok (.if_icmp .ne 5, 3) := by decide +kernel
theorem d_M_word_34 : decode b_M_word 34 = .ok (.iconst (-1), 1) := by decide +kernel
theorem d_M_word_35 : decode b_M_word 35 = .ok (.ireturn, 1) := by decide +kernel
theorem d_M_word_36 : decode b_M_word 36 = .ok (.iconst 0, 1) := by decide +kernel
theorem d_M_word_37 : decode b_M_word 37 = .ok (.istore 5, 2) := by decide +kernel
theorem d_M_word_39 : decode b_M_word 39 = .ok (.iload 5, 2) := by decide +kernel
theorem d_M_word_41 : decode b_M_word 41 = .ok (.iload_n 1, 1) := by decide +kernel
theorem d_M_word_42 : decode b_M_word 42 = .ok (.if_icmp .ge 31, 3) := by decide +kernel
theorem d_M_word_45 : decode b_M_word 45 = .ok (.aload_n 0, 1) := by decide +kernel
theorem d_M_word_46 : decode b_M_word 46 = .ok (.getfield 23, 3) := by decide +kernel
theorem d_M_word_49 : decode b_M_word 49 = .ok (.iload 5, 2) := by decide +kernel
theorem d_M_word_51 : decode b_M_word 51 = .ok (.iload_n 2, 1) := by decide +kernel
theorem d_M_word_52 : decode b_M_word 52 = .ok (.iload 5, 2) := by decide +kernel
theorem d_M_word_54 : decode b_M_word 54 = .ok (.ishr, 1) := by decide +kernel
theorem d_M_word_55 : decode b_M_word 55 = .ok (.iconst 1, 1) := by decide +kernel
theorem d_M_word_56 : decode b_M_word 56 = .ok (.iand, 1) := by decide +kernel
theorem d_M_word_57 : decode b_M_word 57 = .ok (.iconst 1, 1) := by decide +kernel
theorem d_M_word_58 : decode b_M_word 58 = .ok (.if_icmp .ne 7, 3) := by decide +kernel
theorem d_M_word_61 : decode b_M_word 61 = .ok (.iconst 1, 1) := by decide +kernel
theorem d_M_word_62 : decode b_M_word 62 = .ok (.goto 4, 3) := by decide +kernel
theorem d_M_word_65 : decode b_M_word 65 = .ok (.iconst 0, 1) := by decide +kernel
theorem d_M_word_66 : decode b_M_word 66 = .ok (.bastore, 1) := by decide +kernel
theorem d_M_word_67 : decode b_M_word 67 = .ok (.iinc 5 1, 3) := by decide +kernel
theorem d_M_word_70 : decode b_M_word 70 = .ok (.goto (-31), 3) := by decide +kernel
theorem d_M_word_73 : decode b_M_word 73 = .ok (.iconst 0, 1) := by decide +kernel
theorem d_M_word_74 : decode b_M_word 74 = .ok (.istore 5, 2) := by decide +kernel
theorem d_M_word_76 : decode b_M_word 76 = .ok (.iload 5, 2) := by decide +kernel
theorem d_M_word_78 : decode b_M_word 78 = .ok (.iload_n 3, 1) := by decide +kernel
theorem d_M_word_79 : decode b_M_word 79 = .ok (.if_icmp .ge 34, 3) := by decide +kernel
theorem d_M_word_82 : decode b_M_word 82 = .ok (.aload_n 0, 1) := by decide +kernel
theorem d_M_word_83 : decode b_M_word 83 = .ok (.getfield 23, 3) := by decide +kernel
theorem d_M_word_86 : decode b_M_word 86 = .ok (.iload_n 1, 1) := by decide +kernel
theorem d_M_word_87 : decode b_M_word 87 = .ok (.iload 5, 2) := by decide +kernel
theorem d_M_word_89 : decode b_M_word 89 = .ok (.iadd, 1) := by decide +kernel
theorem d_M_word_90 : decode b_M_word 90 = .ok (.iload 4, 2) := by decide +kernel
theorem d_M_word_92 : decode b_M_word 92 = .ok (.iload 5, 2) := by decide +kernel
theorem d_M_word_94 : decode b_M_word 94 = .ok (.ishr, 1) := by decide +kernel
theorem d_M_word_95 : decode b_M_word 95 = .ok (.iconst 1, 1) := by decide +kernel
theorem d_M_word_96 : decode b_M_word 96 = .ok (.iand, 1) := by decide +kernel
theorem d_M_word_97 : decode b_M_word 97 = .ok (.iconst 1, 1) := by decide +kernel
theorem d_M_word_98 : decode b_M_word 98 = .ok (.if_icmp .ne 7, 3) := by decide +kernel
theorem d_M_word_101 : decode b_M_word 101 = .ok (.iconst 1, 1) := by decide +kernel
theorem d_M_word_102 : decode b_M_word 102 = .ok (.goto 4, 3) := by decide +kernel
theorem d_M_word_105 : decode b_M_word 105 = .ok (.iconst 0, 1) := by decide +kernel
theorem d_M_word_106 : decode b_M_word 106 = .ok (.bastore, 1) := by decide +kernel
theorem d_M_word_107 : decode b_M_word 107 = .ok (.iinc 5 1, 3) := by decide +kernel
theorem d_M_word_110 : decode b_M_word 110 = .ok (.goto (-34), 3) := by decide +kernel
theorem d_M_word_113 : decode b_M_word 113 = .ok (.aload_n 0, 1) := by decide +kernel
theorem d_M_word_114 : decode b_M_word 114 = .ok (.iload_n 1, 1) := by decide +kernel
theorem d_M_word_115 : decode b_M_word 115 = .ok (.iload_n 3, 1) := by decide +kernel
theorem d_M_word_116 : decode b_M_word 116 = .ok (.invokevirtual 45, 3) := by decide +kernel
theorem d_M_word_119 : decode b_M_word 119 = .ok (.ireturn, 1) := by decide +kernel
theorem d_M_greater_0 : decode b_M_greater 0 = .ok (.iload_n 0, 1) := by decide +kernel
theorem d_M_greater_1 : decode b_M_greater 1 = .ok (.iload_n 1, 1) := by decide +kernel
theorem d_M_greater_2 : decode b_M_greater 2 = .ok (.if_icmp .le 7, 3) := by decide +kernel
theorem d_M_greater_5 : decode b_M_greater 5 = .ok (.iload_n 0, 1) := by decide +kernel
theorem d_M_greater_6 : decode b_M_greater 6 = .ok (.goto 4, 3) := by decide +kernel
theorem d_M_greater_9 : decode b_M_greater 9 = .ok (.iload_n 1, 1) := by decide +kernel
theorem d_M_greater_10 : decode b_M_greater 10 = .ok (.ireturn, 1) := by decide +kernel
theorem d_M_joined_0 : decode b_M_joined 0 = .ok (.aload_n 0, 1) := by decide +kernel
theorem d_M_joined_1 : decode b_M_joined 1 = .ok (.getfield 7, 3) := by decide +kernel
theorem d_M_joined_4 : decode b_M_joined 4 = .ok (.iload_n 2, 1) := by decide +kernel
theorem d_M_joined_5 : decode b_M_joined 5 = .ok (.iaload, 1) := by decide +kernel
theorem d_M_joined_6 : decode b_M_joined 6 = .ok (.aload_n 0, 1) := by decide +kernel
theorem d_M_joined_7 : decode b_M_joined 7 = .ok (.getfield 7, 3) := by decide +kernel
theorem d_M_joined_10 : decode b_M_joined 10 = .ok (.iload_n 3, 1) := by decide +kernel
theorem d_M_joined_11 : decode b_M_joined 11 = .ok (.iaload, 1) := by decide +kernel
theorem d_M_joined_12 : decode b_M_joined 12 = .ok (.invokestatic 49, 3) := by decide +kernel
theorem d_M_joined_15 : decode b_M_joined 15 = .ok (.istore 4, 2) := by decide +kernel
theorem d_M_joined_17 : decode b_M_joined 17 = .ok (.aload_n 0, 1) := by decide +kernel
theorem d_M_joined_18 : decode b_M_joined 18 = .ok (.getfield 13, 3) := by decide +kernel
theorem d_M_joined_21 : decode b_M_joined 21 = .ok (.iload_n 2, 1) := by decide +kernel
theorem d_M_joined_22 : decode b_M_joined 22 = .ok (.iaload, 1) := by decide +kernel
theorem d_M_joined_23 : decode b_M_joined 23 = .ok (.aload_n 0, 1) := by decide +kernel
theorem d_M_joined_24 : decode b_M_joined 24 = .ok (.getfield 13, 3) := by decide +kernel
theorem d_M_joined_27 : decode b_M_joined 27 = .ok (.iload_n 3, 1) := by decide +kernel
theorem d_M_joined_28 : decode b_M_joined 28 = .ok (.iaload, 1) := by decide +kernel
theorem d_M_joined_29 : decode b_M_joined 29 = .ok (.imul, 1) := by decide +kernel
theorem d_M_joined_30 : decode b_M_joined 30 = .ok (.istore 5, 2) := by decide +kernel
theorem d_M_joined_32 : decode b_M_joined 32 = .ok (.iconst 0, 1) := by decide +kernel
theorem d_M_joined_33 : decode b_M_joined 33 = .ok (.istore 6, 2) := by decide +kernel
theorem d_M_joined_35 : decode b_M_joined 35 = .ok (.iload 6, 2) := by decide +kernel
theorem d_M_joined_37 : decode b_M_joined 37 = .ok (.iload 4, 2) := by decide +kernel
theorem d_M_joined_39 : decode b_M_joined 39 = .ok (.iload 5, 2) := by decide +kernel
theorem d_M_joined_41 : decode b_M_joined 41 = .ok (.iadd, 1) := by decide +kernel
theorem d_M_joined_42 : decode b_M_joined 42 = .ok (.if_icmp .ge 103, 3) := by decide +kernel
theorem d_M_joined_45 : decode b_M_joined 45 = .ok (.aload_n 0, 1) := by decide +kernel
theorem d_M_joined_46 : decode b_M_joined 46 = .ok (.getfield 23, 3) := by decide +kernel
theorem d_M_joined_49 : decode b_M_joined 49 = .ok (.iload 6, 2) := by decide +kernel
theorem d_M_joined_51 : decode b_M_joined 51 = .ok (.iload_n 1, 1) := by decide +kernel
theorem d_M_joined_52 : decode b_M_joined 52 = .ok (.ifCond .ne 31, 3) := by decide +kernel
theorem d_M_joined_55 : decode b_M_joined 55 = .ok (.aload_n 0, 1) := by decide +kernel
theorem d_M_joined_56 : decode b_M_joined 56 = .ok (.iload_n 2, 1) := by decide +kernel
theorem d_M_joined_57 : decode b_M_joined 57 = .ok (.iload 6, 2) := by decide +kernel
theorem d_M_joined_59 : decode b_M_joined 59 = .ok (.invokevirtual 52, 3) := by decide +kernel
theorem d_M_joined_62 : decode b_M_joined 62 = .ok (.ifCond .eq 17, 3) := by decide +kernel
theorem d_M_joined_65 : decode b_M_joined 65 = .ok (.aload_n 0, 1) := by decide +kernel
theorem d_M_joined_66 : decode b_M_joined 66 = .ok (.iload_n 3, 1) := by decide +kernel
theorem d_M_joined_67 : decode b_M_joined 67 = .ok (.iload 6, 2) := by decide +kernel
theorem d_M_joined_69 : decode b_M_joined 69 = .ok (.invokevirtual 52, 3) := by decide +kernel
theorem d_M_joined_72 : decode b_M_joined 72 = .ok (.ifCond .eq 7, 3) := by decide +kernel
theorem d_M_joined_75 : decode b_M_joined 75 = .ok (.iconst 1, 1) := by decide +kernel
theorem d_M_joined_76 : decode b_M_joined 76 = .ok (.goto 62, 3) := by decide +kernel
theorem d_M_joined_79 : decode b_M_joined 79 = .ok (.iconst 0, 1) := by decide +kernel
theorem d_M_joined_80 : decode b_M_joined 80 = .ok (.goto 58, 3) := by decide +kernel
theorem d_M_joined_83 : decode b_M_joined 83 = .ok (.iload_n 1, 1) := by decide +kernel
theorem d_M_joined_84 : decode b_M_joined 84 = .ok (.iconst 1, 1) := by decide +kernel
theorem d_M_joined_85 : decode b_M_joined 85 = .ok (.if_icmp .ne 31, 3) := by decide +kernel
theorem d_M_joined_88 : decode b_M_joined 88 = .ok (.aload_n 0, 1) := by decide +kernel
theorem d_M_joined_89 : decode b_M_joined 89 = .ok (.iload_n 2, 1) := by decide +kernel
theorem d_M_joined_90 : decode b_M_joined 90 = .ok (.iload 6, 2) := by decide +kernel
theorem d_M_joined_92 : decode b_M_joined 92 = .ok (.invokevirtual 52, 3) := by decide +kernel
theorem d_M_joined_95 : decode b_M_joined 95 = .ok (.ifCond .ne 13, 3) := by decide +kernel
theorem d_M_joined_98 : decode b_M_joined 98 = .ok (.aload_n 0, 1) := by decide +kernel
theorem d_M_joined_99 : decode b_M_joined 99 = .ok (.iload_n 3, 1) := by decide +kernel
theorem d_M_joined_100 : decode b_M_joined 100 = .ok (.iload 6, 2) := by decide +kernel
theorem d_M_joined_102 : decode b_M_joined 102 = .ok (.invokevirtual 52, 3) := by decide +kernel
theorem d_M_joined_105 : decode b_M_joined 105 = .ok (.ifCond .eq 7, 3) := by decide +kernel
theorem d_M_joined_108 : decode b_M_joined 108 = .ok (.iconst 1, 1) := by decide +kernel
theorem d_M_joined_109 : decode b_M_joined 109 = .ok (.goto 29, 3) := by decide +kernel
theorem d_M_joined_112 : decode b_M_joined 112 = .ok (.iconst 0, 1) := by decide +kernel
theorem d_M_joined_113 : decode b_M_joined 113 = .ok (.goto 25, 3) := by decide +kernel
theorem d_M_joined_116 : decode b_M_joined 116 = .ok (.aload_n 0, 1) := by decide +kernel
theorem d_M_joined_117 : decode b_M_joined 117 = .ok (.iload_n 2, 1) := by decide +kernel
theorem d_M_joined_118 : decode b_M_joined 118 = .ok (.iload 6, 2) := by decide +kernel
theorem d_M_joined_120 : decode b_M_joined 120 = .ok (.invokevirtual 52, 3) := by decide +kernel
theorem d_M_joined_123 : decode b_M_joined 123 = .ok (.aload_n 0, 1) := by decide +kernel
theorem d_M_joined_124 : decode b_M_joined 124 = .ok (.iload_n 3, 1) := by decide +kernel
theorem d_M_joined_125 : decode b_M_joined 125 = .ok (.iload 6, 2) := by decide +kernel
theorem d_M_joined_127 : decode b_M_joined 127 = .ok (.invokevirtual 52, 3) := by decide +kernel
theorem d_M_joined_130 : decode b_M_joined 130 = .ok (.if_icmp .eq 7, 3) := by decide +kernel
theorem d_M_joined_133 : decode b_M_joined 133 = .ok (.iconst 1, 1) := by decide +kernel
theorem d_M_joined_134 : decode b_M_joined 134 = .ok (.goto 4, 3) := by decide +kernel
theorem d_M_joined_137 : decode b_M_joined 137 = .ok (.iconst 0, 1) := by decide +kernel
theorem d_M_joined_138 : decode b_M_joined 138 = .ok (.bastore, 1) := by decide +kernel
theorem d_M_joined_139 : decode b_M_joined 139 = .ok (.iinc 6 1, 3) := by decide +kernel
theorem d_M_joined_142 : decode b_M_joined 142 = .ok (.goto (-107), 3) := by decide +kernel
theorem d_M_joined_145 : decode b_M_joined 145 = .ok (.aload_n 0, 1) := by decide +kernel
theorem d_M_joined_146 : decode b_M_joined 146 = .ok (.iload 4, 2) := by decide +kernel
theorem d_M_joined_148 : decode b_M_joined 148 = .ok (.iload 5, 2) := by decide +kernel
theorem d_M_joined_150 : decode b_M_joined 150 = .ok (.invokevirtual 45, 3) := by decide +kernel
theorem d_M_joined_153 : decode b_M_joined 153 = .ok (.ireturn, 1) := by decide +kernel
theorem d_M_opposite_0 : decode b_M_opposite 0 = .ok (.iconst 0, 1) := by decide +kernel
theorem d_M_opposite_1 : decode b_M_opposite 1 = .ok (.istore_n 2, 1) := by decide +kernel
theorem d_M_opposite_2 : decode b_M_opposite 2 = .ok (.iload_n 2, 1) := by decide +kernel
theorem d_M_opposite_3 : decode b_M_opposite 3 = .ok (.aload_n 0, 1) := by decide +kernel
theorem d_M_opposite_4 : decode b_M_opposite 4 = .ok (.getfield 7, 3) := by decide +kernel
theorem d_M_opposite_7 : decode b_M_opposite 7 = .ok (.iload_n 1, 1) := by decide +kernel
theorem d_M_opposite_8 : decode b_M_opposite 8 = .ok (.iaload, 1) := by decide +kernel
theorem d_M_opposite_9 : decode b_M_opposite 9 = .ok (.aload_n 0, 1) := by decide +kernel
theorem d_M_opposite_10 : decode b_M_opposite 10 = .ok (.getfield 13, 3) := by decide +kernel
theorem d_M_opposite_13 : decode b_M_opposite 13 = .ok (.iload_n 1, 1) := by decide +kernel
theorem d_M_opposite_14 : decode b_M_opposite 14 = .ok (.iaload, 1) := by decide +kernel
theorem d_M_opposite_15 : decode b_M_opposite 15 = .ok (.iadd, 1) := by decide +kernel
theorem d_M_opposite_16 : decode b_M_opposite 16 = .ok (.if_icmp .ge 29, 3) := by decide +kernel
theorem d_M_opposite_19 : decode b_M_opposite 19 = .ok (.aload_n 0, 1) := by decide +kernel
theorem d_M_opposite_20 : decode b_M_opposite 20 = .ok (.getfield 23, 3) := by decide +kernel
theorem d_M_opposite_23 : decode b_M_opposite 23 = .ok (.iload_n 2, 1) := by decide +kernel
theorem d_M_opposite_24 : decode b_M_opposite 24 = .ok (.aload_n 0, 1) := by decide +kernel
theorem d_M_opposite_25 : decode b_M_opposite 25 = .ok (.iload_n 1, 1) := by decide +kernel
theorem d_M_opposite_26 : decode b_M_opposite 26 = .ok (.iload_n 2, 1) := by decide +kernel
theorem d_M_opposite_27 : decode b_M_opposite 27 = .ok (.invokevirtual 52, 3) := by decide +kernel
theorem d_M_opposite_30 : decode b_M_opposite 30 = .ok (.ifCond .ne 7, 3) := by decide +kernel
theorem d_M_opposite_33 : decode b_M_opposite 33 = .ok (.iconst 1, 1) := by decide +kernel
theorem d_M_opposite_34 : decode b_M_opposite 34 = .ok (.goto 4, 3) := by decide +kernel
theorem d_M_opposite_37 : decode b_M_opposite 37 = .ok (.iconst 0, 1) := by decide +kernel
theorem d_M_opposite_38 : decode b_M_opposite 38 = .ok (.bastore, 1) := by decide +kernel
theorem d_M_opposite_39 : decode b_M_opposite 39 = .ok (.iinc 2 1, 3) := by decide +kernel
theorem d_M_opposite_42 : decode b_M_opposite 42 = .ok (.goto (-40), 3) := by decide +kernel
theorem d_M_opposite_45 : decode b_M_opposite 45 = .ok (.aload_n 0, 1) := by decide +kernel
theorem d_M_opposite_46 : decode b_M_opposite 46 = .ok (.aload_n 0, 1) := by decide +kernel
theorem d_M_opposite_47 : decode b_M_opposite 47 = .ok (.getfield 7, 3) := by decide +kernel
theorem d_M_opposite_50 : decode b_M_opposite 50 = .ok (.iload_n 1, 1) := by decide +kernel
theorem d_M_opposite_51 : decode b_M_opposite 51 = .ok (.iaload, 1) := by decide +kernel
theorem d_M_opposite_52 : decode b_M_opposite 52 = .ok (.aload_n 0, 1) := by decide +kernel
theorem d_M_opposite_53 : decode b_M_opposite 53 = .ok (.getfield 13, 3) := by decide +kernel
theorem d_M_opposite_56 : decode b_M_opposite 56 = .ok (.iload_n 1, 1) := by decide +kernel
