theorem d_P_alike_59 : decode b_P_alike 59 = .ok (.ireturn, 1) := by decide +kernel
theorem d_P_draftOf_0 : decode b_P_draftOf 0 = .ok (.iload_n 0, 1) := by decide +kernel
theorem d_P_draftOf_1 : decode b_P_draftOf 1 = .ok (.tableswitch 96 4 7 #[31, 37, 43, 66], 31) := by decide +kernel
theorem d_P_draftOf_32 : decode b_P_draftOf 32 = .ok (.aload_n 1, 1) := by decide +kernel
theorem d_P_draftOf_33 : decode b_P_draftOf 33 = .ok (.aload_n 2, 1) := by decide +kernel
theorem d_P_draftOf_34 : decode b_P_draftOf 34 = .ok (.invokestatic 115, 3) := by decide +kernel
theorem d_P_draftOf_37 : decode b_P_draftOf 37 = .ok (.areturn, 1) := by decide +kernel
theorem d_P_draftOf_38 : decode b_P_draftOf 38 = .ok (.aload_n 1, 1) := by decide +kernel
theorem d_P_draftOf_39 : decode b_P_draftOf 39 = .ok (.aload_n 2, 1) := by decide +kernel
theorem d_P_draftOf_40 : decode b_P_draftOf 40 = .ok (.invokestatic 119, 3) := by decide +kernel
theorem d_P_draftOf_43 : decode b_P_draftOf 43 = .ok (.areturn, 1) := by decide +kernel
theorem d_P_draftOf_44 : decode b_P_draftOf 44 = .ok (.new 122, 3) := by decide +kernel
theorem d_P_draftOf_47 : decode b_P_draftOf 47 = .ok (.dup, 1) := by decide +kernel
theorem d_P_draftOf_48 : decode b_P_draftOf 48 = .ok (.bipush 6, 2) := by decide +kernel
theorem d_P_draftOf_50 : decode b_P_draftOf 50 = .ok (.aload_n 1, 1) := by decide +kernel
theorem d_P_draftOf_51 : decode b_P_draftOf 51 = .ok (.aload_n 2, 1) := by decide +kernel
theorem d_P_draftOf_52 : decode b_P_draftOf 52 = .ok (.iload_n 3, 1) := by decide +kernel
theorem d_P_draftOf_53 : decode b_P_draftOf 53 = .ok (.aload_n 1, 1) := by decide +kernel
theorem d_P_draftOf_54 : decode b_P_draftOf 54 = .ok (.getfield 52, 3) := by decide +kernel
theorem d_P_draftOf_57 : decode b_P_draftOf 57 = .ok (.iload_n 3, 1) := by decide +kernel
theorem d_P_draftOf_58 : decode b_P_draftOf 58 = .ok (.iadd, 1) := by decide +kernel
theorem d_P_draftOf_59 : decode b_P_draftOf 59 = .ok (.aload_n 1, 1) := by decide +kernel
theorem d_P_draftOf_60 : decode b_P_draftOf 60 = .ok (.getfield 55, 3) := by decide +kernel
theorem d_P_draftOf_63 : decode b_P_draftOf 63 = .ok (.invokespecial 124, 3) := by decide +kernel
theorem d_P_draftOf_66 : decode b_P_draftOf 66 = .ok (.areturn, 1) := by decide +kernel
theorem d_P_draftOf_67 : decode b_P_draftOf 67 = .ok (.new 122, 3) := by decide +kernel
theorem d_P_draftOf_70 : decode b_P_draftOf 70 = .ok (.dup, 1) := by decide +kernel
theorem d_P_draftOf_71 : decode b_P_draftOf 71 = .ok (.bipush 7, 2) := by decide +kernel
theorem d_P_draftOf_73 : decode b_P_draftOf 73 = .ok (.aload_n 1, 1) := by decide +kernel
theorem d_P_draftOf_74 : decode b_P_draftOf 74 = .ok (.aload_n 2, 1) := by decide +kernel
theorem d_P_draftOf_75 : decode b_P_draftOf 75 = .ok (.iconst 0, 1) := by decide +kernel
theorem d_P_draftOf_76 : decode b_P_draftOf 76 = .ok (.aload_n 1, 1) := by decide +kernel
theorem d_P_draftOf_77 : decode b_P_draftOf 77 = .ok (.getfield 52, 3) := by decide +kernel
theorem d_P_draftOf_80 : decode b_P_draftOf 80 = .ok (.aload_n 1, 1) := by decide +kernel
theorem d_P_draftOf_81 : decode b_P_draftOf 81 = .ok (.getfield 55, 3) := by decide +kernel
theorem d_P_draftOf_84 : decode b_P_draftOf 84 = .ok (.iconst 1, 1) := by decide +kernel
theorem d_P_draftOf_85 : decode b_P_draftOf 85 = .ok (.aload_n 1, 1) := by decide +kernel
theorem d_P_draftOf_86 : decode b_P_draftOf 86 = .ok (.getfield 42, 3) := by decide +kernel
theorem d_P_draftOf_89 : decode b_P_draftOf 89 = .ok (.iconst 2, 1) := by decide +kernel
theorem d_P_draftOf_90 : decode b_P_draftOf 90 = .ok (.irem, 1) := by decide +kernel
theorem d_P_draftOf_91 : decode b_P_draftOf 91 = .ok (.iadd, 1) := by decide +kernel
theorem d_P_draftOf_92 : decode b_P_draftOf 92 = .ok (.imul, 1) := by decide +kernel
theorem d_P_draftOf_93 : decode b_P_draftOf 93 = .ok (.invokespecial 124, 3) := by decide +kernel
theorem d_P_draftOf_96 : decode b_P_draftOf 96 = .ok (.areturn, 1) := by decide +kernel
theorem d_P_draftOf_97 : decode b_P_draftOf 97 = .ok (.new 122, 3) := by decide +kernel
theorem d_P_draftOf_100 : decode b_P_draftOf 100 = .ok (.dup, 1) := by decide +kernel
theorem d_P_draftOf_101 : decode b_P_draftOf 101 = .ok (.iload_n 0, 1) := by decide +kernel
theorem d_P_draftOf_102 : decode b_P_draftOf 102 = .ok (.aload_n 1, 1) := by decide +kernel
theorem d_P_draftOf_103 : decode b_P_draftOf 103 = .ok (.aload_n 2, 1) := by decide +kernel
theorem d_P_draftOf_104 : decode b_P_draftOf 104 = .ok (.iconst 0, 1) := by decide +kernel
theorem d_P_draftOf_105 : decode b_P_draftOf 105 = .ok (.aload_n 1, 1) := by decide +kernel
theorem d_P_draftOf_106 : decode b_P_draftOf 106 = .ok (.getfield 52, 3) := by decide +kernel
theorem d_P_draftOf_109 : decode b_P_draftOf 109 = .ok (.aload_n 2, 1) := by decide +kernel
theorem d_P_draftOf_110 : decode b_P_draftOf 110 = .ok (.getfield 52, 3) := by decide +kernel
theorem d_P_draftOf_113 : decode b_P_draftOf 113 = .ok (.invokestatic 127, 3) := by decide +kernel
theorem d_P_draftOf_116 : decode b_P_draftOf 116 = .ok (.aload_n 1, 1) := by decide +kernel
theorem d_P_draftOf_117 : decode b_P_draftOf 117 = .ok (.getfield 55, 3) := by decide +kernel
theorem d_P_draftOf_120 : decode b_P_draftOf 120 = .ok (.aload_n 2, 1) := by decide +kernel
theorem d_P_draftOf_121 : decode b_P_draftOf 121 = .ok (.getfield 55, 3) := by decide +kernel
theorem d_P_draftOf_124 : decode b_P_draftOf 124 = .ok (.invokestatic 132, 3) := by decide +kernel
theorem d_P_draftOf_127 : decode b_P_draftOf 127 = .ok (.invokespecial 124, 3) := by decide +kernel
theorem d_P_draftOf_130 : decode b_P_draftOf 130 = .ok (.areturn, 1) := by decide +kernel
theorem d_P_draftOn_0 : decode b_P_draftOn 0 = .ok (.aload_n 0, 1) := by decide +kernel
theorem d_P_draftOn_1 : decode b_P_draftOn 1 = .ok (.getfield 42, 3) := by decide +kernel
theorem d_P_draftOn_4 : decode b_P_draftOn 4 = .ok (.ifCond .ne 23, 3) := by decide +kernel
theorem d_P_draftOn_7 : decode b_P_draftOn 7 = .ok (.new 122, 3) := by decide +kernel
theorem d_P_draftOn_10 : decode b_P_draftOn 10 = .ok (.dup, 1) := by decide +kernel
theorem d_P_draftOn_11 : decode b_P_draftOn 11 = .ok (.iconst 4, 1) := by decide +kernel
theorem d_P_draftOn_12 : decode b_P_draftOn 12 = .ok (.aload_n 0, 1) := by decide +kernel
theorem d_P_draftOn_13 : decode b_P_draftOn 13 = .ok (.aload_n 1, 1) := by decide +kernel
theorem d_P_draftOn_14 : decode b_P_draftOn 14 = .ok (.iconst 0, 1) := by decide +kernel
theorem d_P_draftOn_15 : decode b_P_draftOn 15 = .ok (.aload_n 0, 1) := by decide +kernel
theorem d_P_draftOn_16 : decode b_P_draftOn 16 = .ok (.getfield 52, 3) := by decide +kernel
theorem d_P_draftOn_19 : decode b_P_draftOn 19 = .ok (.aload_n 0, 1) := by decide +kernel
theorem d_P_draftOn_20 : decode b_P_draftOn 20 = .ok (.getfield 55, 3) := by decide +kernel
theorem d_P_draftOn_23 : decode b_P_draftOn 23 = .ok (.invokespecial 124, 3) := by decide +kernel
theorem d_P_draftOn_26 : decode b_P_draftOn 26 = .ok (.areturn, 1) := by decide +kernel
theorem d_P_draftOn_27 : decode b_P_draftOn 27 = .ok (.aload_n 0, 1) := by decide +kernel
theorem d_P_draftOn_28 : decode b_P_draftOn 28 = .ok (.getfield 52, 3) := by decide +kernel
theorem d_P_draftOn_31 : decode b_P_draftOn 31 = .ok (.aload_n 0, 1) := by decide +kernel
theorem d_P_draftOn_32 : decode b_P_draftOn 32 = .ok (.aload_n 1, 1) := by decide +kernel
theorem d_P_draftOn_33 : decode b_P_draftOn 33 = .ok (.getfield 52, 3) := by decide +kernel
theorem d_P_draftOn_36 : decode b_P_draftOn 36 = .ok (.iconst 1, 1) := by decide +kernel
theorem d_P_draftOn_37 : decode b_P_draftOn 37 = .ok (.iadd, 1) := by decide +kernel
theorem d_P_draftOn_38 : decode b_P_draftOn 38 = .ok (.invokevirtual 84, 3) := by decide +kernel
theorem d_P_draftOn_41 : decode b_P_draftOn 41 = .ok (.invokestatic 127, 3) := by decide +kernel
theorem d_P_draftOn_44 : decode b_P_draftOn 44 = .ok (.istore_n 2, 1) := by decide +kernel
theorem d_P_draftOn_45 : decode b_P_draftOn 45 = .ok (.aload_n 1, 1) := by decide +kernel
theorem d_P_draftOn_46 : decode b_P_draftOn 46 = .ok (.getfield 55, 3) := by decide +kernel
theorem d_P_draftOn_49 : decode b_P_draftOn 49 = .ok (.aload_n 0, 1) := by decide +kernel
theorem d_P_draftOn_50 : decode b_P_draftOn 50 = .ok (.getfield 42, 3) := by decide +kernel
theorem d_P_draftOn_53 : decode b_P_draftOn 53 = .ok (.aload_n 1, 1) := by decide +kernel
theorem d_P_draftOn_54 : decode b_P_draftOn 54 = .ok (.getfield 55, 3) := by decide +kernel
theorem d_P_draftOn_57 : decode b_P_draftOn 57 = .ok (.invokestatic 58, 3) := by decide +kernel
theorem d_P_draftOn_60 : decode b_P_draftOn 60 = .ok (.idiv, 1) := by decide +kernel
theorem d_P_draftOn_61 : decode b_P_draftOn 61 = .ok (.istore_n 3, 1) := by decide +kernel
theorem d_P_draftOn_62 : decode b_P_draftOn 62 = .ok (.new 122, 3) := by decide +kernel
theorem d_P_draftOn_65 : decode b_P_draftOn 65 = .ok (.dup, 1) := by decide +kernel
theorem d_P_draftOn_66 : decode b_P_draftOn 66 = .ok (.iconst 4, 1) := by decide +kernel
theorem d_P_draftOn_67 : decode b_P_draftOn 67 = .ok (.aload_n 0, 1) := by decide +kernel
theorem d_P_draftOn_68 : decode b_P_draftOn 68 = .ok (.aload_n 1, 1) := by decide +kernel
theorem d_P_draftOn_69 : decode b_P_draftOn 69 = .ok (.iconst 0, 1) := by decide +kernel
theorem d_P_draftOn_70 : decode b_P_draftOn 70 = .ok (.iload_n 2, 1) := by decide +kernel
theorem d_P_draftOn_71 : decode b_P_draftOn 71 = .ok (.aload_n 0, 1) := by decide +kernel
theorem d_P_draftOn_72 : decode b_P_draftOn 72 = .ok (.getfield 55, 3) := by decide +kernel
theorem d_P_draftOn_75 : decode b_P_draftOn 75 = .ok (.iload_n 3, 1) := by decide +kernel
theorem d_P_draftOn_76 : decode b_P_draftOn 76 = .ok (.imul, 1) := by decide +kernel
theorem d_P_draftOn_77 : decode b_P_draftOn 77 = .ok (.invokespecial 124, 3) := by decide +kernel
theorem d_P_draftOn_80 : decode b_P_draftOn 80 = .ok (.areturn, 1) := by decide +kernel
theorem d_P_draftBy_0 : decode b_P_draftBy 0 = .ok (.aload_n 1, 1) := by decide +kernel
theorem d_P_draftBy_1 : decode b_P_draftBy 1 = .ok (.aload_n 0, 1) := by decide +kernel
theorem d_P_draftBy_2 : decode b_P_draftBy 2 = .ok (.getfield 52, 3) := by decide +kernel
theorem d_P_draftBy_5 : decode b_P_draftBy 5 = .ok (.aload_n 1, 1) := by decide +kernel
theorem d_P_draftBy_6 : decode b_P_draftBy 6 = .ok (.getfield 52, 3) := by decide +kernel
theorem d_P_draftBy_9 : decode b_P_draftBy 9 = .ok (.invokestatic 127, 3) := by decide +kernel
theorem d_P_draftBy_12 : decode b_P_draftBy 12 = .ok (.invokevirtual 70, 3) := by decide +kernel
theorem d_P_draftBy_15 : decode b_P_draftBy 15 = .ok (.istore_n 2, 1) := by decide +kernel
theorem d_P_draftBy_16 : decode b_P_draftBy 16 = .ok (.aload_n 0, 1) := by decide +kernel
theorem d_P_draftBy_17 : decode b_P_draftBy 17 = .ok (.getfield 55, 3) := by decide +kernel
theorem d_P_draftBy_20 : decode b_P_draftBy 20 = .ok (.aload_n 0, 1) := by decide +kernel
theorem d_P_draftBy_21 : decode b_P_draftBy 21 = .ok (.getfield 55, 3) := by decide +kernel
theorem d_P_draftBy_24 : decode b_P_draftBy 24 = .ok (.aload_n 1, 1) := by decide +kernel
theorem d_P_draftBy_25 : decode b_P_draftBy 25 = .ok (.getfield 55, 3) := by decide +kernel
theorem d_P_draftBy_28 : decode b_P_draftBy 28 = .ok (.invokestatic 58, 3) := by decide +kernel
theorem d_P_draftBy_31 : decode b_P_draftBy 31 = .ok (.idiv, 1) := by decide +kernel
theorem d_P_draftBy_32 : decode b_P_draftBy 32 = .ok (.istore_n 3, 1) := by decide +kernel
theorem d_P_draftBy_33 : decode b_P_draftBy 33 = .ok (.new 122, 3) := by decide +kernel
theorem d_P_draftBy_36 : decode b_P_draftBy 36 = .ok (.dup, 1) := by decide +kernel
theorem d_P_draftBy_37 : decode b_P_draftBy 37 = .ok (.iconst 5, 1) := by decide +kernel
theorem d_P_draftBy_38 : decode b_P_draftBy 38 = .ok (.aload_n 0, 1) := by decide +kernel
theorem d_P_draftBy_39 : decode b_P_draftBy 39 = .ok (.aload_n 1, 1) := by decide +kernel
theorem d_P_draftBy_40 : decode b_P_draftBy 40 = .ok (.iconst 0, 1) := by decide +kernel
theorem d_P_draftBy_41 : decode b_P_draftBy 41 = .ok (.iload_n 2, 1) := by decide +kernel
theorem d_P_draftBy_42 : decode b_P_draftBy 42 = .ok (.aload_n 1, 1) := by decide +kernel
theorem d_P_draftBy_43 : decode b_P_draftBy 43 = .ok (.getfield 42, 3) := by decide +kernel
theorem d_P_draftBy_46 : decode b_P_draftBy 46 = .ok (.iload_n 3, 1) := by decide +kernel
theorem d_P_draftBy_47 : decode b_P_draftBy 47 = .ok (.imul, 1) := by decide +kernel
theorem d_P_draftBy_48 : decode b_P_draftBy 48 = .ok (.invokespecial 124, 3) := by decide +kernel
theorem d_P_draftBy_51 : decode b_P_draftBy 51 = .ok (.areturn, 1) := by decide +kernel
theorem d_P_shortestForm_0 : decode b_P_shortestForm 0 = .ok (.aload_n 0, 1) := by decide +kernel
theorem d_P_shortestForm_1 : decode b_P_shortestForm 1 = .ok (.invokestatic 135, 3) := by decide +kernel
theorem d_P_shortestForm_4 : decode b_P_shortestForm 4 = .ok (.istore_n 1, 1) := by decide +kernel
theorem d_P_shortestForm_5 : decode b_P_shortestForm 5 = .ok (.iload_n 1, 1) := by decide +kernel
theorem d_P_shortestForm_6 : decode b_P_shortestForm 6 = .ok (.iconst (-1), 1) := by decide +kernel
theorem d_P_shortestForm_7 : decode b_P_shortestForm 7 = .ok (.if_icmp .ne 5, 3) := by decide +kernel
theorem d_P_shortestForm_10 : decode b_P_shortestForm 10 = .ok (.aconst_null, 1) := by decide +kernel
theorem d_P_shortestForm_11 : decode b_P_shortestForm 11 = .ok (.areturn, 1) := by decide +kernel
theorem d_P_shortestForm_12 : decode b_P_shortestForm 12 = .ok (.aload_n 0, 1) := by decide +kernel
theorem d_P_shortestForm_13 : decode b_P_shortestForm 13 = .ok (.iload_n 1, 1) := by decide +kernel
theorem d_P_shortestForm_14 : decode b_P_shortestForm 14 = .ok (.invokestatic 139, 3) := by decide +kernel
theorem d_P_shortestForm_17 : decode b_P_shortestForm 17 = .ok (.istore_n 2, 1) := by decide +kernel
theorem d_P_shortestForm_18 : decode b_P_shortestForm 18 = .ok (.iload_n 2, 1) := by decide +kernel
theorem d_P_shortestForm_19 : decode b_P_shortestForm 19 = .ok (.bipush 60, 2) := by decide +kernel
theorem d_P_shortestForm_21 : decode b_P_shortestForm 21 = .ok (.if_icmp .le 5, 3) := by decide +kernel
theorem d_P_shortestForm_24 : decode b_P_shortestForm 24 = .ok (.aconst_null, 1) := by decide +kernel
theorem d_P_shortestForm_25 : decode b_P_shortestForm 25 = .ok (.areturn, 1) := by decide +kernel
theorem d_P_shortestForm_26 : decode b_P_shortestForm 26 = .ok (.new 9, 3) := by decide +kernel
theorem d_P_shortestForm_29 : decode b_P_shortestForm 29 = .ok (.dup, 1) := by decide +kernel
theorem d_P_shortestForm_30 : decode b_P_shortestForm 30 = .ok (.iload_n 2, 1) := by decide +kernel
theorem d_P_shortestForm_31 : decode b_P_shortestForm 31 = .ok (.aload_n 0, 1) := by decide +kernel
theorem d_P_shortestForm_32 : decode b_P_shortestForm 32 = .ok (.iconst 0, 1) := by decide +kernel
theorem d_P_shortestForm_33 : decode b_P_shortestForm 33 = .ok (.iload_n 2, 1) := by decide +kernel
theorem d_P_shortestForm_34 : decode b_P_shortestForm 34 = .ok (.invokevirtual 143, 3) := by decide +kernel
theorem d_P_shortestForm_37 : decode b_P_shortestForm 37 = .ok (.iload_n 1, 1) := by decide +kernel
theorem d_P_shortestForm_38 : decode b_P_shortestForm 38 = .ok (.aload_n 0, 1) := by decide +kernel
theorem d_P_shortestForm_39 : decode b_P_shortestForm 39 = .ok (.iload_n 2, 1) := by decide +kernel
theorem d_P_shortestForm_40 : decode b_P_shortestForm 40 = .ok (.iload_n 1, 1) := by decide +kernel
theorem d_P_shortestForm_41 : decode b_P_shortestForm 41 = .ok (.invokevirtual 143, 3) := by decide +kernel
theorem d_P_shortestForm_44 : decode b_P_shortestForm 44 = .ok (.invokespecial 19, 3) := by decide +kernel
theorem d_P_shortestForm_47 : decode b_P_shortestForm 47 = .ok (.areturn, 1) := by decide +kernel
theorem d_P_shortestRing_0 : decode b_P_shortestRing 0 = .ok (.lconst 0, 1) := by decide +kernel
theorem d_P_shortestRing_1 : decode b_P_shortestRing 1 = .ok (.lstore_n 1, 1) := by decide +kernel
theorem d_P_shortestRing_2 : decode b_P_shortestRing 2 = .ok (.iconst 0, 1) := by decide +kernel
theorem d_P_shortestRing_3 : decode b_P_shortestRing 3 = .ok (.istore_n 3, 1) := by decide +kernel
theorem d_P_shortestRing_4 : decode b_P_shortestRing 4 = .ok (.iload_n 3, 1) := by decide +kernel
theorem d_P_shortestRing_5 : decode b_P_shortestRing 5 = .ok (.bipush 60, 2) := by decide +kernel
theorem d_P_shortestRing_7 : decode b_P_shortestRing 7 = .ok (.if_icmp .ge 25, 3) := by decide +kernel
theorem d_P_shortestRing_10 : decode b_P_shortestRing 10 = .ok (.lload_n 1, 1) := by decide +kernel
theorem d_P_shortestRing_11 : decode b_P_shortestRing 11 = .ok (.iconst 1, 1) := by decide +kernel
theorem d_P_shortestRing_12 : decode b_P_shortestRing 12 = .ok (.lshl, 1) := by decide +kernel
theorem d_P_shortestRing_13 : decode b_P_shortestRing 13 = .ok (.aload_n 0, 1) := by decide +kernel
theorem d_P_shortestRing_14 : decode b_P_shortestRing 14 = .ok (.aload_n 0, 1) := by decide +kernel
theorem d_P_shortestRing_15 : decode b_P_shortestRing 15 = .ok (.getfield 147, 3) := by decide +kernel
theorem d_P_shortestRing_18 : decode b_P_shortestRing 18 = .ok (.iload_n 3, 1) := by decide +kernel
theorem d_P_shortestRing_19 : decode b_P_shortestRing 19 = .ok (.iadd, 1) := by decide +kernel
theorem d_P_shortestRing_20 : decode b_P_shortestRing 20 = .ok (.invokevirtual 148, 3) := by decide +kernel
theorem d_P_shortestRing_23 : decode b_P_shortestRing 23 = .ok (.i2l, 1) := by decide +kernel
theorem d_P_shortestRing_24 : decode b_P_shortestRing 24 = .ok (.lor, 1) := by decide +kernel
theorem d_P_shortestRing_25 : decode b_P_shortestRing 25 = .ok (.lstore_n 1, 1) := by decide +kernel
theorem d_P_shortestRing_26 : decode b_P_shortestRing 26 = .ok (.iinc 3 1, 3) := by decide +kernel
theorem d_P_shortestRing_29 : decode b_P_shortestRing 29 = .ok (.goto (-25), 3) := by decide +kernel
theorem d_P_shortestRing_32 : decode b_P_shortestRing 32 = .ok (.aload_n 0, 1) := by decide +kernel
theorem d_P_shortestRing_33 : decode b_P_shortestRing 33 = .ok (.getfield 147, 3) := by decide +kernel
theorem d_P_shortestRing_36 : decode b_P_shortestRing 36 = .ok (.bipush 60, 2) := by decide +kernel
theorem d_P_shortestRing_38 : decode b_P_shortestRing 38 = .ok (.iadd, 1) := by decide +kernel
theorem d_P_shortestRing_39 : decode b_P_shortestRing 39 = .ok (.istore_n 3, 1) := by decide +kernel
theorem d_P_shortestRing_40 : decode b_P_shortestRing 40 = .ok (.ldc2_w 149, 3) := by decide +kernel
theorem d_P_shortestRing_43 : decode b_P_shortestRing 43 = .ok (.lstore 4, 2) := by decide +kernel
theorem d_P_shortestRing_45 : decode b_P_shortestRing 45 = .ok (.iconst 0, 1) := by decide +kernel
theorem d_P_shortestRing_46 : decode b_P_shortestRing 46 = .ok (.istore 6, 2) := by decide +kernel
theorem d_P_shortestRing_48 : decode b_P_shortestRing 48 = .ok (.iload 6, 2) := by decide +kernel
theorem d_P_shortestRing_50 : decode b_P_shortestRing 50 = .ok (.aload_n 0, 1) := by decide +kernel
theorem d_P_shortestRing_51 : decode b_P_shortestRing 51 = .ok (.getfield 151, 3) := by decide +kernel
theorem d_P_shortestRing_54 : decode b_P_shortestRing 54 = .ok (.if_icmp .ge 54, 3) := by decide +kernel
theorem d_P_shortestRing_57 : decode b_P_shortestRing 57 = .ok (.lload 4, 2) := by decide +kernel
theorem d_P_shortestRing_59 : decode b_P_shortestRing 59 = .ok (.lconst 0, 1) := by decide +kernel
theorem d_P_shortestRing_60 : decode b_P_shortestRing 60 = .ok (.lcmp, 1) := by decide +kernel
theorem d_P_shortestRing_61 : decode b_P_shortestRing 61 = .ok (.ifCond .eq 47, 3) := by decide +kernel
theorem d_P_shortestRing_64 : decode b_P_shortestRing 64 = .ok (.aload_n 0, 1) := by decide +kernel
theorem d_P_shortestRing_65 : decode b_P_shortestRing 65 = .ok (.iload_n 3, 1) := by decide +kernel
theorem d_P_shortestRing_66 : decode b_P_shortestRing 66 = .ok (.iload 6, 2) := by decide +kernel
theorem d_P_shortestRing_68 : decode b_P_shortestRing 68 = .ok (.iadd, 1) := by decide +kernel
theorem d_P_shortestRing_69 : decode b_P_shortestRing 69 = .ok (.invokevirtual 148, 3) := by decide +kernel
theorem d_P_shortestRing_72 : decode b_P_shortestRing 72 = .ok (.istore 7, 2) := by decide +kernel
theorem d_P_shortestRing_74 : decode b_P_shortestRing 74 = .ok (.lload 4, 2) := by decide +kernel
theorem d_P_shortestRing_76 : decode b_P_shortestRing 76 = .ok (.iload 7, 2) := by decide +kernel
theorem d_P_shortestRing_78 : decode b_P_shortestRing 78 = .ok (.iconst 1, 1) := by decide +kernel
theorem d_P_shortestRing_79 : decode b_P_shortestRing 79 = .ok (.if_icmp .ne 7, 3) := by decide +kernel
theorem d_P_shortestRing_82 : decode b_P_shortestRing 82 = .ok (.lload_n 1, 1) := by decide +kernel
theorem d_P_shortestRing_83 : decode b_P_shortestRing 83 = .ok (.goto 8, 3) := by decide +kernel
theorem d_P_shortestRing_86 : decode b_P_shortestRing 86 = .ok (.lload_n 1, 1) := by decide +kernel
theorem d_P_shortestRing_87 : decode b_P_shortestRing 87 = .ok (.ldc2_w 152, 3) := by decide +kernel
theorem d_P_shortestRing_90 : decode b_P_shortestRing 90 = .ok (.lxor, 1) := by decide +kernel
theorem d_P_shortestRing_91 : decode b_P_shortestRing 91 = .ok (.land, 1) := by decide +kernel
theorem d_P_shortestRing_92 : decode b_P_shortestRing 92 = .ok (.lstore 4, 2) := by decide +kernel
theorem d_P_shortestRing_94 : decode b_P_shortestRing 94 = .ok (.lload_n 1, 1) := by decide +kernel
theorem d_P_shortestRing_95 : decode b_P_shortestRing 95 = .ok (.iconst 1, 1) := by decide +kernel
theorem d_P_shortestRing_96 : decode b_P_shortestRing 96 = .ok (.lshl, 1) := by decide +kernel
theorem d_P_shortestRing_97 : decode b_P_shortestRing 97 = .ok (.iload 7, 2) := by decide +kernel
theorem d_P_shortestRing_99 : decode b_P_shortestRing 99 = .ok (.i2l, 1) := by decide +kernel
theorem d_P_shortestRing_100 : decode b_P_shortestRing 100 = .ok (.lor, 1) := by decide +kernel
theorem d_P_shortestRing_101 : decode b_P_shortestRing 101 = .ok (.lstore_n 1, 1) := by decide +kernel
theorem d_P_shortestRing_102 : decode b_P_shortestRing 102 = .ok (.iinc 6 1, 3) := by decide +kernel
theorem d_P_shortestRing_105 : decode b_P_shortestRing 105 = .ok (.goto (-57), 3) := by decide +kernel
theorem d_P_shortestRing_108 : decode b_P_shortestRing 108 = .ok (.lload 4, 2) := by decide +kernel
theorem d_P_shortestRing_110 : decode b_P_shortestRing 110 = .ok (.lconst 0, 1) := by decide +kernel
theorem d_P_shortestRing_111 : decode b_P_shortestRing 111 = .ok (.lcmp, 1) := by decide +kernel
theorem d_P_shortestRing_112 : decode b_P_shortestRing 112 = .ok (.ifCond .ne 5, 3) := by decide +kernel
theorem d_P_shortestRing_115 : decode b_P_shortestRing 115 = .ok (.iconst (-1), 1) := by decide +kernel
theorem d_P_shortestRing_116 : decode b_P_shortestRing 116 = .ok (.ireturn, 1) := by decide +kernel
theorem d_P_shortestRing_117 : decode b_P_shortestRing 117 = .ok (.lload 4, 2) := by decide +kernel
theorem d_P_shortestRing_119 : decode b_P_shortestRing 119 = .ok (.lload 4, 2) := by decide +kernel
theorem d_P_shortestRing_121 : decode b_P_shortestRing 121 = .ok (.lneg, 1) := by decide +kernel
theorem d_P_shortestRing_122 : decode b_P_shortestRing 122 = .ok (.land, 1) := by decide +kernel
theorem d_P_shortestRing_123 : decode b_P_shortestRing 123 = .ok (.lstore 6, 2) := by decide +kernel
theorem d_P_shortestRing_125 : decode b_P_shortestRing 125 = .ok (.lload 6, 2) := by decide +kernel
theorem d_P_shortestRing_127 : decode b_P_shortestRing 127 = .ok (.lconst 1, 1) := by decide +kernel
theorem d_P_shortestRing_128 : decode b_P_shortestRing 128 = .ok (.lsub, 1) := by decide +kernel
theorem d_P_shortestRing_129 : decode b_P_shortestRing 129 = .ok (.invokestatic 154, 3) := by decide +kernel
theorem d_P_shortestRing_132 : decode b_P_shortestRing 132 = .ok (.iconst 1, 1) := by decide +kernel
theorem d_P_shortestRing_133 : decode b_P_shortestRing 133 = .ok (.iadd, 1) := by decide +kernel
theorem d_P_shortestRing_134 : decode b_P_shortestRing 134 = .ok (.ireturn, 1) := by decide +kernel
theorem d_P_shortestHead_0 : decode b_P_shortestHead 0 = .ok (.aload_n 0, 1) := by decide +kernel
theorem d_P_shortestHead_1 : decode b_P_shortestHead 1 = .ok (.getfield 147, 3) := by decide +kernel
theorem d_P_shortestHead_4 : decode b_P_shortestHead 4 = .ok (.istore_n 2, 1) := by decide +kernel
theorem d_P_shortestHead_5 : decode b_P_shortestHead 5 = .ok (.iload_n 2, 1) := by decide +kernel
theorem d_P_shortestHead_6 : decode b_P_shortestHead 6 = .ok (.ifCond .le 30, 3) := by decide +kernel
theorem d_P_shortestHead_9 : decode b_P_shortestHead 9 = .ok (.aload_n 0, 1) := by decide +kernel
theorem d_P_shortestHead_10 : decode b_P_shortestHead 10 = .ok (.iload_n 2, 1) := by decide +kernel
theorem d_P_shortestHead_11 : decode b_P_shortestHead 11 = .ok (.iconst 1, 1) := by decide +kernel
theorem d_P_shortestHead_12 : decode b_P_shortestHead 12 = .ok (.isub, 1) := by decide +kernel
theorem d_P_shortestHead_13 : decode b_P_shortestHead 13 = .ok (.invokevirtual 148, 3) := by decide +kernel
theorem d_P_shortestHead_16 : decode b_P_shortestHead 16 = .ok (.aload_n 0, 1) := by decide +kernel
theorem d_P_shortestHead_17 : decode b_P_shortestHead 17 = .ok (.iload_n 2, 1) := by decide +kernel
theorem d_P_shortestHead_18 : decode b_P_shortestHead 18 = .ok (.iconst 1, 1) := by decide +kernel
theorem d_P_shortestHead_19 : decode b_P_shortestHead 19 = .ok (.isub, 1) := by decide +kernel
theorem d_P_shortestHead_20 : decode b_P_shortestHead 20 = .ok (.iload_n 1, 1) := by decide +kernel
theorem d_P_shortestHead_21 : decode b_P_shortestHead 21 = .ok (.iadd, 1) := by decide +kernel
theorem d_P_shortestHead_22 : decode b_P_shortestHead 22 = .ok (.invokevirtual 148, 3) := by decide +kernel
theorem d_P_shortestHead_25 : decode b_P_shortestHead 25 = .ok (.if_icmp .eq 5, 3) := by decide +kernel
theorem d_P_shortestHead_28 : decode b_P_shortestHead 28 = .ok (.iload_n 2, 1) := by decide +kernel
theorem d_P_shortestHead_29 : decode b_P_shortestHead 29 = .ok (.ireturn, 1) := by decide +kernel
theorem d_P_shortestHead_30 : decode b_P_shortestHead 30 = .ok (.iinc 2 (-1), 3) := by decide +kernel
theorem d_P_shortestHead_33 : decode b_P_shortestHead 33 = .ok (.goto (-28), 3) := by decide +kernel
theorem d_P_shortestHead_36 : decode b_P_shortestHead 36 = .ok (.iconst 0, 1) := by decide +kernel
theorem d_P_shortestHead_37 : decode b_P_shortestHead 37 = .ok (.ireturn, 1) := by decide +kernel
theorem d_P_compareRates_0 : decode b_P_compareRates 0 = .ok (.aload_n 0, 1) := by decide +kernel
theorem d_P_compareRates_1 : decode b_P_compareRates 1 = .ok (.getfield 42, 3) := by decide +kernel
theorem d_P_compareRates_4 : decode b_P_compareRates 4 = .ok (.aload_n 1, 1) := by decide +kernel
theorem d_P_compareRates_5 : decode b_P_compareRates 5 = .ok (.getfield 55, 3) := by decide +kernel
theorem d_P_compareRates_8 : decode b_P_compareRates 8 = .ok (.imul, 1) := by decide +kernel
theorem d_P_compareRates_9 : decode b_P_compareRates 9 = .ok (.aload_n 1, 1) := by decide +kernel
theorem d_P_compareRates_10 : decode b_P_compareRates 10 = .ok (.getfield 42, 3) := by decide +kernel
theorem d_P_compareRates_13 : decode b_P_compareRates 13 = .ok (.aload_n 0, 1) := by decide +kernel
theorem d_P_compareRates_14 : decode b_P_compareRates 14 = .ok (.getfield 55, 3) := by decide +kernel
theorem d_P_compareRates_17 : decode b_P_compareRates 17 = .ok (.imul, 1) := by decide +kernel
theorem d_P_compareRates_18 : decode b_P_compareRates 18 = .ok (.invokestatic 160, 3) := by decide +kernel
theorem d_P_compareRates_21 : decode b_P_compareRates 21 = .ok (.ireturn, 1) := by decide +kernel
theorem d_P_mostKept_0 : decode b_P_mostKept 0 = .ok (.aload_n 0, 1) := by decide +kernel
theorem d_P_mostKept_1 : decode b_P_mostKept 1 = .ok (.getfield 52, 3) := by decide +kernel
theorem d_P_mostKept_4 : decode b_P_mostKept 4 = .ok (.aload_n 1, 1) := by decide +kernel
theorem d_P_mostKept_5 : decode b_P_mostKept 5 = .ok (.getfield 52, 3) := by decide +kernel
theorem d_P_mostKept_8 : decode b_P_mostKept 8 = .ok (.invokestatic 127, 3) := by decide +kernel
theorem d_P_mostKept_11 : decode b_P_mostKept 11 = .ok (.aload_n 0, 1) := by decide +kernel
theorem d_P_mostKept_12 : decode b_P_mostKept 12 = .ok (.getfield 55, 3) := by decide +kernel
theorem d_P_mostKept_15 : decode b_P_mostKept 15 = .ok (.aload_n 1, 1) := by decide +kernel
theorem d_P_mostKept_16 : decode b_P_mostKept 16 = .ok (.getfield 55, 3) := by decide +kernel
theorem d_P_mostKept_19 : decode b_P_mostKept 19 = .ok (.invokestatic 132, 3) := by decide +kernel
theorem d_P_mostKept_22 : decode b_P_mostKept 22 = .ok (.iadd, 1) := by decide +kernel
theorem d_P_mostKept_23 : decode b_P_mostKept 23 = .ok (.istore_n 2, 1) := by decide +kernel
theorem d_P_mostKept_24 : decode b_P_mostKept 24 = .ok (.iconst 0, 1) := by decide +kernel
theorem d_P_mostKept_25 : decode b_P_mostKept 25 = .ok (.istore_n 3, 1) := by decide +kernel
theorem d_P_mostKept_26 : decode b_P_mostKept 26 = .ok (.iconst 0, 1) := by decide +kernel
theorem d_P_mostKept_27 : decode b_P_mostKept 27 = .ok (.istore 4, 2) := by decide +kernel
theorem d_P_mostKept_29 : decode b_P_mostKept 29 = .ok (.iconst 0, 1) := by decide +kernel
theorem d_P_mostKept_30 : decode b_P_mostKept 30 = .ok (.istore 5, 2) := by decide +kernel
theorem d_P_mostKept_32 : decode b_P_mostKept 32 = .ok (.iload 5, 2) := by decide +kernel
theorem d_P_mostKept_34 : decode b_P_mostKept 34 = .ok (.iload_n 2, 1) := by decide +kernel
theorem d_P_mostKept_35 : decode b_P_mostKept 35 = .ok (.if_icmp .ge 33, 3) := by decide +kernel
theorem d_P_mostKept_38 : decode b_P_mostKept 38 = .ok (.iload_n 3, 1) := by decide +kernel
theorem d_P_mostKept_39 : decode b_P_mostKept 39 = .ok (.aload_n 0, 1) := by decide +kernel
theorem d_P_mostKept_40 : decode b_P_mostKept 40 = .ok (.iload 5, 2) := by decide +kernel
theorem d_P_mostKept_42 : decode b_P_mostKept 42 = .ok (.invokevirtual 66, 3) := by decide +kernel
theorem d_P_mostKept_45 : decode b_P_mostKept 45 = .ok (.aload_n 1, 1) := by decide +kernel
theorem d_P_mostKept_46 : decode b_P_mostKept 46 = .ok (.iload 5, 2) := by decide +kernel
theorem d_P_mostKept_48 : decode b_P_mostKept 48 = .ok (.invokevirtual 66, 3) := by decide +kernel
theorem d_P_mostKept_51 : decode b_P_mostKept 51 = .ok (.isub, 1) := by decide +kernel
theorem d_P_mostKept_52 : decode b_P_mostKept 52 = .ok (.iadd, 1) := by decide +kernel
theorem d_P_mostKept_53 : decode b_P_mostKept 53 = .ok (.istore_n 3, 1) := by decide +kernel
theorem d_P_mostKept_54 : decode b_P_mostKept 54 = .ok (.iload 4, 2) := by decide +kernel
theorem d_P_mostKept_56 : decode b_P_mostKept 56 = .ok (.iload_n 3, 1) := by decide +kernel
theorem d_P_mostKept_57 : decode b_P_mostKept 57 = .ok (.invokestatic 127, 3) := by decide +kernel
theorem d_P_mostKept_60 : decode b_P_mostKept 60 = .ok (.istore 4, 2) := by decide +kernel
theorem d_P_mostKept_62 : decode b_P_mostKept 62 = .ok (.iinc 5 1, 3) := by decide +kernel
theorem d_P_mostKept_65 : decode b_P_mostKept 65 = .ok (.goto (-33), 3) := by decide +kernel
theorem d_P_mostKept_68 : decode b_P_mostKept 68 = .ok (.iload 4, 2) := by decide +kernel
theorem d_P_mostKept_70 : decode b_P_mostKept 70 = .ok (.ireturn, 1) := by decide +kernel
theorem d_P_leastWait_0 : decode b_P_leastWait 0 = .ok (.aload_n 1, 1) := by decide +kernel
theorem d_P_leastWait_1 : decode b_P_leastWait 1 = .ok (.getfield 42, 3) := by decide +kernel
theorem d_P_leastWait_4 : decode b_P_leastWait 4 = .ok (.ifCond .ne 28, 3) := by decide +kernel
theorem d_P_leastWait_7 : decode b_P_leastWait 7 = .ok (.aload_n 0, 1) := by decide +kernel
theorem d_P_leastWait_8 : decode b_P_leastWait 8 = .ok (.aload_n 1, 1) := by decide +kernel
theorem d_P_leastWait_9 : decode b_P_leastWait 9 = .ok (.getfield 62, 3) := by decide +kernel
theorem d_P_leastWait_12 : decode b_P_leastWait 12 = .ok (.invokevirtual 79, 3) := by decide +kernel
theorem d_P_leastWait_15 : decode b_P_leastWait 15 = .ok (.ifCond .eq 15, 3) := by decide +kernel
theorem d_P_leastWait_18 : decode b_P_leastWait 18 = .ok (.aload_n 0, 1) := by decide +kernel
theorem d_P_leastWait_19 : decode b_P_leastWait 19 = .ok (.aload_n 1, 1) := by decide +kernel
theorem d_P_leastWait_20 : decode b_P_leastWait 20 = .ok (.aload_n 1, 1) := by decide +kernel
theorem d_P_leastWait_21 : decode b_P_leastWait 21 = .ok (.getfield 62, 3) := by decide +kernel
theorem d_P_leastWait_24 : decode b_P_leastWait 24 = .ok (.invokestatic 165, 3) := by decide +kernel
theorem d_P_leastWait_27 : decode b_P_leastWait 27 = .ok (.goto 4, 3) := by decide +kernel
theorem d_P_leastWait_30 : decode b_P_leastWait 30 = .ok (.iconst (-1), 1) := by decide +kernel
theorem d_P_leastWait_31 : decode b_P_leastWait 31 = .ok (.ireturn, 1) := by decide +kernel
theorem d_P_leastWait_32 : decode b_P_leastWait 32 = .ok (.aload_n 0, 1) := by decide +kernel
theorem d_P_leastWait_33 : decode b_P_leastWait 33 = .ok (.aload_n 1, 1) := by decide +kernel
theorem d_P_leastWait_34 : decode b_P_leastWait 34 = .ok (.invokestatic 100, 3) := by decide +kernel
theorem d_P_leastWait_37 : decode b_P_leastWait 37 = .ok (.ifCond .ge 5, 3) := by decide +kernel
theorem d_P_leastWait_40 : decode b_P_leastWait 40 = .ok (.iconst (-1), 1) := by decide +kernel
theorem d_P_leastWait_41 : decode b_P_leastWait 41 = .ok (.ireturn, 1) := by decide +kernel
theorem d_P_leastWait_42 : decode b_P_leastWait 42 = .ok (.aload_n 0, 1) := by decide +kernel
theorem d_P_leastWait_43 : decode b_P_leastWait 43 = .ok (.getfield 62, 3) := by decide +kernel
theorem d_P_leastWait_46 : decode b_P_leastWait 46 = .ok (.aload_n 1, 1) := by decide +kernel
theorem d_P_leastWait_47 : decode b_P_leastWait 47 = .ok (.getfield 62, 3) := by decide +kernel
theorem d_P_leastWait_50 : decode b_P_leastWait 50 = .ok (.invokestatic 127, 3) := by decide +kernel
theorem d_P_leastWait_53 : decode b_P_leastWait 53 = .ok (.aload_n 0, 1) := by decide +kernel
theorem d_P_leastWait_54 : decode b_P_leastWait 54 = .ok (.getfield 42, 3) := by decide +kernel
theorem d_P_leastWait_57 : decode b_P_leastWait 57 = .ok (.aload_n 1, 1) := by decide +kernel
theorem d_P_leastWait_58 : decode b_P_leastWait 58 = .ok (.getfield 42, 3) := by decide +kernel
theorem d_P_leastWait_61 : decode b_P_leastWait 61 = .ok (.invokestatic 132, 3) := by decide +kernel
theorem d_P_leastWait_64 : decode b_P_leastWait 64 = .ok (.iadd, 1) := by decide +kernel
theorem d_P_leastWait_65 : decode b_P_leastWait 65 = .ok (.istore_n 2, 1) := by decide +kernel
theorem d_P_leastWait_66 : decode b_P_leastWait 66 = .ok (.aload_n 0, 1) := by decide +kernel
theorem d_P_leastWait_67 : decode b_P_leastWait 67 = .ok (.aload_n 1, 1) := by decide +kernel
theorem d_P_leastWait_68 : decode b_P_leastWait 68 = .ok (.iload_n 2, 1) := by decide +kernel
theorem d_P_leastWait_69 : decode b_P_leastWait 69 = .ok (.invokestatic 165, 3) := by decide +kernel
theorem d_P_leastWait_72 : decode b_P_leastWait 72 = .ok (.ireturn, 1) := by decide +kernel
theorem d_P_mostBehind_0 : decode b_P_mostBehind 0 = .ok (.iconst 0, 1) := by decide +kernel
theorem d_P_mostBehind_1 : decode b_P_mostBehind 1 = .ok (.istore_n 3, 1) := by decide +kernel
theorem d_P_mostBehind_2 : decode b_P_mostBehind 2 = .ok (.iconst 1, 1) := by decide +kernel
theorem d_P_mostBehind_3 : decode b_P_mostBehind 3 = .ok (.istore 4, 2) := by decide +kernel
theorem d_P_mostBehind_5 : decode b_P_mostBehind 5 = .ok (.iload 4, 2) := by decide +kernel
theorem d_P_mostBehind_7 : decode b_P_mostBehind 7 = .ok (.iload_n 2, 1) := by decide +kernel
theorem d_P_mostBehind_8 : decode b_P_mostBehind 8 = .ok (.if_icmp .gt 27, 3) := by decide +kernel
theorem d_P_mostBehind_11 : decode b_P_mostBehind 11 = .ok (.iload_n 3, 1) := by decide +kernel
theorem d_P_mostBehind_12 : decode b_P_mostBehind 12 = .ok (.aload_n 0, 1) := by decide +kernel
theorem d_P_mostBehind_13 : decode b_P_mostBehind 13 = .ok (.iload 4, 2) := by decide +kernel
theorem d_P_mostBehind_15 : decode b_P_mostBehind 15 = .ok (.invokevirtual 84, 3) := by decide +kernel
theorem d_P_mostBehind_18 : decode b_P_mostBehind 18 = .ok (.aload_n 1, 1) := by decide +kernel
theorem d_P_mostBehind_19 : decode b_P_mostBehind 19 = .ok (.iload 4, 2) := by decide +kernel
theorem d_P_mostBehind_21 : decode b_P_mostBehind 21 = .ok (.invokevirtual 84, 3) := by decide +kernel
theorem d_P_mostBehind_24 : decode b_P_mostBehind 24 = .ok (.isub, 1) := by decide +kernel
theorem d_P_mostBehind_25 : decode b_P_mostBehind 25 = .ok (.invokestatic 127, 3) := by decide +kernel
theorem d_P_mostBehind_28 : decode b_P_mostBehind 28 = .ok (.istore_n 3, 1) := by decide +kernel
theorem d_P_mostBehind_29 : decode b_P_mostBehind 29 = .ok (.iinc 4 1, 3) := by decide +kernel
theorem d_P_mostBehind_32 : decode b_P_mostBehind 32 = .ok (.goto (-27), 3) := by decide +kernel
theorem d_P_mostBehind_35 : decode b_P_mostBehind 35 = .ok (.iload_n 3, 1) := by decide +kernel
theorem d_P_mostBehind_36 : decode b_P_mostBehind 36 = .ok (.ireturn, 1) := by decide +kernel
theorem d_P_commonMultiple_0 : decode b_P_commonMultiple 0 = .ok (.iload_n 0, 1) := by decide +kernel
theorem d_P_commonMultiple_1 : decode b_P_commonMultiple 1 = .ok (.iload_n 0, 1) := by decide +kernel
theorem d_P_commonMultiple_2 : decode b_P_commonMultiple 2 = .ok (.iload_n 1, 1) := by decide +kernel
theorem d_P_commonMultiple_3 : decode b_P_commonMultiple 3 = .ok (.invokestatic 58, 3) := by decide +kernel
theorem d_P_commonMultiple_6 : decode b_P_commonMultiple 6 = .ok (.idiv, 1) := by decide +kernel
theorem d_P_commonMultiple_7 : decode b_P_commonMultiple 7 = .ok (.iload_n 1, 1) := by decide +kernel
theorem d_P_commonMultiple_8 : decode b_P_commonMultiple 8 = .ok (.imul, 1) := by decide +kernel
theorem d_P_commonMultiple_9 : decode b_P_commonMultiple 9 = .ok (.ireturn, 1) := by decide +kernel
theorem d_P_commonDivisor_0 : decode b_P_commonDivisor 0 = .ok (.iload_n 0, 1) := by decide +kernel
theorem d_P_commonDivisor_1 : decode b_P_commonDivisor 1 = .ok (.istore_n 2, 1) := by decide +kernel
theorem d_P_commonDivisor_2 : decode b_P_commonDivisor 2 = .ok (.iload_n 1, 1) := by decide +kernel
theorem d_P_commonDivisor_3 : decode b_P_commonDivisor 3 = .ok (.istore_n 3, 1) := by decide +kernel
theorem d_P_commonDivisor_4 : decode b_P_commonDivisor 4 = .ok (.iconst 0, 1) := by decide +kernel
theorem d_P_commonDivisor_5 : decode b_P_commonDivisor 5 = .ok (.istore 4, 2) := by decide +kernel
theorem d_P_commonDivisor_7 : decode b_P_commonDivisor 7 = .ok (.iload 4, 2) := by decide +kernel
theorem d_P_commonDivisor_9 : decode b_P_commonDivisor 9 = .ok (.bipush 100, 2) := by decide +kernel
theorem d_P_commonDivisor_11 : decode b_P_commonDivisor 11 = .ok (.if_icmp .ge 23, 3) := by decide +kernel
theorem d_P_commonDivisor_14 : decode b_P_commonDivisor 14 = .ok (.iload_n 3, 1) := by decide +kernel
theorem d_P_commonDivisor_15 : decode b_P_commonDivisor 15 = .ok (.ifCond .eq 19, 3) := by decide +kernel
theorem d_P_commonDivisor_18 : decode b_P_commonDivisor 18 = .ok (.iload_n 2, 1) := by decide +kernel
theorem d_P_commonDivisor_19 : decode b_P_commonDivisor 19 = .ok (.iload_n 3, 1) := by decide +kernel
theorem d_P_commonDivisor_20 : decode b_P_commonDivisor 20 = .ok (.irem, 1) := by decide +kernel
theorem d_P_commonDivisor_21 : decode b_P_commonDivisor 21 = .ok (.istore 5, 2) := by decide +kernel
theorem d_P_commonDivisor_23 : decode b_P_commonDivisor 23 = .ok (.iload_n 3, 1) := by decide +kernel
theorem d_P_commonDivisor_24 : decode b_P_commonDivisor 24 = .ok (.istore_n 2, 1) := by decide +kernel
theorem d_P_commonDivisor_25 : decode b_P_commonDivisor 25 = .ok (.iload 5, 2) := by decide +kernel
theorem d_P_commonDivisor_27 : decode b_P_commonDivisor 27 = .ok (.istore_n 3, 1) := by decide +kernel
theorem d_P_commonDivisor_28 : decode b_P_commonDivisor 28 = .ok (.iinc 4 1, 3) := by decide +kernel
theorem d_P_commonDivisor_31 : decode b_P_commonDivisor 31 = .ok (.goto (-24), 3) := by decide +kernel
theorem d_P_commonDivisor_34 : decode b_P_commonDivisor 34 = .ok (.iconst 1, 1) := by decide +kernel
theorem d_P_commonDivisor_35 : decode b_P_commonDivisor 35 = .ok (.iload_n 2, 1) := by decide +kernel
theorem d_P_commonDivisor_36 : decode b_P_commonDivisor 36 = .ok (.invokestatic 127, 3) := by decide +kernel
theorem d_P_commonDivisor_39 : decode b_P_commonDivisor 39 = .ok (.ireturn, 1) := by decide +kernel
