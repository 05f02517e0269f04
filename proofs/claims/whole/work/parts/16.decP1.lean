theorem d_P_init_0 : decode b_P_init 0 = .ok (.aload_n 0, 1) := by decide +kernel
theorem d_P_init_1 : decode b_P_init 1 = .ok (.invokespecial 1, 3) := by decide +kernel
theorem d_P_init_4 : decode b_P_init 4 = .ok (.aload_n 0, 1) := by decide +kernel
theorem d_P_init_5 : decode b_P_init 5 = .ok (.bipush 40, 2) := by decide +kernel
theorem d_P_init_7 : decode b_P_init 7 = .ok (.anewarray 9, 3) := by decide +kernel
theorem d_P_init_10 : decode b_P_init 10 = .ok (.putfield 11, 3) := by decide +kernel
theorem d_P_init_13 : decode b_P_init 13 = .ok (.aload_n 0, 1) := by decide +kernel
theorem d_P_init_14 : decode b_P_init 14 = .ok (.iconst 0, 1) := by decide +kernel
theorem d_P_init_15 : decode b_P_init 15 = .ok (.putfield 15, 3) := by decide +kernel
theorem d_P_init_18 : decode b_P_init 18 = .ok (.return_, 1) := by decide +kernel
theorem d_P_word_0 : decode b_P_word 0 = .ok (.iload_n 1, 1) := by decide +kernel
theorem d_P_word_1 : decode b_P_word 1 = .ok (.ifCond .lt 20, 3) := by decide +kernel
theorem d_P_word_4 : decode b_P_word 4 = .ok (.iload_n 1, 1) := by decide +kernel
theorem d_P_word_5 : decode b_P_word 5 = .ok (.bipush 30, 2) := by decide +kernel
theorem d_P_word_7 : decode b_P_word 7 = .ok (.if_icmp .gt 14, 3) := by decide +kernel
theorem d_P_word_10 : decode b_P_word 10 = .ok (.iload_n 3, 1) := by decide +kernel
theorem d_P_word_11 : decode b_P_word 11 = .ok (.iconst 1, 1) := by decide +kernel
theorem d_P_word_12 : decode b_P_word 12 = .ok (.if_icmp .lt 9, 3) := by decide +kernel
theorem d_P_word_15 : decode b_P_word 15 = .ok (.iload_n 3, 1) := by decide +kernel
theorem d_P_word_16 : decode b_P_word 16 = .ok (.bipush 30, 2) := by decide +kernel
theorem d_P_word_18 : decode b_P_word 18 = .ok (.if_icmp .le 5, 3) := by decide +kernel
theorem d_P_word_21 : decode b_P_word 21 = .ok (.iconst (-1), 1) := by decide +kernel
theorem d_P_word_22 : decode b_P_word 22 = .ok (.ireturn, 1) := by decide +kernel
theorem d_P_word_23 : decode b_P_word 23 = .ok (.aload_n 0, 1) := by decide +kernel
theorem d_P_word_24 : decode b_P_word 24 = .ok (.getfield 15, 3) := by decide +kernel
theorem d_P_word_27 : decode b_P_word 27 = .ok (.bipush 40, 2) := by decide +kernel
theorem d_P_word_29 : decode b_P_word 29 = .ok (.if_icmp .lt 5, 3) := by decide +kernel
theorem d_P_word_32 : decode b_P_word 32 = .ok (.iconst (-1), 1) := by decide +kernel
theorem d_P_word_33 : decode b_P_word 33 = .ok (.ireturn, 1) := by decide +kernel
theorem d_P_word_34 : decode b_P_word 34 = .ok (.new 9, 3) := by decide +kernel
theorem d_P_word_37 : decode b_P_word 37 = .ok (.dup, 1) := by decide +kernel
theorem d_P_word_38 : decode b_P_word 38 = .ok (.iload_n 1, 1) := by decide +kernel
theorem d_P_word_39 : decode b_P_word 39 = .ok (.iload_n 2, 1) := by decide +kernel
theorem d_P_word_40 : decode b_P_word 40 = .ok (.i2l, 1) := by decide +kernel
theorem d_P_word_41 : decode b_P_word 41 = .ok (.iload_n 3, 1) := by decide +kernel
theorem d_P_word_42 : decode b_P_word 42 = .ok (.iload 4, 2) := by decide +kernel
theorem d_P_word_44 : decode b_P_word 44 = .ok (.i2l, 1) := by decide +kernel
theorem d_P_word_45 : decode b_P_word 45 = .ok (.invokespecial 19, 3) := by decide +kernel
theorem d_P_word_48 : decode b_P_word 48 = .ok (.astore 5, 2) := by decide +kernel
theorem d_P_word_50 : decode b_P_word 50 = .ok (.aload_n 0, 1) := by decide +kernel
theorem d_P_word_51 : decode b_P_word 51 = .ok (.bipush 6, 2) := by decide +kernel
theorem d_P_word_53 : decode b_P_word 53 = .ok (.aload 5, 2) := by decide +kernel
theorem d_P_word_55 : decode b_P_word 55 = .ok (.aload 5, 2) := by decide +kernel
theorem d_P_word_57 : decode b_P_word 57 = .ok (.iconst 0, 1) := by decide +kernel
theorem d_P_word_58 : decode b_P_word 58 = .ok (.invokestatic 22, 3) := by decide +kernel
theorem d_P_word_61 : decode b_P_word 61 = .ok (.invokestatic 26, 3) := by decide +kernel
theorem d_P_word_64 : decode b_P_word 64 = .ok (.invokevirtual 30, 3) := by decide +kernel
theorem d_P_word_67 : decode b_P_word 67 = .ok (.ireturn, 1) := by decide +kernel
theorem d_P_make_0 : decode b_P_make 0 = .ok (.iload_n 1, 1) := by decide +kernel
theorem d_P_make_1 : decode b_P_make 1 = .ok (.ifCond .lt 18, 3) := by decide +kernel
theorem d_P_make_4 : decode b_P_make 4 = .ok (.iload_n 1, 1) := by decide +kernel
theorem d_P_make_5 : decode b_P_make 5 = .ok (.bipush 7, 2) := by decide +kernel
theorem d_P_make_7 : decode b_P_make 7 = .ok (.if_icmp .gt 12, 3) := by decide +kernel
theorem d_P_make_10 : decode b_P_make 10 = .ok (.aload_n 0, 1) := by decide +kernel
theorem d_P_make_11 : decode b_P_make 11 = .ok (.getfield 15, 3) := by decide +kernel
theorem d_P_make_14 : decode b_P_make 14 = .ok (.bipush 40, 2) := by decide +kernel
theorem d_P_make_16 : decode b_P_make 16 = .ok (.if_icmp .lt 5, 3) := by decide +kernel
theorem d_P_make_19 : decode b_P_make 19 = .ok (.iconst (-1), 1) := by decide +kernel
theorem d_P_make_20 : decode b_P_make 20 = .ok (.ireturn, 1) := by decide +kernel
theorem d_P_make_21 : decode b_P_make 21 = .ok (.aload_n 0, 1) := by decide +kernel
theorem d_P_make_22 : decode b_P_make 22 = .ok (.iload_n 2, 1) := by decide +kernel
theorem d_P_make_23 : decode b_P_make 23 = .ok (.invokevirtual 34, 3) := by decide +kernel
theorem d_P_make_26 : decode b_P_make 26 = .ok (.astore 4, 2) := by decide +kernel
theorem d_P_make_28 : decode b_P_make 28 = .ok (.iload_n 1, 1) := by decide +kernel
theorem d_P_make_29 : decode b_P_make 29 = .ok (.invokestatic 38, 3) := by decide +kernel
theorem d_P_make_32 : decode b_P_make 32 = .ok (.ifCond .eq 11, 3) := by decide +kernel
theorem d_P_make_35 : decode b_P_make 35 = .ok (.aload_n 0, 1) := by decide +kernel
theorem d_P_make_36 : decode b_P_make 36 = .ok (.iload_n 3, 1) := by decide +kernel
theorem d_P_make_37 : decode b_P_make 37 = .ok (.invokevirtual 34, 3) := by decide +kernel
theorem d_P_make_40 : decode b_P_make 40 = .ok (.goto 5, 3) := by decide +kernel
theorem d_P_make_43 : decode b_P_make 43 = .ok (.aload 4, 2) := by decide +kernel
theorem d_P_make_45 : decode b_P_make 45 = .ok (.astore 5, 2) := by decide +kernel
theorem d_P_make_47 : decode b_P_make 47 = .ok (.aload 4, 2) := by decide +kernel
theorem d_P_make_49 : decode b_P_make 49 = .ok (.ifnull 8, 3) := by decide +kernel
theorem d_P_make_52 : decode b_P_make 52 = .ok (.aload 5, 2) := by decide +kernel
theorem d_P_make_54 : decode b_P_make 54 = .ok (.ifnonnull 5, 3) := by decide +kernel
theorem d_P_make_57 : decode b_P_make 57 = .ok (.iconst (-1), 1) := by decide +kernel
theorem d_P_make_58 : decode b_P_make 58 = .ok (.ireturn, 1) := by decide +kernel
theorem d_P_make_59 : decode b_P_make 59 = .ok (.iload_n 1, 1) := by decide +kernel
theorem d_P_make_60 : decode b_P_make 60 = .ok (.bipush 6, 2) := by decide +kernel
theorem d_P_make_62 : decode b_P_make 62 = .ok (.if_icmp .ne 15, 3) := by decide +kernel
theorem d_P_make_65 : decode b_P_make 65 = .ok (.iload_n 3, 1) := by decide +kernel
theorem d_P_make_66 : decode b_P_make 66 = .ok (.ifCond .lt 9, 3) := by decide +kernel
theorem d_P_make_69 : decode b_P_make 69 = .ok (.iload_n 3, 1) := by decide +kernel
theorem d_P_make_70 : decode b_P_make 70 = .ok (.bipush 30, 2) := by decide +kernel
theorem d_P_make_72 : decode b_P_make 72 = .ok (.if_icmp .le 5, 3) := by decide +kernel
theorem d_P_make_75 : decode b_P_make 75 = .ok (.iconst (-1), 1) := by decide +kernel
theorem d_P_make_76 : decode b_P_make 76 = .ok (.ireturn, 1) := by decide +kernel
theorem d_P_make_77 : decode b_P_make 77 = .ok (.iload_n 1, 1) := by decide +kernel
theorem d_P_make_78 : decode b_P_make 78 = .ok (.iconst 5, 1) := by decide +kernel
theorem d_P_make_79 : decode b_P_make 79 = .ok (.if_icmp .ne 21, 3) := by decide +kernel
theorem d_P_make_82 : decode b_P_make 82 = .ok (.aload 5, 2) := by decide +kernel
theorem d_P_make_84 : decode b_P_make 84 = .ok (.getfield 42, 3) := by decide +kernel
theorem d_P_make_87 : decode b_P_make 87 = .ok (.ifCond .ne 13, 3) := by decide +kernel
theorem d_P_make_90 : decode b_P_make 90 = .ok (.new 45, 3) := by decide +kernel
theorem d_P_make_93 : decode b_P_make 93 = .ok (.dup, 1) := by decide +kernel
theorem d_P_make_94 : decode b_P_make 94 = .ok (.ldc 47, 2) := by decide +kernel
theorem d_P_make_96 : decode b_P_make 96 = .ok (.invokespecial 49, 3) := by decide +kernel
theorem d_P_make_99 : decode b_P_make 99 = .ok (.athrow, 1) := by decide +kernel
theorem d_P_make_100 : decode b_P_make 100 = .ok (.aload_n 0, 1) := by decide +kernel
theorem d_P_make_101 : decode b_P_make 101 = .ok (.iload_n 1, 1) := by decide +kernel
theorem d_P_make_102 : decode b_P_make 102 = .ok (.aload 4, 2) := by decide +kernel
theorem d_P_make_104 : decode b_P_make 104 = .ok (.aload 5, 2) := by decide +kernel
theorem d_P_make_106 : decode b_P_make 106 = .ok (.iload_n 3, 1) := by decide +kernel
theorem d_P_make_107 : decode b_P_make 107 = .ok (.invokestatic 22, 3) := by decide +kernel
theorem d_P_make_110 : decode b_P_make 110 = .ok (.invokestatic 26, 3) := by decide +kernel
theorem d_P_make_113 : decode b_P_make 113 = .ok (.invokevirtual 30, 3) := by decide +kernel
theorem d_P_make_116 : decode b_P_make 116 = .ok (.ireturn, 1) := by decide +kernel
theorem d_P_form_0 : decode b_P_form 0 = .ok (.aload_n 0, 1) := by decide +kernel
theorem d_P_form_1 : decode b_P_form 1 = .ok (.iload_n 1, 1) := by decide +kernel
theorem d_P_form_2 : decode b_P_form 2 = .ok (.invokevirtual 34, 3) := by decide +kernel
theorem d_P_form_5 : decode b_P_form 5 = .ok (.astore_n 3, 1) := by decide +kernel
theorem d_P_form_6 : decode b_P_form 6 = .ok (.aload_n 3, 1) := by decide +kernel
theorem d_P_form_7 : decode b_P_form 7 = .ok (.ifnonnull 5, 3) := by decide +kernel
theorem d_P_form_10 : decode b_P_form 10 = .ok (.iconst (-1), 1) := by decide +kernel
theorem d_P_form_11 : decode b_P_form 11 = .ok (.ireturn, 1) := by decide +kernel
theorem d_P_form_12 : decode b_P_form 12 = .ok (.iload_n 2, 1) := by decide +kernel
theorem d_P_form_13 : decode b_P_form 13 = .ok (.tableswitch 84 0 4 #[35, 40, 45, 62, 79], 35) := by decide +kernel
theorem d_P_form_48 : decode b_P_form 48 = .ok (.aload_n 3, 1) := by decide +kernel
theorem d_P_form_49 : decode b_P_form 49 = .ok (.getfield 52, 3) := by decide +kernel
theorem d_P_form_52 : decode b_P_form 52 = .ok (.ireturn, 1) := by decide +kernel
theorem d_P_form_53 : decode b_P_form 53 = .ok (.aload_n 3, 1) := by decide +kernel
theorem d_P_form_54 : decode b_P_form 54 = .ok (.getfield 55, 3) := by decide +kernel
theorem d_P_form_57 : decode b_P_form 57 = .ok (.ireturn, 1) := by decide +kernel
theorem d_P_form_58 : decode b_P_form 58 = .ok (.aload_n 3, 1) := by decide +kernel
theorem d_P_form_59 : decode b_P_form 59 = .ok (.getfield 42, 3) := by decide +kernel
theorem d_P_form_62 : decode b_P_form 62 = .ok (.aload_n 3, 1) := by decide +kernel
theorem d_P_form_63 : decode b_P_form 63 = .ok (.getfield 42, 3) := by decide +kernel
theorem d_P_form_66 : decode b_P_form 66 = .ok (.aload_n 3, 1) := by decide +kernel
theorem d_P_form_67 : decode b_P_form 67 = .ok (.getfield 55, 3) := by decide +kernel
theorem d_P_form_70 : decode b_P_form 70 = .ok (.invokestatic 58, 3) := by decide +kernel
theorem d_P_form_73 : decode b_P_form 73 = .ok (.idiv, 1) := by decide +kernel
theorem d_P_form_74 : decode b_P_form 74 = .ok (.ireturn, 1) := by decide +kernel
theorem d_P_form_75 : decode b_P_form 75 = .ok (.aload_n 3, 1) := by decide +kernel
theorem d_P_form_76 : decode b_P_form 76 = .ok (.getfield 55, 3) := by decide +kernel
theorem d_P_form_79 : decode b_P_form 79 = .ok (.aload_n 3, 1) := by decide +kernel
theorem d_P_form_80 : decode b_P_form 80 = .ok (.getfield 42, 3) := by decide +kernel
theorem d_P_form_83 : decode b_P_form 83 = .ok (.aload_n 3, 1) := by decide +kernel
theorem d_P_form_84 : decode b_P_form 84 = .ok (.getfield 55, 3) := by decide +kernel
theorem d_P_form_87 : decode b_P_form 87 = .ok (.invokestatic 58, 3) := by decide +kernel
theorem d_P_form_90 : decode b_P_form 90 = .ok (.idiv, 1) := by decide +kernel
theorem d_P_form_91 : decode b_P_form 91 = .ok (.ireturn, 1) := by decide +kernel
theorem d_P_form_92 : decode b_P_form 92 = .ok (.aload_n 3, 1) := by decide +kernel
theorem d_P_form_93 : decode b_P_form 93 = .ok (.getfield 62, 3) := by decide +kernel
theorem d_P_form_96 : decode b_P_form 96 = .ok (.ireturn, 1) := by decide +kernel
theorem d_P_form_97 : decode b_P_form 97 = .ok (.iconst (-1), 1) := by decide +kernel
theorem d_P_form_98 : decode b_P_form 98 = .ok (.ireturn, 1) := by decide +kernel
theorem d_P_bit_0 : decode b_P_bit 0 = .ok (.aload_n 0, 1) := by decide +kernel
theorem d_P_bit_1 : decode b_P_bit 1 = .ok (.iload_n 1, 1) := by decide +kernel
theorem d_P_bit_2 : decode b_P_bit 2 = .ok (.invokevirtual 34, 3) := by decide +kernel
theorem d_P_bit_5 : decode b_P_bit 5 = .ok (.astore_n 3, 1) := by decide +kernel
theorem d_P_bit_6 : decode b_P_bit 6 = .ok (.aload_n 3, 1) := by decide +kernel
theorem d_P_bit_7 : decode b_P_bit 7 = .ok (.ifnull 13, 3) := by decide +kernel
theorem d_P_bit_10 : decode b_P_bit 10 = .ok (.iload_n 2, 1) := by decide +kernel
theorem d_P_bit_11 : decode b_P_bit 11 = .ok (.ifCond .lt 9, 3) := by decide +kernel
theorem d_P_bit_14 : decode b_P_bit 14 = .ok (.iload_n 2, 1) := by decide +kernel
theorem d_P_bit_15 : decode b_P_bit 15 = .ok (.ldc 65, 2) := by decide +kernel
theorem d_P_bit_17 : decode b_P_bit 17 = .ok (.if_icmp .le 5, 3) := by decide +kernel
theorem d_P_bit_20 : decode b_P_bit 20 = .ok (.iconst (-1), 1) := by decide +kernel
theorem d_P_bit_21 : decode b_P_bit 21 = .ok (.ireturn, 1) := by decide +kernel
theorem d_P_bit_22 : decode b_P_bit 22 = .ok (.aload_n 3, 1) := by decide +kernel
theorem d_P_bit_23 : decode b_P_bit 23 = .ok (.iload_n 2, 1) := by decide +kernel
theorem d_P_bit_24 : decode b_P_bit 24 = .ok (.invokevirtual 66, 3) := by decide +kernel
theorem d_P_bit_27 : decode b_P_bit 27 = .ok (.ireturn, 1) := by decide +kernel
theorem d_P_ones_0 : decode b_P_ones 0 = .ok (.aload_n 0, 1) := by decide +kernel
theorem d_P_ones_1 : decode b_P_ones 1 = .ok (.iload_n 1, 1) := by decide +kernel
theorem d_P_ones_2 : decode b_P_ones 2 = .ok (.invokevirtual 34, 3) := by decide +kernel
theorem d_P_ones_5 : decode b_P_ones 5 = .ok (.astore_n 3, 1) := by decide +kernel
theorem d_P_ones_6 : decode b_P_ones 6 = .ok (.aload_n 3, 1) := by decide +kernel
theorem d_P_ones_7 : decode b_P_ones 7 = .ok (.ifnull 13, 3) := by decide +kernel
theorem d_P_ones_10 : decode b_P_ones 10 = .ok (.iload_n 2, 1) := by decide +kernel
theorem d_P_ones_11 : decode b_P_ones 11 = .ok (.ifCond .lt 9, 3) := by decide +kernel
theorem d_P_ones_14 : decode b_P_ones 14 = .ok (.iload_n 2, 1) := by decide +kernel
theorem d_P_ones_15 : decode b_P_ones 15 = .ok (.ldc 65, 2) := by decide +kernel
theorem d_P_ones_17 : decode b_P_ones 17 = .ok (.if_icmp .le 5, 3) := by decide +kernel
theorem d_P_ones_20 : decode b_P_ones 20 = .ok (.iconst (-1), 1) := by decide +kernel
theorem d_P_ones_21 : decode b_P_ones 21 = .ok (.ireturn, 1) := by decide +kernel
theorem d_P_ones_22 : decode b_P_ones 22 = .ok (.aload_n 3, 1) := by decide +kernel
theorem d_P_ones_23 : decode b_P_ones 23 = .ok (.iload_n 2, 1) := by decide +kernel
theorem d_P_ones_24 : decode b_P_ones 24 = .ok (.invokevirtual 70, 3) := by decide +kernel
theorem d_P_ones_27 : decode b_P_ones 27 = .ok (.ireturn, 1) := by decide +kernel
theorem d_P_at_0 : decode b_P_at 0 = .ok (.aload_n 0, 1) := by decide +kernel
theorem d_P_at_1 : decode b_P_at 1 = .ok (.iload_n 1, 1) := by decide +kernel
theorem d_P_at_2 : decode b_P_at 2 = .ok (.invokevirtual 34, 3) := by decide +kernel
theorem d_P_at_5 : decode b_P_at 5 = .ok (.astore_n 3, 1) := by decide +kernel
theorem d_P_at_6 : decode b_P_at 6 = .ok (.aload_n 3, 1) := by decide +kernel
theorem d_P_at_7 : decode b_P_at 7 = .ok (.ifnonnull 13, 3) := by decide +kernel
theorem d_P_at_10 : decode b_P_at 10 = .ok (.new 73, 3) := by decide +kernel
theorem d_P_at_13 : decode b_P_at 13 = .ok (.dup, 1) := by decide +kernel
theorem d_P_at_14 : decode b_P_at 14 = .ok (.ldc 75, 2) := by decide +kernel
theorem d_P_at_16 : decode b_P_at 16 = .ok (.invokespecial 77, 3) := by decide +kernel
theorem d_P_at_19 : decode b_P_at 19 = .ok (.athrow, 1) := by decide +kernel
theorem d_P_at_20 : decode b_P_at 20 = .ok (.iload_n 2, 1) := by decide +kernel
theorem d_P_at_21 : decode b_P_at 21 = .ok (.iconst 1, 1) := by decide +kernel
theorem d_P_at_22 : decode b_P_at 22 = .ok (.if_icmp .lt 17, 3) := by decide +kernel
theorem d_P_at_25 : decode b_P_at 25 = .ok (.iload_n 2, 1) := by decide +kernel
theorem d_P_at_26 : decode b_P_at 26 = .ok (.ldc 78, 2) := by decide +kernel
theorem d_P_at_28 : decode b_P_at 28 = .ok (.if_icmp .gt 11, 3) := by decide +kernel
theorem d_P_at_31 : decode b_P_at 31 = .ok (.aload_n 3, 1) := by decide +kernel
theorem d_P_at_32 : decode b_P_at 32 = .ok (.iload_n 2, 1) := by decide +kernel
theorem d_P_at_33 : decode b_P_at 33 = .ok (.invokevirtual 79, 3) := by decide +kernel
theorem d_P_at_36 : decode b_P_at 36 = .ok (.ifCond .ne 13, 3) := by decide +kernel
theorem d_P_at_39 : decode b_P_at 39 = .ok (.new 73, 3) := by decide +kernel
theorem d_P_at_42 : decode b_P_at 42 = .ok (.dup, 1) := by decide +kernel
theorem d_P_at_43 : decode b_P_at 43 = .ok (.ldc 82, 2) := by decide +kernel
theorem d_P_at_45 : decode b_P_at 45 = .ok (.invokespecial 77, 3) := by decide +kernel
theorem d_P_at_48 : decode b_P_at 48 = .ok (.athrow, 1) := by decide +kernel
theorem d_P_at_49 : decode b_P_at 49 = .ok (.aload_n 3, 1) := by decide +kernel
theorem d_P_at_50 : decode b_P_at 50 = .ok (.iload_n 2, 1) := by decide +kernel
theorem d_P_at_51 : decode b_P_at 51 = .ok (.invokevirtual 84, 3) := by decide +kernel
theorem d_P_at_54 : decode b_P_at 54 = .ok (.ireturn, 1) := by decide +kernel
theorem d_P_same_0 : decode b_P_same 0 = .ok (.aload_n 0, 1) := by decide +kernel
theorem d_P_same_1 : decode b_P_same 1 = .ok (.iload_n 1, 1) := by decide +kernel
theorem d_P_same_2 : decode b_P_same 2 = .ok (.invokevirtual 34, 3) := by decide +kernel
theorem d_P_same_5 : decode b_P_same 5 = .ok (.astore_n 2, 1) := by decide +kernel
theorem d_P_same_6 : decode b_P_same 6 = .ok (.aload_n 2, 1) := by decide +kernel
theorem d_P_same_7 : decode b_P_same 7 = .ok (.ifnonnull 5, 3) := by decide +kernel
theorem d_P_same_10 : decode b_P_same 10 = .ok (.iconst (-1), 1) := by decide +kernel
theorem d_P_same_11 : decode b_P_same 11 = .ok (.ireturn, 1) := by decide +kernel
theorem d_P_same_12 : decode b_P_same 12 = .ok (.iconst 0, 1) := by decide +kernel
theorem d_P_same_13 : decode b_P_same 13 = .ok (.istore_n 3, 1) := by decide +kernel
theorem d_P_same_14 : decode b_P_same 14 = .ok (.iload_n 3, 1) := by decide +kernel
theorem d_P_same_15 : decode b_P_same 15 = .ok (.iload_n 1, 1) := by decide +kernel
theorem d_P_same_16 : decode b_P_same 16 = .ok (.if_icmp .ge 23, 3) := by decide +kernel
theorem d_P_same_19 : decode b_P_same 19 = .ok (.aload_n 0, 1) := by decide +kernel
theorem d_P_same_20 : decode b_P_same 20 = .ok (.iload_n 3, 1) := by decide +kernel
theorem d_P_same_21 : decode b_P_same 21 = .ok (.invokevirtual 34, 3) := by decide +kernel
theorem d_P_same_24 : decode b_P_same 24 = .ok (.aload_n 2, 1) := by decide +kernel
theorem d_P_same_25 : decode b_P_same 25 = .ok (.invokestatic 87, 3) := by decide +kernel
theorem d_P_same_28 : decode b_P_same 28 = .ok (.ifCond .eq 5, 3) := by decide +kernel
theorem d_P_same_31 : decode b_P_same 31 = .ok (.iload_n 3, 1) := by decide +kernel
theorem d_P_same_32 : decode b_P_same 32 = .ok (.ireturn, 1) := by decide +kernel
theorem d_P_same_33 : decode b_P_same 33 = .ok (.iinc 3 1, 3) := by decide +kernel
theorem d_P_same_36 : decode b_P_same 36 = .ok (.goto (-22), 3) := by decide +kernel
theorem d_P_same_39 : decode b_P_same 39 = .ok (.iload_n 1, 1) := by decide +kernel
theorem d_P_same_40 : decode b_P_same 40 = .ok (.ireturn, 1) := by decide +kernel
theorem d_P_ahead_0 : decode b_P_ahead 0 = .ok (.aload_n 0, 1) := by decide +kernel
theorem d_P_ahead_1 : decode b_P_ahead 1 = .ok (.iload_n 1, 1) := by decide +kernel
theorem d_P_ahead_2 : decode b_P_ahead 2 = .ok (.invokevirtual 34, 3) := by decide +kernel
theorem d_P_ahead_5 : decode b_P_ahead 5 = .ok (.astore_n 3, 1) := by decide +kernel
theorem d_P_ahead_6 : decode b_P_ahead 6 = .ok (.aload_n 0, 1) := by decide +kernel
theorem d_P_ahead_7 : decode b_P_ahead 7 = .ok (.iload_n 2, 1) := by decide +kernel
theorem d_P_ahead_8 : decode b_P_ahead 8 = .ok (.invokevirtual 34, 3) := by decide +kernel
theorem d_P_ahead_11 : decode b_P_ahead 11 = .ok (.astore 4, 2) := by decide +kernel
theorem d_P_ahead_13 : decode b_P_ahead 13 = .ok (.aload_n 3, 1) := by decide +kernel
theorem d_P_ahead_14 : decode b_P_ahead 14 = .ok (.ifnull 8, 3) := by decide +kernel
theorem d_P_ahead_17 : decode b_P_ahead 17 = .ok (.aload 4, 2) := by decide +kernel
theorem d_P_ahead_19 : decode b_P_ahead 19 = .ok (.ifnonnull 5, 3) := by decide +kernel
theorem d_P_ahead_22 : decode b_P_ahead 22 = .ok (.iconst 0, 1) := by decide +kernel
theorem d_P_ahead_23 : decode b_P_ahead 23 = .ok (.ireturn, 1) := by decide +kernel
theorem d_P_ahead_24 : decode b_P_ahead 24 = .ok (.aload_n 3, 1) := by decide +kernel
theorem d_P_ahead_25 : decode b_P_ahead 25 = .ok (.aload 4, 2) := by decide +kernel
theorem d_P_ahead_27 : decode b_P_ahead 27 = .ok (.invokestatic 91, 3) := by decide +kernel
theorem d_P_ahead_30 : decode b_P_ahead 30 = .ok (.ifCond .ne 7, 3) := by decide +kernel
theorem d_P_ahead_33 : decode b_P_ahead 33 = .ok (.iconst 1, 1) := by decide +kernel
theorem d_P_ahead_34 : decode b_P_ahead 34 = .ok (.goto 4, 3) := by decide +kernel
theorem d_P_ahead_37 : decode b_P_ahead 37 = .ok (.iconst 0, 1) := by decide +kernel
theorem d_P_ahead_38 : decode b_P_ahead 38 = .ok (.ireturn, 1) := by decide +kernel
theorem d_P_between_0 : decode b_P_between 0 = .ok (.aload_n 0, 1) := by decide +kernel
theorem d_P_between_1 : decode b_P_between 1 = .ok (.iload_n 1, 1) := by decide +kernel
theorem d_P_between_2 : decode b_P_between 2 = .ok (.invokevirtual 34, 3) := by decide +kernel
theorem d_P_between_5 : decode b_P_between 5 = .ok (.astore 4, 2) := by decide +kernel
theorem d_P_between_7 : decode b_P_between 7 = .ok (.aload_n 0, 1) := by decide +kernel
theorem d_P_between_8 : decode b_P_between 8 = .ok (.iload_n 2, 1) := by decide +kernel
theorem d_P_between_9 : decode b_P_between 9 = .ok (.invokevirtual 34, 3) := by decide +kernel
theorem d_P_between_12 : decode b_P_between 12 = .ok (.astore 5, 2) := by decide +kernel
theorem d_P_between_14 : decode b_P_between 14 = .ok (.aload 4, 2) := by decide +kernel
theorem d_P_between_16 : decode b_P_between 16 = .ok (.ifnull 17, 3) := by decide +kernel
theorem d_P_between_19 : decode b_P_between 19 = .ok (.aload 5, 2) := by decide +kernel
theorem d_P_between_21 : decode b_P_between 21 = .ok (.ifnull 12, 3) := by decide +kernel
theorem d_P_between_24 : decode b_P_between 24 = .ok (.iload_n 3, 1) := by decide +kernel
theorem d_P_between_25 : decode b_P_between 25 = .ok (.ifCond .lt 8, 3) := by decide +kernel
theorem d_P_between_28 : decode b_P_between 28 = .ok (.iload_n 3, 1) := by decide +kernel
theorem d_P_between_29 : decode b_P_between 29 = .ok (.iconst 2, 1) := by decide +kernel
theorem d_P_between_30 : decode b_P_between 30 = .ok (.if_icmp .le 5, 3) := by decide +kernel
theorem d_P_between_33 : decode b_P_between 33 = .ok (.iconst (-1), 1) := by decide +kernel
theorem d_P_between_34 : decode b_P_between 34 = .ok (.ireturn, 1) := by decide +kernel
theorem d_P_between_35 : decode b_P_between 35 = .ok (.iload_n 3, 1) := by decide +kernel
theorem d_P_between_36 : decode b_P_between 36 = .ok (.iconst 2, 1) := by decide +kernel
theorem d_P_between_37 : decode b_P_between 37 = .ok (.if_icmp .ne 31, 3) := by decide +kernel
theorem d_P_between_40 : decode b_P_between 40 = .ok (.aload 4, 2) := by decide +kernel
theorem d_P_between_42 : decode b_P_between 42 = .ok (.aload 5, 2) := by decide +kernel
theorem d_P_between_44 : decode b_P_between 44 = .ok (.invokestatic 91, 3) := by decide +kernel
theorem d_P_between_47 : decode b_P_between 47 = .ok (.istore 6, 2) := by decide +kernel
theorem d_P_between_49 : decode b_P_between 49 = .ok (.iload 6, 2) := by decide +kernel
theorem d_P_between_51 : decode b_P_between 51 = .ok (.iconst (-1), 1) := by decide +kernel
theorem d_P_between_52 : decode b_P_between 52 = .ok (.if_icmp .ne 13, 3) := by decide +kernel
theorem d_P_between_55 : decode b_P_between 55 = .ok (.new 95, 3) := by decide +kernel
theorem d_P_between_58 : decode b_P_between 58 = .ok (.dup, 1) := by decide +kernel
theorem d_P_between_59 : decode b_P_between 59 = .ok (.ldc 97, 2) := by decide +kernel
theorem d_P_between_61 : decode b_P_between 61 = .ok (.invokespecial 99, 3) := by decide +kernel
theorem d_P_between_64 : decode b_P_between 64 = .ok (.athrow, 1) := by decide +kernel
theorem d_P_between_65 : decode b_P_between 65 = .ok (.iload 6, 2) := by decide +kernel
theorem d_P_between_67 : decode b_P_between 67 = .ok (.ireturn, 1) := by decide +kernel
theorem d_P_between_68 : decode b_P_between 68 = .ok (.aload 4, 2) := by decide +kernel
theorem d_P_between_70 : decode b_P_between 70 = .ok (.aload 5, 2) := by decide +kernel
theorem d_P_between_72 : decode b_P_between 72 = .ok (.invokestatic 100, 3) := by decide +kernel
theorem d_P_between_75 : decode b_P_between 75 = .ok (.ifCond .eq 13, 3) := by decide +kernel
theorem d_P_between_78 : decode b_P_between 78 = .ok (.new 95, 3) := by decide +kernel
theorem d_P_between_81 : decode b_P_between 81 = .ok (.dup, 1) := by decide +kernel
theorem d_P_between_82 : decode b_P_between 82 = .ok (.ldc 103, 2) := by decide +kernel
theorem d_P_between_84 : decode b_P_between 84 = .ok (.invokespecial 99, 3) := by decide +kernel
theorem d_P_between_87 : decode b_P_between 87 = .ok (.athrow, 1) := by decide +kernel
theorem d_P_between_88 : decode b_P_between 88 = .ok (.iload_n 3, 1) := by decide +kernel
theorem d_P_between_89 : decode b_P_between 89 = .ok (.iconst 1, 1) := by decide +kernel
theorem d_P_between_90 : decode b_P_between 90 = .ok (.if_icmp .ne 13, 3) := by decide +kernel
theorem d_P_between_93 : decode b_P_between 93 = .ok (.aload 5, 2) := by decide +kernel
theorem d_P_between_95 : decode b_P_between 95 = .ok (.aload 4, 2) := by decide +kernel
theorem d_P_between_97 : decode b_P_between 97 = .ok (.invokestatic 105, 3) := by decide +kernel
theorem d_P_between_100 : decode b_P_between 100 = .ok (.goto 10, 3) := by decide +kernel
theorem d_P_between_103 : decode b_P_between 103 = .ok (.aload 4, 2) := by decide +kernel
theorem d_P_between_105 : decode b_P_between 105 = .ok (.aload 5, 2) := by decide +kernel
theorem d_P_between_107 : decode b_P_between 107 = .ok (.invokestatic 105, 3) := by decide +kernel
theorem d_P_between_110 : decode b_P_between 110 = .ok (.ireturn, 1) := by decide +kernel
theorem d_P_clear_0 : decode b_P_clear 0 = .ok (.iconst 0, 1) := by decide +kernel
theorem d_P_clear_1 : decode b_P_clear 1 = .ok (.istore_n 1, 1) := by decide +kernel
theorem d_P_clear_2 : decode b_P_clear 2 = .ok (.iload_n 1, 1) := by decide +kernel
theorem d_P_clear_3 : decode b_P_clear 3 = .ok (.aload_n 0, 1) := by decide +kernel
theorem d_P_clear_4 : decode b_P_clear 4 = .ok (.getfield 11, 3) := by decide +kernel
theorem d_P_clear_7 : decode b_P_clear 7 = .ok (.arraylength, 1) := by decide +kernel
theorem d_P_clear_8 : decode b_P_clear 8 = .ok (.if_icmp .ge 16, 3) := by decide +kernel
theorem d_P_clear_11 : decode b_P_clear 11 = .ok (.aload_n 0, 1) := by decide +kernel
theorem d_P_clear_12 : decode b_P_clear 12 = .ok (.getfield 11, 3) := by decide +kernel
theorem d_P_clear_15 : decode b_P_clear 15 = .ok (.iload_n 1, 1) := by decide +kernel
theorem d_P_clear_16 : decode b_P_clear 16 = .ok (.aconst_null, 1) := by decide +kernel
theorem d_P_clear_17 : decode b_P_clear 17 = .ok (.aastore, 1) := by decide +kernel
theorem d_P_clear_18 : decode b_P_clear 18 = .ok (.iinc 1 1, 3) := by decide +kernel
theorem d_P_clear_21 : decode b_P_clear 21 = .ok (.goto (-19), 3) := by decide +kernel
theorem d_P_clear_24 : decode b_P_clear 24 = .ok (.aload_n 0, 1) := by decide +kernel
theorem d_P_clear_25 : decode b_P_clear 25 = .ok (.iconst 0, 1) := by decide +kernel
theorem d_P_clear_26 : decode b_P_clear 26 = .ok (.putfield 15, 3) := by decide +kernel
theorem d_P_clear_29 : decode b_P_clear 29 = .ok (.return_, 1) := by decide +kernel
theorem d_P_total_0 : decode b_P_total 0 = .ok (.aload_n 0, 1) := by decide +kernel
theorem d_P_total_1 : decode b_P_total 1 = .ok (.getfield 15, 3) := by decide +kernel
theorem d_P_total_4 : decode b_P_total 4 = .ok (.ireturn, 1) := by decide +kernel
theorem d_P_find_0 : decode b_P_find 0 = .ok (.iload_n 1, 1) := by decide +kernel
theorem d_P_find_1 : decode b_P_find 1 = .ok (.ifCond .lt 20, 3) := by decide +kernel
theorem d_P_find_4 : decode b_P_find 4 = .ok (.iload_n 1, 1) := by decide +kernel
theorem d_P_find_5 : decode b_P_find 5 = .ok (.aload_n 0, 1) := by decide +kernel
theorem d_P_find_6 : decode b_P_find 6 = .ok (.getfield 15, 3) := by decide +kernel
theorem d_P_find_9 : decode b_P_find 9 = .ok (.if_icmp .ge 12, 3) := by decide +kernel
theorem d_P_find_12 : decode b_P_find 12 = .ok (.iload_n 1, 1) := by decide +kernel
theorem d_P_find_13 : decode b_P_find 13 = .ok (.aload_n 0, 1) := by decide +kernel
theorem d_P_find_14 : decode b_P_find 14 = .ok (.getfield 11, 3) := by decide +kernel
theorem d_P_find_17 : decode b_P_find 17 = .ok (.arraylength, 1) := by decide +kernel
theorem d_P_find_18 : decode b_P_find 18 = .ok (.if_icmp .lt 5, 3) := by decide +kernel
theorem d_P_find_21 : decode b_P_find 21 = .ok (.aconst_null, 1) := by decide +kernel
theorem d_P_find_22 : decode b_P_find 22 = .ok (.areturn, 1) := by decide +kernel
theorem d_P_find_23 : decode b_P_find 23 = .ok (.aload_n 0, 1) := by decide +kernel
theorem d_P_find_24 : decode b_P_find 24 = .ok (.getfield 11, 3) := by decide +kernel
theorem d_P_find_27 : decode b_P_find 27 = .ok (.iload_n 1, 1) := by decide +kernel
theorem d_P_find_28 : decode b_P_find 28 = .ok (.aaload, 1) := by decide +kernel
theorem d_P_find_29 : decode b_P_find 29 = .ok (.areturn, 1) := by decide +kernel
theorem d_P_keep_0 : decode b_P_keep 0 = .ok (.aload_n 1, 1) := by decide +kernel
theorem d_P_keep_1 : decode b_P_keep 1 = .ok (.ifnull 22, 3) := by decide +kernel
theorem d_P_keep_4 : decode b_P_keep 4 = .ok (.aload_n 0, 1) := by decide +kernel
theorem d_P_keep_5 : decode b_P_keep 5 = .ok (.getfield 15, 3) := by decide +kernel
theorem d_P_keep_8 : decode b_P_keep 8 = .ok (.ifCond .lt 15, 3) := by decide +kernel
theorem d_P_keep_11 : decode b_P_keep 11 = .ok (.aload_n 0, 1) := by decide +kernel
theorem d_P_keep_12 : decode b_P_keep 12 = .ok (.getfield 15, 3) := by decide +kernel
theorem d_P_keep_15 : decode b_P_keep 15 = .ok (.aload_n 0, 1) := by decide +kernel
theorem d_P_keep_16 : decode b_P_keep 16 = .ok (.getfield 11, 3) := by decide +kernel
theorem d_P_keep_19 : decode b_P_keep 19 = .ok (.arraylength, 1) := by decide +kernel
theorem d_P_keep_20 : decode b_P_keep 20 = .ok (.if_icmp .lt 5, 3) := by decide +kernel
theorem d_P_keep_23 : decode b_P_keep 23 = .ok (.iconst (-1), 1) := by decide +kernel
theorem d_P_keep_24 : decode b_P_keep 24 = .ok (.ireturn, 1) := by decide +kernel
theorem d_P_keep_25 : decode b_P_keep 25 = .ok (.aload_n 0, 1) := by decide +kernel
theorem d_P_keep_26 : decode b_P_keep 26 = .ok (.getfield 11, 3) := by decide +kernel
theorem d_P_keep_29 : decode b_P_keep 29 = .ok (.aload_n 0, 1) := by decide +kernel
theorem d_P_keep_30 : decode b_P_keep 30 = .ok (.getfield 15, 3) := by decide +kernel
theorem d_P_keep_33 : decode b_P_keep 33 = .ok (.aload_n 1, 1) := by decide +kernel
theorem d_P_keep_34 : decode b_P_keep 34 = .ok (.aastore, 1) := by decide +kernel
theorem d_P_keep_35 : decode b_P_keep 35 = .ok (.aload_n 0, 1) := by decide +kernel
theorem d_P_keep_36 : decode b_P_keep 36 = .ok (.dup, 1) := by decide +kernel
theorem d_P_keep_37 : decode b_P_keep 37 = .ok (.getfield 15, 3) := by decide +kernel
theorem d_P_keep_40 : decode b_P_keep 40 = .ok (.iconst 1, 1) := by decide +kernel
theorem d_P_keep_41 : decode b_P_keep 41 = .ok (.iadd, 1) := by decide +kernel
theorem d_P_keep_42 : decode b_P_keep 42 = .ok (.putfield 15, 3) := by decide +kernel
theorem d_P_keep_45 : decode b_P_keep 45 = .ok (.aload_n 0, 1) := by decide +kernel
theorem d_P_keep_46 : decode b_P_keep 46 = .ok (.getfield 15, 3) := by decide +kernel
theorem d_P_keep_49 : decode b_P_keep 49 = .ok (.iconst 1, 1) := by decide +kernel
theorem d_P_keep_50 : decode b_P_keep 50 = .ok (.isub, 1) := by decide +kernel
theorem d_P_keep_51 : decode b_P_keep 51 = .ok (.ireturn, 1) := by decide +kernel
theorem d_P_needsTwoWords_0 : decode b_P_needsTwoWords 0 = .ok (.iload_n 0, 1) := by decide +kernel
theorem d_P_needsTwoWords_1 : decode b_P_needsTwoWords 1 = .ok (.ifCond .eq 23, 3) := by decide +kernel
theorem d_P_needsTwoWords_4 : decode b_P_needsTwoWords 4 = .ok (.iload_n 0, 1) := by decide +kernel
theorem d_P_needsTwoWords_5 : decode b_P_needsTwoWords 5 = .ok (.iconst 1, 1) := by decide +kernel
theorem d_P_needsTwoWords_6 : decode b_P_needsTwoWords 6 = .ok (.if_icmp .eq 18, 3) := by decide +kernel
theorem d_P_needsTwoWords_9 : decode b_P_needsTwoWords 9 = .ok (.iload_n 0, 1) := by decide +kernel
theorem d_P_needsTwoWords_10 : decode b_P_needsTwoWords 10 = .ok (.iconst 2, 1) := by decide +kernel
theorem d_P_needsTwoWords_11 : decode b_P_needsTwoWords 11 = .ok (.if_icmp .eq 13, 3) := by decide +kernel
theorem d_P_needsTwoWords_14 : decode b_P_needsTwoWords 14 = .ok (.iload_n 0, 1) := by decide +kernel
theorem d_P_needsTwoWords_15 : decode b_P_needsTwoWords 15 = .ok (.iconst 4, 1) := by decide +kernel
theorem d_P_needsTwoWords_16 : decode b_P_needsTwoWords 16 = .ok (.if_icmp .eq 8, 3) := by decide +kernel
theorem d_P_needsTwoWords_19 : decode b_P_needsTwoWords 19 = .ok (.iload_n 0, 1) := by decide +kernel
theorem d_P_needsTwoWords_20 : decode b_P_needsTwoWords 20 = .ok (.iconst 5, 1) := by decide +kernel
theorem d_P_needsTwoWords_21 : decode b_P_needsTwoWords 21 = .ok (.if_icmp .ne 7, 3) := by decide +kernel
theorem d_P_needsTwoWords_24 : decode b_P_needsTwoWords 24 = .ok (.iconst 1, 1) := by decide +kernel
theorem d_P_needsTwoWords_25 : decode b_P_needsTwoWords 25 = .ok (.goto 4, 3) := by decide +kernel
theorem d_P_needsTwoWords_28 : decode b_P_needsTwoWords 28 = .ok (.iconst 0, 1) := by decide +kernel
theorem d_P_needsTwoWords_29 : decode b_P_needsTwoWords 29 = .ok (.ireturn, 1) := by decide +kernel
theorem d_P_alike_0 : decode b_P_alike 0 = .ok (.aload_n 0, 1) := by decide +kernel
theorem d_P_alike_1 : decode b_P_alike 1 = .ok (.ifnull 57, 3) := by decide +kernel
theorem d_P_alike_4 : decode b_P_alike 4 = .ok (.aload_n 1, 1) := by decide +kernel
theorem d_P_alike_5 : decode b_P_alike 5 = .ok (.ifnull 53, 3) := by decide +kernel
theorem d_P_alike_8 : decode b_P_alike 8 = .ok (.aload_n 0, 1) := by decide +kernel
theorem d_P_alike_9 : decode b_P_alike 9 = .ok (.getfield 52, 3) := by decide +kernel
theorem d_P_alike_12 : decode b_P_alike 12 = .ok (.aload_n 1, 1) := by decide +kernel
theorem d_P_alike_13 : decode b_P_alike 13 = .ok (.getfield 52, 3) := by decide +kernel
theorem d_P_alike_16 : decode b_P_alike 16 = .ok (.if_icmp .ne 42, 3) := by decide +kernel
theorem d_P_alike_19 : decode b_P_alike 19 = .ok (.aload_n 0, 1) := by decide +kernel
theorem d_P_alike_20 : decode b_P_alike 20 = .ok (.getfield 108, 3) := by decide +kernel
theorem d_P_alike_23 : decode b_P_alike 23 = .ok (.aload_n 1, 1) := by decide +kernel
theorem d_P_alike_24 : decode b_P_alike 24 = .ok (.getfield 108, 3) := by decide +kernel
theorem d_P_alike_27 : decode b_P_alike 27 = .ok (.lcmp, 1) := by decide +kernel
theorem d_P_alike_28 : decode b_P_alike 28 = .ok (.ifCond .ne 30, 3) := by decide +kernel
theorem d_P_alike_31 : decode b_P_alike 31 = .ok (.aload_n 0, 1) := by decide +kernel
theorem d_P_alike_32 : decode b_P_alike 32 = .ok (.getfield 55, 3) := by decide +kernel
theorem d_P_alike_35 : decode b_P_alike 35 = .ok (.aload_n 1, 1) := by decide +kernel
theorem d_P_alike_36 : decode b_P_alike 36 = .ok (.getfield 55, 3) := by decide +kernel
theorem d_P_alike_39 : decode b_P_alike 39 = .ok (.if_icmp .ne 19, 3) := by decide +kernel
theorem d_P_alike_42 : decode b_P_alike 42 = .ok (.aload_n 0, 1) := by decide +kernel
theorem d_P_alike_43 : decode b_P_alike 43 = .ok (.getfield 112, 3) := by decide +kernel
theorem d_P_alike_46 : decode b_P_alike 46 = .ok (.aload_n 1, 1) := by decide +kernel
theorem d_P_alike_47 : decode b_P_alike 47 = .ok (.getfield 112, 3) := by decide +kernel
theorem d_P_alike_50 : decode b_P_alike 50 = .ok (.lcmp, 1) := by decide +kernel
theorem d_P_alike_51 : decode b_P_alike 51 = .ok (.ifCond .ne 7, 3) := by decide +kernel
theorem d_P_alike_54 : decode b_P_alike 54 = .ok (.iconst 1, 1) := by decide +kernel
theorem d_P_alike_55 : decode b_P_alike 55 = .ok (.goto 4, 3) := by decide +kernel
theorem d_P_alike_58 : decode b_P_alike 58 = .ok (.iconst 0, 1) := by decide +kernel
