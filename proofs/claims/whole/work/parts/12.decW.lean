theorem d_W_init_0 : decode b_W_init 0 = .ok (.aload_n 0, 1) := by decide +kernel
theorem d_W_init_1 : decode b_W_init 1 = .ok (.invokespecial 3, 3) := by decide +kernel
theorem d_W_init_4 : decode b_W_init 4 = .ok (.aload_n 0, 1) := by decide +kernel
theorem d_W_init_5 : decode b_W_init 5 = .ok (.iload_n 1, 1) := by decide +kernel
theorem d_W_init_6 : decode b_W_init 6 = .ok (.putfield 9, 3) := by decide +kernel
theorem d_W_init_9 : decode b_W_init 9 = .ok (.aload_n 0, 1) := by decide +kernel
theorem d_W_init_10 : decode b_W_init 10 = .ok (.lload_n 2, 1) := by decide +kernel
theorem d_W_init_11 : decode b_W_init 11 = .ok (.iload_n 1, 1) := by decide +kernel
theorem d_W_init_12 : decode b_W_init 12 = .ok (.invokestatic 15, 3) := by decide +kernel
theorem d_W_init_15 : decode b_W_init 15 = .ok (.land, 1) := by decide +kernel
theorem d_W_init_16 : decode b_W_init 16 = .ok (.putfield 19, 3) := by decide +kernel
theorem d_W_init_19 : decode b_W_init 19 = .ok (.aload_n 0, 1) := by decide +kernel
theorem d_W_init_20 : decode b_W_init 20 = .ok (.iconst 1, 1) := by decide +kernel
theorem d_W_init_21 : decode b_W_init 21 = .ok (.iload 4, 2) := by decide +kernel
theorem d_W_init_23 : decode b_W_init 23 = .ok (.invokestatic 23, 3) := by decide +kernel
theorem d_W_init_26 : decode b_W_init 26 = .ok (.putfield 29, 3) := by decide +kernel
theorem d_W_init_29 : decode b_W_init 29 = .ok (.aload_n 0, 1) := by decide +kernel
theorem d_W_init_30 : decode b_W_init 30 = .ok (.lload 5, 2) := by decide +kernel
theorem d_W_init_32 : decode b_W_init 32 = .ok (.aload_n 0, 1) := by decide +kernel
theorem d_W_init_33 : decode b_W_init 33 = .ok (.getfield 29, 3) := by decide +kernel
theorem d_W_init_36 : decode b_W_init 36 = .ok (.invokestatic 15, 3) := by decide +kernel
theorem d_W_init_39 : decode b_W_init 39 = .ok (.land, 1) := by decide +kernel
theorem d_W_init_40 : decode b_W_init 40 = .ok (.putfield 32, 3) := by decide +kernel
theorem d_W_init_43 : decode b_W_init 43 = .ok (.aload_n 0, 1) := by decide +kernel
theorem d_W_init_44 : decode b_W_init 44 = .ok (.aload_n 0, 1) := by decide +kernel
theorem d_W_init_45 : decode b_W_init 45 = .ok (.getfield 19, 3) := by decide +kernel
theorem d_W_init_48 : decode b_W_init 48 = .ok (.invokestatic 35, 3) := by decide +kernel
theorem d_W_init_51 : decode b_W_init 51 = .ok (.putfield 41, 3) := by decide +kernel
theorem d_W_init_54 : decode b_W_init 54 = .ok (.aload_n 0, 1) := by decide +kernel
theorem d_W_init_55 : decode b_W_init 55 = .ok (.aload_n 0, 1) := by decide +kernel
theorem d_W_init_56 : decode b_W_init 56 = .ok (.getfield 32, 3) := by decide +kernel
theorem d_W_init_59 : decode b_W_init 59 = .ok (.invokestatic 35, 3) := by decide +kernel
theorem d_W_init_62 : decode b_W_init 62 = .ok (.putfield 44, 3) := by decide +kernel
theorem d_W_init_65 : decode b_W_init 65 = .ok (.aload_n 0, 1) := by decide +kernel
theorem d_W_init_66 : decode b_W_init 66 = .ok (.aload_n 0, 1) := by decide +kernel
theorem d_W_init_67 : decode b_W_init 67 = .ok (.getfield 19, 3) := by decide +kernel
theorem d_W_init_70 : decode b_W_init 70 = .ok (.aload_n 0, 1) := by decide +kernel
theorem d_W_init_71 : decode b_W_init 71 = .ok (.getfield 32, 3) := by decide +kernel
theorem d_W_init_74 : decode b_W_init 74 = .ok (.invokestatic 47, 3) := by decide +kernel
theorem d_W_init_77 : decode b_W_init 77 = .ok (.putfield 51, 3) := by decide +kernel
theorem d_W_init_80 : decode b_W_init 80 = .ok (.return_, 1) := by decide +kernel
theorem d_W_lowest_0 : decode b_W_lowest 0 = .ok (.lconst 1, 1) := by decide +kernel
theorem d_W_lowest_1 : decode b_W_lowest 1 = .ok (.iload_n 0, 1) := by decide +kernel
theorem d_W_lowest_2 : decode b_W_lowest 2 = .ok (.lshl, 1) := by decide +kernel
theorem d_W_lowest_3 : decode b_W_lowest 3 = .ok (.lconst 1, 1) := by decide +kernel
theorem d_W_lowest_4 : decode b_W_lowest 4 = .ok (.lsub, 1) := by decide +kernel
theorem d_W_lowest_5 : decode b_W_lowest 5 = .ok (.lreturn, 1) := by decide +kernel
theorem d_W_placesOf_0 : decode b_W_placesOf 0 = .ok (.lload_n 0, 1) := by decide +kernel
theorem d_W_placesOf_1 : decode b_W_placesOf 1 = .ok (.invokestatic 35, 3) := by decide +kernel
theorem d_W_placesOf_4 : decode b_W_placesOf 4 = .ok (.istore 4, 2) := by decide +kernel
theorem d_W_placesOf_6 : decode b_W_placesOf 6 = .ok (.iload 4, 2) := by decide +kernel
theorem d_W_placesOf_8 : decode b_W_placesOf 8 = .ok (.lload_n 2, 1) := by decide +kernel
theorem d_W_placesOf_9 : decode b_W_placesOf 9 = .ok (.invokestatic 35, 3) := by decide +kernel
theorem d_W_placesOf_12 : decode b_W_placesOf 12 = .ok (.iadd, 1) := by decide +kernel
theorem d_W_placesOf_13 : decode b_W_placesOf 13 = .ok (.newarray .int, 2) := by decide +kernel
theorem d_W_placesOf_15 : decode b_W_placesOf 15 = .ok (.astore 5, 2) := by decide +kernel
theorem d_W_placesOf_17 : decode b_W_placesOf 17 = .ok (.aload 5, 2) := by decide +kernel
theorem d_W_placesOf_19 : decode b_W_placesOf 19 = .ok (.iconst 0, 1) := by decide +kernel
theorem d_W_placesOf_20 : decode b_W_placesOf 20 = .ok (.lload_n 0, 1) := by decide +kernel
theorem d_W_placesOf_21 : decode b_W_placesOf 21 = .ok (.invokestatic 55, 3) := by decide +kernel
theorem d_W_placesOf_24 : decode b_W_placesOf 24 = .ok (.aload 5, 2) := by decide +kernel
theorem d_W_placesOf_26 : decode b_W_placesOf 26 = .ok (.iload 4, 2) := by decide +kernel
theorem d_W_placesOf_28 : decode b_W_placesOf 28 = .ok (.lload_n 2, 1) := by decide +kernel
theorem d_W_placesOf_29 : decode b_W_placesOf 29 = .ok (.invokestatic 55, 3) := by decide +kernel
theorem d_W_placesOf_32 : decode b_W_placesOf 32 = .ok (.aload 5, 2) := by decide +kernel
theorem d_W_placesOf_34 : decode b_W_placesOf 34 = .ok (.areturn, 1) := by decide +kernel
theorem d_W_writePlaces_0 : decode b_W_writePlaces 0 = .ok (.iload_n 1, 1) := by decide +kernel
theorem d_W_writePlaces_1 : decode b_W_writePlaces 1 = .ok (.istore 4, 2) := by decide +kernel
theorem d_W_writePlaces_3 : decode b_W_writePlaces 3 = .ok (.iconst 0, 1) := by decide +kernel
theorem d_W_writePlaces_4 : decode b_W_writePlaces 4 = .ok (.istore 5, 2) := by decide +kernel
theorem d_W_writePlaces_6 : decode b_W_writePlaces 6 = .ok (.iload 5, 2) := by decide +kernel
theorem d_W_writePlaces_8 : decode b_W_writePlaces 8 = .ok (.bipush 60, 2) := by decide +kernel
theorem d_W_writePlaces_10 : decode b_W_writePlaces 10 = .ok (.if_icmp .ge 36, 3) := by decide +kernel
theorem d_W_writePlaces_13 : decode b_W_writePlaces 13 = .ok (.lload_n 2, 1) := by decide +kernel
theorem d_W_writePlaces_14 : decode b_W_writePlaces 14 = .ok (.iload 5, 2) := by decide +kernel
theorem d_W_writePlaces_16 : decode b_W_writePlaces 16 = .ok (.lushr, 1) := by decide +kernel
theorem d_W_writePlaces_17 : decode b_W_writePlaces 17 = .ok (.lconst 1, 1) := by decide +kernel
theorem d_W_writePlaces_18 : decode b_W_writePlaces 18 = .ok (.land, 1) := by decide +kernel
theorem d_W_writePlaces_19 : decode b_W_writePlaces 19 = .ok (.lconst 1, 1) := by decide +kernel
theorem d_W_writePlaces_20 : decode b_W_writePlaces 20 = .ok (.lcmp, 1) := by decide +kernel
theorem d_W_writePlaces_21 : decode b_W_writePlaces 21 = .ok (.ifCond .ne 19, 3) := by decide +kernel
theorem d_W_writePlaces_24 : decode b_W_writePlaces 24 = .ok (.iload 4, 2) := by decide +kernel
theorem d_W_writePlaces_26 : decode b_W_writePlaces 26 = .ok (.aload_n 0, 1) := by decide +kernel
theorem d_W_writePlaces_27 : decode b_W_writePlaces 27 = .ok (.arraylength, 1) := by decide +kernel
theorem d_W_writePlaces_28 : decode b_W_writePlaces 28 = .ok (.if_icmp .ge 12, 3) := by decide +kernel
theorem d_W_writePlaces_31 : decode b_W_writePlaces 31 = .ok (.aload_n 0, 1) := by decide +kernel
theorem d_W_writePlaces_32 : decode b_W_writePlaces 32 = .ok (.iload 4, 2) := by decide +kernel
theorem d_W_writePlaces_34 : decode b_W_writePlaces 34 = .ok (.iload 5, 2) := by decide +kernel
theorem d_W_writePlaces_36 : decode b_W_writePlaces 36 = .ok (.iastore, 1) := by decide +kernel
theorem d_W_writePlaces_37 : decode b_W_writePlaces 37 = .ok (.iinc 4 1, 3) := by decide +kernel
theorem d_W_writePlaces_40 : decode b_W_writePlaces 40 = .ok (.iinc 5 1, 3) := by decide +kernel
theorem d_W_writePlaces_43 : decode b_W_writePlaces 43 = .ok (.goto (-37), 3) := by decide +kernel
theorem d_W_writePlaces_46 : decode b_W_writePlaces 46 = .ok (.return_, 1) := by decide +kernel
theorem d_W_bitAt_0 : decode b_W_bitAt 0 = .ok (.iload_n 1, 1) := by decide +kernel
theorem d_W_bitAt_1 : decode b_W_bitAt 1 = .ok (.aload_n 0, 1) := by decide +kernel
theorem d_W_bitAt_2 : decode b_W_bitAt 2 = .ok (.getfield 9, 3) := by decide +kernel
theorem d_W_bitAt_5 : decode b_W_bitAt 5 = .ok (.if_icmp .ge 13, 3) := by decide +kernel
theorem d_W_bitAt_8 : decode b_W_bitAt 8 = .ok (.aload_n 0, 1) := by decide +kernel
theorem d_W_bitAt_9 : decode b_W_bitAt 9 = .ok (.getfield 19, 3) := by decide +kernel
theorem d_W_bitAt_12 : decode b_W_bitAt 12 = .ok (.iload_n 1, 1) := by decide +kernel
theorem d_W_bitAt_13 : decode b_W_bitAt 13 = .ok (.lushr, 1) := by decide +kernel
theorem d_W_bitAt_14 : decode b_W_bitAt 14 = .ok (.l2i, 1) := by decide +kernel
theorem d_W_bitAt_15 : decode b_W_bitAt 15 = .ok (.iconst 1, 1) := by decide +kernel
theorem d_W_bitAt_16 : decode b_W_bitAt 16 = .ok (.iand, 1) := by decide +kernel
theorem d_W_bitAt_17 : decode b_W_bitAt 17 = .ok (.ireturn, 1) := by decide +kernel
theorem d_W_bitAt_18 : decode b_W_bitAt 18 = .ok (.aload_n 0, 1) := by decide +kernel
theorem d_W_bitAt_19 : decode b_W_bitAt 19 = .ok (.getfield 32, 3) := by decide +kernel
theorem d_W_bitAt_22 : decode b_W_bitAt 22 = .ok (.iload_n 1, 1) := by decide +kernel
theorem d_W_bitAt_23 : decode b_W_bitAt 23 = .ok (.aload_n 0, 1) := by decide +kernel
theorem d_W_bitAt_24 : decode b_W_bitAt 24 = .ok (.getfield 9, 3) := by decide +kernel
theorem d_W_bitAt_27 : decode b_W_bitAt 27 = .ok (.isub, 1) := by decide +kernel
theorem d_W_bitAt_28 : decode b_W_bitAt 28 = .ok (.aload_n 0, 1) := by decide +kernel
theorem d_W_bitAt_29 : decode b_W_bitAt 29 = .ok (.getfield 29, 3) := by decide +kernel
theorem d_W_bitAt_32 : decode b_W_bitAt 32 = .ok (.irem, 1) := by decide +kernel
theorem d_W_bitAt_33 : decode b_W_bitAt 33 = .ok (.lushr, 1) := by decide +kernel
theorem d_W_bitAt_34 : decode b_W_bitAt 34 = .ok (.l2i, 1) := by decide +kernel
theorem d_W_bitAt_35 : decode b_W_bitAt 35 = .ok (.iconst 1, 1) := by decide +kernel
theorem d_W_bitAt_36 : decode b_W_bitAt 36 = .ok (.iand, 1) := by decide +kernel
theorem d_W_bitAt_37 : decode b_W_bitAt 37 = .ok (.ireturn, 1) := by decide +kernel
theorem d_W_onesBefore_0 : decode b_W_onesBefore 0 = .ok (.iload_n 1, 1) := by decide +kernel
theorem d_W_onesBefore_1 : decode b_W_onesBefore 1 = .ok (.aload_n 0, 1) := by decide +kernel
theorem d_W_onesBefore_2 : decode b_W_onesBefore 2 = .ok (.getfield 9, 3) := by decide +kernel
theorem d_W_onesBefore_5 : decode b_W_onesBefore 5 = .ok (.if_icmp .gt 16, 3) := by decide +kernel
theorem d_W_onesBefore_8 : decode b_W_onesBefore 8 = .ok (.aload_n 0, 1) := by decide +kernel
theorem d_W_onesBefore_9 : decode b_W_onesBefore 9 = .ok (.getfield 19, 3) := by decide +kernel
theorem d_W_onesBefore_12 : decode b_W_onesBefore 12 = .ok (.iload_n 1, 1) := by decide +kernel
theorem d_W_onesBefore_13 : decode b_W_onesBefore 13 = .ok (.invokestatic 15, 3) := by decide +kernel
theorem d_W_onesBefore_16 : decode b_W_onesBefore 16 = .ok (.land, 1) := by decide +kernel
theorem d_W_onesBefore_17 : decode b_W_onesBefore 17 = .ok (.invokestatic 35, 3) := by decide +kernel
theorem d_W_onesBefore_20 : decode b_W_onesBefore 20 = .ok (.ireturn, 1) := by decide +kernel
theorem d_W_onesBefore_21 : decode b_W_onesBefore 21 = .ok (.iload_n 1, 1) := by decide +kernel
theorem d_W_onesBefore_22 : decode b_W_onesBefore 22 = .ok (.aload_n 0, 1) := by decide +kernel
theorem d_W_onesBefore_23 : decode b_W_onesBefore 23 = .ok (.getfield 9, 3) := by decide +kernel
theorem d_W_onesBefore_26 : decode b_W_onesBefore 26 = .ok (.isub, 1) := by decide +kernel
theorem d_W_onesBefore_27 : decode b_W_onesBefore 27 = .ok (.istore_n 2, 1) := by decide +kernel
theorem d_W_onesBefore_28 : decode b_W_onesBefore 28 = .ok (.aload_n 0, 1) := by decide +kernel
theorem d_W_onesBefore_29 : decode b_W_onesBefore 29 = .ok (.getfield 32, 3) := by decide +kernel
theorem d_W_onesBefore_32 : decode b_W_onesBefore 32 = .ok (.iload_n 2, 1) := by decide +kernel
theorem d_W_onesBefore_33 : decode b_W_onesBefore 33 = .ok (.aload_n 0, 1) := by decide +kernel
theorem d_W_onesBefore_34 : decode b_W_onesBefore 34 = .ok (.getfield 29, 3) := by decide +kernel
theorem d_W_onesBefore_37 : decode b_W_onesBefore 37 = .ok (.irem, 1) := by decide +kernel
theorem d_W_onesBefore_38 : decode b_W_onesBefore 38 = .ok (.invokestatic 15, 3) := by decide +kernel
theorem d_W_onesBefore_41 : decode b_W_onesBefore 41 = .ok (.land, 1) := by decide +kernel
theorem d_W_onesBefore_42 : decode b_W_onesBefore 42 = .ok (.invokestatic 35, 3) := by decide +kernel
theorem d_W_onesBefore_45 : decode b_W_onesBefore 45 = .ok (.istore_n 3, 1) := by decide +kernel
theorem d_W_onesBefore_46 : decode b_W_onesBefore 46 = .ok (.aload_n 0, 1) := by decide +kernel
theorem d_W_onesBefore_47 : decode b_W_onesBefore 47 = .ok (.getfield 41, 3) := by decide +kernel
theorem d_W_onesBefore_50 : decode b_W_onesBefore 50 = .ok (.iload_n 2, 1) := by decide +kernel
theorem d_W_onesBefore_51 : decode b_W_onesBefore 51 = .ok (.aload_n 0, 1) := by decide +kernel
theorem d_W_onesBefore_52 : decode b_W_onesBefore 52 = .ok (.getfield 29, 3) := by decide +kernel
theorem d_W_onesBefore_55 : decode b_W_onesBefore 55 = .ok (.idiv, 1) := by decide +kernel
theorem d_W_onesBefore_56 : decode b_W_onesBefore 56 = .ok (.aload_n 0, 1) := by decide +kernel
theorem d_W_onesBefore_57 : decode b_W_onesBefore 57 = .ok (.getfield 44, 3) := by decide +kernel
theorem d_W_onesBefore_60 : decode b_W_onesBefore 60 = .ok (.imul, 1) := by decide +kernel
theorem d_W_onesBefore_61 : decode b_W_onesBefore 61 = .ok (.iadd, 1) := by decide +kernel
theorem d_W_onesBefore_62 : decode b_W_onesBefore 62 = .ok (.iload_n 3, 1) := by decide +kernel
theorem d_W_onesBefore_63 : decode b_W_onesBefore 63 = .ok (.iadd, 1) := by decide +kernel
theorem d_W_onesBefore_64 : decode b_W_onesBefore 64 = .ok (.ireturn, 1) := by decide +kernel
theorem d_W_hasOne_0 : decode b_W_hasOne 0 = .ok (.aload_n 0, 1) := by decide +kernel
theorem d_W_hasOne_1 : decode b_W_hasOne 1 = .ok (.getfield 44, 3) := by decide +kernel
theorem d_W_hasOne_4 : decode b_W_hasOne 4 = .ok (.ifCond .gt 11, 3) := by decide +kernel
theorem d_W_hasOne_7 : decode b_W_hasOne 7 = .ok (.iload_n 1, 1) := by decide +kernel
theorem d_W_hasOne_8 : decode b_W_hasOne 8 = .ok (.aload_n 0, 1) := by decide +kernel
theorem d_W_hasOne_9 : decode b_W_hasOne 9 = .ok (.getfield 41, 3) := by decide +kernel
theorem d_W_hasOne_12 : decode b_W_hasOne 12 = .ok (.if_icmp .gt 7, 3) := by decide +kernel
theorem d_W_hasOne_15 : decode b_W_hasOne 15 = .ok (.iconst 1, 1) := by decide +kernel
theorem d_W_hasOne_16 : decode b_W_hasOne 16 = .ok (.goto 4, 3) := by decide +kernel
theorem d_W_hasOne_19 : decode b_W_hasOne 19 = .ok (.iconst 0, 1) := by decide +kernel
theorem d_W_hasOne_20 : decode b_W_hasOne 20 = .ok (.ireturn, 1) := by decide +kernel
theorem d_W_tickOf_0 : decode b_W_tickOf 0 = .ok (.iload_n 1, 1) := by decide +kernel
theorem d_W_tickOf_1 : decode b_W_tickOf 1 = .ok (.iconst 1, 1) := by decide +kernel
theorem d_W_tickOf_2 : decode b_W_tickOf 2 = .ok (.if_icmp .lt 11, 3) := by decide +kernel
theorem d_W_tickOf_5 : decode b_W_tickOf 5 = .ok (.aload_n 0, 1) := by decide +kernel
theorem d_W_tickOf_6 : decode b_W_tickOf 6 = .ok (.iload_n 1, 1) := by decide +kernel
theorem d_W_tickOf_7 : decode b_W_tickOf 7 = .ok (.invokevirtual 59, 3) := by decide +kernel
theorem d_W_tickOf_10 : decode b_W_tickOf 10 = .ok (.ifCond .ne 5, 3) := by decide +kernel
theorem d_W_tickOf_13 : decode b_W_tickOf 13 = .ok (.iconst (-1), 1) := by decide +kernel
theorem d_W_tickOf_14 : decode b_W_tickOf 14 = .ok (.ireturn, 1) := by decide +kernel
theorem d_W_tickOf_15 : decode b_W_tickOf 15 = .ok (.iload_n 1, 1) := by decide +kernel
theorem d_W_tickOf_16 : decode b_W_tickOf 16 = .ok (.aload_n 0, 1) := by decide +kernel
theorem d_W_tickOf_17 : decode b_W_tickOf 17 = .ok (.getfield 41, 3) := by decide +kernel
theorem d_W_tickOf_20 : decode b_W_tickOf 20 = .ok (.if_icmp .gt 12, 3) := by decide +kernel
theorem d_W_tickOf_23 : decode b_W_tickOf 23 = .ok (.aload_n 0, 1) := by decide +kernel
theorem d_W_tickOf_24 : decode b_W_tickOf 24 = .ok (.getfield 51, 3) := by decide +kernel
theorem d_W_tickOf_27 : decode b_W_tickOf 27 = .ok (.iload_n 1, 1) := by decide +kernel
theorem d_W_tickOf_28 : decode b_W_tickOf 28 = .ok (.iconst 1, 1) := by decide +kernel
theorem d_W_tickOf_29 : decode b_W_tickOf 29 = .ok (.isub, 1) := by decide +kernel
theorem d_W_tickOf_30 : decode b_W_tickOf 30 = .ok (.iaload, 1) := by decide +kernel
theorem d_W_tickOf_31 : decode b_W_tickOf 31 = .ok (.ireturn, 1) := by decide +kernel
theorem d_W_tickOf_32 : decode b_W_tickOf 32 = .ok (.iload_n 1, 1) := by decide +kernel
theorem d_W_tickOf_33 : decode b_W_tickOf 33 = .ok (.aload_n 0, 1) := by decide +kernel
theorem d_W_tickOf_34 : decode b_W_tickOf 34 = .ok (.getfield 41, 3) := by decide +kernel
theorem d_W_tickOf_37 : decode b_W_tickOf 37 = .ok (.isub, 1) := by decide +kernel
theorem d_W_tickOf_38 : decode b_W_tickOf 38 = .ok (.iconst 1, 1) := by decide +kernel
theorem d_W_tickOf_39 : decode b_W_tickOf 39 = .ok (.isub, 1) := by decide +kernel
theorem d_W_tickOf_40 : decode b_W_tickOf 40 = .ok (.istore_n 2, 1) := by decide +kernel
theorem d_W_tickOf_41 : decode b_W_tickOf 41 = .ok (.aload_n 0, 1) := by decide +kernel
theorem d_W_tickOf_42 : decode b_W_tickOf 42 = .ok (.getfield 9, 3) := by decide +kernel
theorem d_W_tickOf_45 : decode b_W_tickOf 45 = .ok (.iload_n 2, 1) := by decide +kernel
theorem d_W_tickOf_46 : decode b_W_tickOf 46 = .ok (.aload_n 0, 1) := by decide +kernel
theorem d_W_tickOf_47 : decode b_W_tickOf 47 = .ok (.getfield 44, 3) := by decide +kernel
theorem d_W_tickOf_50 : decode b_W_tickOf 50 = .ok (.idiv, 1) := by decide +kernel
theorem d_W_tickOf_51 : decode b_W_tickOf 51 = .ok (.aload_n 0, 1) := by decide +kernel
theorem d_W_tickOf_52 : decode b_W_tickOf 52 = .ok (.getfield 29, 3) := by decide +kernel
theorem d_W_tickOf_55 : decode b_W_tickOf 55 = .ok (.imul, 1) := by decide +kernel
theorem d_W_tickOf_56 : decode b_W_tickOf 56 = .ok (.iadd, 1) := by decide +kernel
theorem d_W_tickOf_57 : decode b_W_tickOf 57 = .ok (.aload_n 0, 1) := by decide +kernel
theorem d_W_tickOf_58 : decode b_W_tickOf 58 = .ok (.getfield 51, 3) := by decide +kernel
theorem d_W_tickOf_61 : decode b_W_tickOf 61 = .ok (.aload_n 0, 1) := by decide +kernel
theorem d_W_tickOf_62 : decode b_W_tickOf 62 = .ok (.getfield 41, 3) := by decide +kernel
theorem d_W_tickOf_65 : decode b_W_tickOf 65 = .ok (.iload_n 2, 1) := by decide +kernel
theorem d_W_tickOf_66 : decode b_W_tickOf 66 = .ok (.aload_n 0, 1) := by decide +kernel
theorem d_W_tickOf_67 : decode b_W_tickOf 67 = .ok (.getfield 44, 3) := by decide +kernel
theorem d_W_tickOf_70 : decode b_W_tickOf 70 = .ok (.irem, 1) := by decide +kernel
theorem d_W_tickOf_71 : decode b_W_tickOf 71 = .ok (.iadd, 1) := by decide +kernel
theorem d_W_tickOf_72 : decode b_W_tickOf 72 = .ok (.iaload, 1) := by decide +kernel
theorem d_W_tickOf_73 : decode b_W_tickOf 73 = .ok (.iadd, 1) := by decide +kernel
theorem d_W_tickOf_74 : decode b_W_tickOf 74 = .ok (.ireturn, 1) := by decide +kernel
theorem d_JI_compare_0 : decode b_JI_compare 0 = .ok (.iload_n 0, 1) := by decide +kernel
theorem d_JI_compare_1 : decode b_JI_compare 1 = .ok (.iload_n 1, 1) := by decide +kernel
theorem d_JI_compare_2 : decode b_JI_compare 2 = .ok (.if_icmp .ge 7, 3) := by decide +kernel
theorem d_JI_compare_5 : decode b_JI_compare 5 = .ok (.iconst (-1), 1) := by decide +kernel
theorem d_JI_compare_6 : decode b_JI_compare 6 = .ok (.goto 13, 3) := by decide +kernel
theorem d_JI_compare_9 : decode b_JI_compare 9 = .ok (.iload_n 0, 1) := by decide +kernel
theorem d_JI_compare_10 : decode b_JI_compare 10 = .ok (.iload_n 1, 1) := by decide +kernel
theorem d_JI_compare_11 : decode b_JI_compare 11 = .ok (.if_icmp .ne 7, 3) := by decide +kernel
theorem d_JI_compare_14 : decode b_JI_compare 14 = .ok (.iconst 0, 1) := by decide +kernel
theorem d_JI_compare_15 : decode b_JI_compare 15 = .ok (.goto 4, 3) := by decide +kernel
theorem d_JI_compare_18 : decode b_JI_compare 18 = .ok (.iconst 1, 1) := by decide +kernel
theorem d_JI_compare_19 : decode b_JI_compare 19 = .ok (.ireturn, 1) := by decide +kernel
theorem d_JL_bitCount_0 : decode b_JL_bitCount 0 = .ok (.lload_n 0, 1) := by decide +kernel
theorem d_JL_bitCount_1 : decode b_JL_bitCount 1 = .ok (.lload_n 0, 1) := by decide +kernel
theorem d_JL_bitCount_2 : decode b_JL_bitCount 2 = .ok (.iconst 1, 1) := by decide +kernel
theorem d_JL_bitCount_3 : decode b_JL_bitCount 3 = .ok (.lushr, 1) := by decide +kernel
theorem d_JL_bitCount_4 : decode b_JL_bitCount 4 = .ok (.ldc2_w 314, 3) := by decide +kernel
theorem d_JL_bitCount_7 : decode b_JL_bitCount 7 = .ok (.land, 1) := by decide +kernel
theorem d_JL_bitCount_8 : decode b_JL_bitCount 8 = .ok (.lsub, 1) := by decide +kernel
theorem d_JL_bitCount_9 : decode b_JL_bitCount 9 = .ok (.lstore_n 0, 1) := by decide +kernel
theorem d_JL_bitCount_10 : decode b_JL_bitCount 10 = .ok (.lload_n 0, 1) := by decide +kernel
theorem d_JL_bitCount_11 : decode b_JL_bitCount 11 = .ok (.ldc2_w 316, 3) := by decide +kernel
theorem d_JL_bitCount_14 : decode b_JL_bitCount 14 = .ok (.land, 1) := by decide +kernel
theorem d_JL_bitCount_15 : decode b_JL_bitCount 15 = .ok (.lload_n 0, 1) := by decide +kernel
theorem d_JL_bitCount_16 : decode b_JL_bitCount 16 = .ok (.iconst 2, 1) := by decide +kernel
theorem d_JL_bitCount_17 : decode b_JL_bitCount 17 = .ok (.lushr, 1) := by decide +kernel
theorem d_JL_bitCount_18 : decode b_JL_bitCount 18 = .ok (.ldc2_w 316, 3) := by decide +kernel
theorem d_JL_bitCount_21 : decode b_JL_bitCount 21 = .ok (.land, 1) := by decide +kernel
theorem d_JL_bitCount_22 : decode b_JL_bitCount 22 = .ok (.ladd, 1) := by decide +kernel
theorem d_JL_bitCount_23 : decode b_JL_bitCount 23 = .ok (.lstore_n 0, 1) := by decide +kernel
theorem d_JL_bitCount_24 : decode b_JL_bitCount 24 = .ok (.lload_n 0, 1) := by decide +kernel
theorem d_JL_bitCount_25 : decode b_JL_bitCount 25 = .ok (.lload_n 0, 1) := by decide +kernel
theorem d_JL_bitCount_26 : decode b_JL_bitCount 26 = .ok (.iconst 4, 1) := by decide +kernel
theorem d_JL_bitCount_27 : decode b_JL_bitCount 27 = .ok (.lushr, 1) := by decide +kernel
theorem d_JL_bitCount_28 : decode b_JL_bitCount 28 = .ok (.ladd, 1) := by decide +kernel
theorem d_JL_bitCount_29 : decode b_JL_bitCount 29 = .ok (.ldc2_w 318, 3) := by decide +kernel
theorem d_JL_bitCount_32 : decode b_JL_bitCount 32 = .ok (.land, 1) := by decide +kernel
theorem d_JL_bitCount_33 : decode b_JL_bitCount 33 = .ok (.lstore_n 0, 1) := by decide +kernel
theorem d_JL_bitCount_34 : decode b_JL_bitCount 34 = .ok (.lload_n 0, 1) := by decide +kernel
theorem d_JL_bitCount_35 : decode b_JL_bitCount 35 = .ok (.lload_n 0, 1) := by decide +kernel
theorem d_JL_bitCount_36 : decode b_JL_bitCount 36 = .ok (.bipush 8, 2) := by decide +kernel
theorem d_JL_bitCount_38 : decode b_JL_bitCount 38 = .ok (.lushr, 1) := by decide +kernel
theorem d_JL_bitCount_39 : decode b_JL_bitCount 39 = .ok (.ladd, 1) := by decide +kernel
theorem d_JL_bitCount_40 : decode b_JL_bitCount 40 = .ok (.lstore_n 0, 1) := by decide +kernel
theorem d_JL_bitCount_41 : decode b_JL_bitCount 41 = .ok (.lload_n 0, 1) := by decide +kernel
theorem d_JL_bitCount_42 : decode b_JL_bitCount 42 = .ok (.lload_n 0, 1) := by decide +kernel
theorem d_JL_bitCount_43 : decode b_JL_bitCount 43 = .ok (.bipush 16, 2) := by decide +kernel
theorem d_JL_bitCount_45 : decode b_JL_bitCount 45 = .ok (.lushr, 1) := by decide +kernel
theorem d_JL_bitCount_46 : decode b_JL_bitCount 46 = .ok (.ladd, 1) := by decide +kernel
theorem d_JL_bitCount_47 : decode b_JL_bitCount 47 = .ok (.lstore_n 0, 1) := by decide +kernel
theorem d_JL_bitCount_48 : decode b_JL_bitCount 48 = .ok (.lload_n 0, 1) := by decide +kernel
theorem d_JL_bitCount_49 : decode b_JL_bitCount 49 = .ok (.lload_n 0, 1) := by decide +kernel
theorem d_JL_bitCount_50 : decode b_JL_bitCount 50 = .ok (.bipush 32, 2) := by decide +kernel
theorem d_JL_bitCount_52 : decode b_JL_bitCount 52 = .ok (.lushr, 1) := by decide +kernel
theorem d_JL_bitCount_53 : decode b_JL_bitCount 53 = .ok (.ladd, 1) := by decide +kernel
theorem d_JL_bitCount_54 : decode b_JL_bitCount 54 = .ok (.lstore_n 0, 1) := by decide +kernel
theorem d_JL_bitCount_55 : decode b_JL_bitCount 55 = .ok (.lload_n 0, 1) := by decide +kernel
theorem d_JL_bitCount_56 : decode b_JL_bitCount 56 = .ok (.l2i, 1) := by decide +kernel
theorem d_JL_bitCount_57 : decode b_JL_bitCount 57 = .ok (.bipush 127, 2) := by decide +kernel
theorem d_JL_bitCount_59 : decode b_JL_bitCount 59 = .ok (.iand, 1) := by decide +kernel
theorem d_JL_bitCount_60 : decode b_JL_bitCount 60 = .ok (.ireturn, 1) := by decide +kernel
