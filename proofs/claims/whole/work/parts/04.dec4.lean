theorem dX0_numberAt_11 : decode bX0_numberAt 11 = .ok (.lload_n 3, 1) := by decide +kernel
theorem dX0_numberAt_12 : decode bX0_numberAt 12 = .ok (.bipush 8, 2) := by decide +kernel
theorem dX0_numberAt_14 : decode bX0_numberAt 14 = .ok (.lshl, 1) := by decide +kernel
theorem dX0_numberAt_15 : decode bX0_numberAt 15 = .ok (.aload_n 0, 1) := by decide +kernel
theorem dX0_numberAt_16 : decode bX0_numberAt 16 = .ok (.iload_n 1, 1) := by decide +kernel
theorem dX0_numberAt_17 : decode bX0_numberAt 17 = .ok (.iload 5, 2) := by decide +kernel
theorem dX0_numberAt_19 : decode bX0_numberAt 19 = .ok (.iadd, 1) := by decide +kernel
theorem dX0_numberAt_20 : decode bX0_numberAt 20 = .ok (.invokevirtual 23, 3) := by decide +kernel
theorem dX0_numberAt_23 : decode bX0_numberAt 23 = .ok (.i2l, 1) := by decide +kernel
theorem dX0_numberAt_24 : decode bX0_numberAt 24 = .ok (.lor, 1) := by decide +kernel
theorem dX0_numberAt_25 : decode bX0_numberAt 25 = .ok (.lstore_n 3, 1) := by decide +kernel
theorem dX0_numberAt_26 : decode bX0_numberAt 26 = .ok (.iinc 5 1, 3) := by decide +kernel
theorem dX0_numberAt_29 : decode bX0_numberAt 29 = .ok (.goto (-24), 3) := by decide +kernel
theorem dX0_numberAt_32 : decode bX0_numberAt 32 = .ok (.lload_n 3, 1) := by decide +kernel
theorem dX0_numberAt_33 : decode bX0_numberAt 33 = .ok (.lreturn, 1) := by decide +kernel
theorem dX0_sumOf_0 : decode bX0_sumOf 0 = .ok (.lconst 0, 1) := by decide +kernel
theorem dX0_sumOf_1 : decode bX0_sumOf 1 = .ok (.lstore_n 3, 1) := by decide +kernel
theorem dX0_sumOf_2 : decode bX0_sumOf 2 = .ok (.iload_n 1, 1) := by decide +kernel
theorem dX0_sumOf_3 : decode bX0_sumOf 3 = .ok (.istore 5, 2) := by decide +kernel
theorem dX0_sumOf_5 : decode bX0_sumOf 5 = .ok (.iload 5, 2) := by decide +kernel
theorem dX0_sumOf_7 : decode bX0_sumOf 7 = .ok (.iload_n 2, 1) := by decide +kernel
theorem dX0_sumOf_8 : decode bX0_sumOf 8 = .ok (.if_icmp .ge 21, 3) := by decide +kernel
theorem dX0_sumOf_11 : decode bX0_sumOf 11 = .ok (.lload_n 3, 1) := by decide +kernel
theorem dX0_sumOf_12 : decode bX0_sumOf 12 = .ok (.aload_n 0, 1) := by decide +kernel
theorem dX0_sumOf_13 : decode bX0_sumOf 13 = .ok (.iload 5, 2) := by decide +kernel
theorem dX0_sumOf_15 : decode bX0_sumOf 15 = .ok (.invokevirtual 23, 3) := by decide +kernel
theorem dX0_sumOf_18 : decode bX0_sumOf 18 = .ok (.i2l, 1) := by decide +kernel
theorem dX0_sumOf_19 : decode bX0_sumOf 19 = .ok (.invokestatic 27, 3) := by decide +kernel
theorem dX0_sumOf_22 : decode bX0_sumOf 22 = .ok (.lstore_n 3, 1) := by decide +kernel
theorem dX0_sumOf_23 : decode bX0_sumOf 23 = .ok (.iinc 5 1, 3) := by decide +kernel
theorem dX0_sumOf_26 : decode bX0_sumOf 26 = .ok (.goto (-21), 3) := by decide +kernel
theorem dX0_sumOf_29 : decode bX0_sumOf 29 = .ok (.lload_n 3, 1) := by decide +kernel
theorem dX0_sumOf_30 : decode bX0_sumOf 30 = .ok (.lreturn, 1) := by decide +kernel
theorem dX0_shorten_0 : decode bX0_shorten 0 = .ok (.iload_n 1, 1) := by decide +kernel
theorem dX0_shorten_1 : decode bX0_shorten 1 = .ok (.ifCond .lt 16, 3) := by decide +kernel
theorem dX0_shorten_4 : decode bX0_shorten 4 = .ok (.iload_n 1, 1) := by decide +kernel
theorem dX0_shorten_5 : decode bX0_shorten 5 = .ok (.aload_n 0, 1) := by decide +kernel
theorem dX0_shorten_6 : decode bX0_shorten 6 = .ok (.getfield 15, 3) := by decide +kernel
theorem dX0_shorten_9 : decode bX0_shorten 9 = .ok (.if_icmp .ge 8, 3) := by decide +kernel
theorem dX0_shorten_12 : decode bX0_shorten 12 = .ok (.aload_n 0, 1) := by decide +kernel
theorem dX0_shorten_13 : decode bX0_shorten 13 = .ok (.iload_n 1, 1) := by decide +kernel
theorem dX0_shorten_14 : decode bX0_shorten 14 = .ok (.putfield 15, 3) := by decide +kernel
theorem dX0_shorten_17 : decode bX0_shorten 17 = .ok (.return_, 1) := by decide +kernel
theorem dX0_dropAhead_0 : decode bX0_dropAhead 0 = .ok (.iload_n 1, 1) := by decide +kernel
theorem dX0_dropAhead_1 : decode bX0_dropAhead 1 = .ok (.ifCond .le 23, 3) := by decide +kernel
theorem dX0_dropAhead_4 : decode bX0_dropAhead 4 = .ok (.iload_n 1, 1) := by decide +kernel
theorem dX0_dropAhead_5 : decode bX0_dropAhead 5 = .ok (.aload_n 0, 1) := by decide +kernel
theorem dX0_dropAhead_6 : decode bX0_dropAhead 6 = .ok (.getfield 15, 3) := by decide +kernel
theorem dX0_dropAhead_9 : decode bX0_dropAhead 9 = .ok (.if_icmp .gt 15, 3) := by decide +kernel
theorem dX0_dropAhead_12 : decode bX0_dropAhead 12 = .ok (.aload_n 0, 1) := by decide +kernel
theorem dX0_dropAhead_13 : decode bX0_dropAhead 13 = .ok (.getfield 15, 3) := by decide +kernel
theorem dX0_dropAhead_16 : decode bX0_dropAhead 16 = .ok (.aload_n 0, 1) := by decide +kernel
theorem dX0_dropAhead_17 : decode bX0_dropAhead 17 = .ok (.getfield 9, 3) := by decide +kernel
theorem dX0_dropAhead_20 : decode bX0_dropAhead 20 = .ok (.arraylength, 1) := by decide +kernel
theorem dX0_dropAhead_21 : decode bX0_dropAhead 21 = .ok (.if_icmp .le 4, 3) := by decide +kernel
theorem dX0_dropAhead_24 : decode bX0_dropAhead 24 = .ok (.return_, 1) := by decide +kernel
theorem dX0_dropAhead_25 : decode bX0_dropAhead 25 = .ok (.aload_n 0, 1) := by decide +kernel
theorem dX0_dropAhead_26 : decode bX0_dropAhead 26 = .ok (.getfield 9, 3) := by decide +kernel
theorem dX0_dropAhead_29 : decode bX0_dropAhead 29 = .ok (.iload_n 1, 1) := by decide +kernel
theorem dX0_dropAhead_30 : decode bX0_dropAhead 30 = .ok (.aload_n 0, 1) := by decide +kernel
theorem dX0_dropAhead_31 : decode bX0_dropAhead 31 = .ok (.getfield 9, 3) := by decide +kernel
theorem dX0_dropAhead_34 : decode bX0_dropAhead 34 = .ok (.iconst 0, 1) := by decide +kernel
theorem dX0_dropAhead_35 : decode bX0_dropAhead 35 = .ok (.aload_n 0, 1) := by decide +kernel
theorem dX0_dropAhead_36 : decode bX0_dropAhead 36 = .ok (.getfield 15, 3) := by decide +kernel
theorem dX0_dropAhead_39 : decode bX0_dropAhead 39 = .ok (.iload_n 1, 1) := by decide +kernel
theorem dX0_dropAhead_40 : decode bX0_dropAhead 40 = .ok (.isub, 1) := by decide +kernel
theorem dX0_dropAhead_41 : decode bX0_dropAhead 41 = .ok (.invokestatic 31, 3) := by decide +kernel
theorem dX0_dropAhead_44 : decode bX0_dropAhead 44 = .ok (.aload_n 0, 1) := by decide +kernel
theorem dX0_dropAhead_45 : decode bX0_dropAhead 45 = .ok (.dup, 1) := by decide +kernel
theorem dX0_dropAhead_46 : decode bX0_dropAhead 46 = .ok (.getfield 15, 3) := by decide +kernel
theorem dX0_dropAhead_49 : decode bX0_dropAhead 49 = .ok (.iload_n 1, 1) := by decide +kernel
theorem dX0_dropAhead_50 : decode bX0_dropAhead 50 = .ok (.isub, 1) := by decide +kernel
theorem dX0_dropAhead_51 : decode bX0_dropAhead 51 = .ok (.putfield 15, 3) := by decide +kernel
theorem dX0_dropAhead_54 : decode bX0_dropAhead 54 = .ok (.return_, 1) := by decide +kernel
theorem dX1_init_0 : decode bX1_init 0 = .ok (.aload_n 0, 1) := by decide +kernel
theorem dX1_init_1 : decode bX1_init 1 = .ok (.invokespecial 3, 3) := by decide +kernel
theorem dX1_init_4 : decode bX1_init 4 = .ok (.aload_n 0, 1) := by decide +kernel
theorem dX1_init_5 : decode bX1_init 5 = .ok (.bipush 32, 2) := by decide +kernel
theorem dX1_init_7 : decode bX1_init 7 = .ok (.newarray .int, 2) := by decide +kernel
theorem dX1_init_9 : decode bX1_init 9 = .ok (.putfield 9, 3) := by decide +kernel
theorem dX1_init_12 : decode bX1_init 12 = .ok (.aload_n 0, 1) := by decide +kernel
theorem dX1_init_13 : decode bX1_init 13 = .ok (.bipush 32, 2) := by decide +kernel
theorem dX1_init_15 : decode bX1_init 15 = .ok (.newarray .int, 2) := by decide +kernel
theorem dX1_init_17 : decode bX1_init 17 = .ok (.putfield 15, 3) := by decide +kernel
theorem dX1_init_20 : decode bX1_init 20 = .ok (.aload_n 0, 1) := by decide +kernel
theorem dX1_init_21 : decode bX1_init 21 = .ok (.sipush 768, 3) := by decide +kernel
theorem dX1_init_24 : decode bX1_init 24 = .ok (.newarray .int, 2) := by decide +kernel
theorem dX1_init_26 : decode bX1_init 26 = .ok (.putfield 18, 3) := by decide +kernel
theorem dX1_init_29 : decode bX1_init 29 = .ok (.iconst 0, 1) := by decide +kernel
theorem dX1_init_30 : decode bX1_init 30 = .ok (.istore_n 1, 1) := by decide +kernel
theorem dX1_init_31 : decode bX1_init 31 = .ok (.iload_n 1, 1) := by decide +kernel
theorem dX1_init_32 : decode bX1_init 32 = .ok (.bipush 32, 2) := by decide +kernel
theorem dX1_init_34 : decode bX1_init 34 = .ok (.if_icmp .ge 23, 3) := by decide +kernel
theorem dX1_init_37 : decode bX1_init 37 = .ok (.aload_n 0, 1) := by decide +kernel
theorem dX1_init_38 : decode bX1_init 38 = .ok (.getfield 9, 3) := by decide +kernel
theorem dX1_init_41 : decode bX1_init 41 = .ok (.iload_n 1, 1) := by decide +kernel
theorem dX1_init_42 : decode bX1_init 42 = .ok (.iconst (-1), 1) := by decide +kernel
theorem dX1_init_43 : decode bX1_init 43 = .ok (.iastore, 1) := by decide +kernel
theorem dX1_init_44 : decode bX1_init 44 = .ok (.aload_n 0, 1) := by decide +kernel
theorem dX1_init_45 : decode bX1_init 45 = .ok (.getfield 15, 3) := by decide +kernel
theorem dX1_init_48 : decode bX1_init 48 = .ok (.iload_n 1, 1) := by decide +kernel
theorem dX1_init_49 : decode bX1_init 49 = .ok (.iconst (-1), 1) := by decide +kernel
theorem dX1_init_50 : decode bX1_init 50 = .ok (.iastore, 1) := by decide +kernel
theorem dX1_init_51 : decode bX1_init 51 = .ok (.iinc 1 1, 3) := by decide +kernel
theorem dX1_init_54 : decode bX1_init 54 = .ok (.goto (-23), 3) := by decide +kernel
theorem dX1_init_57 : decode bX1_init 57 = .ok (.return_, 1) := by decide +kernel
theorem dX1_dayOf_0 : decode bX1_dayOf 0 = .ok (.iload_n 1, 1) := by decide +kernel
theorem dX1_dayOf_1 : decode bX1_dayOf 1 = .ok (.ifCond .lt 18, 3) := by decide +kernel
theorem dX1_dayOf_4 : decode bX1_dayOf 4 = .ok (.iload_n 1, 1) := by decide +kernel
theorem dX1_dayOf_5 : decode bX1_dayOf 5 = .ok (.bipush 32, 2) := by decide +kernel
theorem dX1_dayOf_7 : decode bX1_dayOf 7 = .ok (.if_icmp .ge 12, 3) := by decide +kernel
theorem dX1_dayOf_10 : decode bX1_dayOf 10 = .ok (.aload_n 0, 1) := by decide +kernel
theorem dX1_dayOf_11 : decode bX1_dayOf 11 = .ok (.getfield 9, 3) := by decide +kernel
theorem dX1_dayOf_14 : decode bX1_dayOf 14 = .ok (.iload_n 1, 1) := by decide +kernel
theorem dX1_dayOf_15 : decode bX1_dayOf 15 = .ok (.iaload, 1) := by decide +kernel
theorem dX1_dayOf_16 : decode bX1_dayOf 16 = .ok (.goto 4, 3) := by decide +kernel
theorem dX1_dayOf_19 : decode bX1_dayOf 19 = .ok (.iconst (-1), 1) := by decide +kernel
theorem dX1_dayOf_20 : decode bX1_dayOf 20 = .ok (.ireturn, 1) := by decide +kernel
theorem dX1_countOf_0 : decode bX1_countOf 0 = .ok (.iload_n 1, 1) := by decide +kernel
theorem dX1_countOf_1 : decode bX1_countOf 1 = .ok (.ifCond .lt 18, 3) := by decide +kernel
theorem dX1_countOf_4 : decode bX1_countOf 4 = .ok (.iload_n 1, 1) := by decide +kernel
theorem dX1_countOf_5 : decode bX1_countOf 5 = .ok (.bipush 32, 2) := by decide +kernel
theorem dX1_countOf_7 : decode bX1_countOf 7 = .ok (.if_icmp .ge 12, 3) := by decide +kernel
theorem dX1_countOf_10 : decode bX1_countOf 10 = .ok (.aload_n 0, 1) := by decide +kernel
theorem dX1_countOf_11 : decode bX1_countOf 11 = .ok (.getfield 15, 3) := by decide +kernel
theorem dX1_countOf_14 : decode bX1_countOf 14 = .ok (.iload_n 1, 1) := by decide +kernel
theorem dX1_countOf_15 : decode bX1_countOf 15 = .ok (.iaload, 1) := by decide +kernel
theorem dX1_countOf_16 : decode bX1_countOf 16 = .ok (.goto 4, 3) := by decide +kernel
theorem dX1_countOf_19 : decode bX1_countOf 19 = .ok (.iconst (-1), 1) := by decide +kernel
theorem dX1_countOf_20 : decode bX1_countOf 20 = .ok (.ireturn, 1) := by decide +kernel
theorem dX1_byteOf_0 : decode bX1_byteOf 0 = .ok (.iload_n 1, 1) := by decide +kernel
theorem dX1_byteOf_1 : decode bX1_byteOf 1 = .ok (.ifCond .lt 19, 3) := by decide +kernel
theorem dX1_byteOf_4 : decode bX1_byteOf 4 = .ok (.iload_n 1, 1) := by decide +kernel
theorem dX1_byteOf_5 : decode bX1_byteOf 5 = .ok (.bipush 32, 2) := by decide +kernel
theorem dX1_byteOf_7 : decode bX1_byteOf 7 = .ok (.if_icmp .ge 13, 3) := by decide +kernel
theorem dX1_byteOf_10 : decode bX1_byteOf 10 = .ok (.iload_n 2, 1) := by decide +kernel
theorem dX1_byteOf_11 : decode bX1_byteOf 11 = .ok (.ifCond .lt 9, 3) := by decide +kernel
theorem dX1_byteOf_14 : decode bX1_byteOf 14 = .ok (.iload_n 2, 1) := by decide +kernel
theorem dX1_byteOf_15 : decode bX1_byteOf 15 = .ok (.bipush 24, 2) := by decide +kernel
theorem dX1_byteOf_17 : decode bX1_byteOf 17 = .ok (.if_icmp .lt 5, 3) := by decide +kernel
theorem dX1_byteOf_20 : decode bX1_byteOf 20 = .ok (.iconst 0, 1) := by decide +kernel
theorem dX1_byteOf_21 : decode bX1_byteOf 21 = .ok (.ireturn, 1) := by decide +kernel
theorem dX1_byteOf_22 : decode bX1_byteOf 22 = .ok (.aload_n 0, 1) := by decide +kernel
theorem dX1_byteOf_23 : decode bX1_byteOf 23 = .ok (.getfield 18, 3) := by decide +kernel
theorem dX1_byteOf_26 : decode bX1_byteOf 26 = .ok (.iload_n 1, 1) := by decide +kernel
theorem dX1_byteOf_27 : decode bX1_byteOf 27 = .ok (.bipush 24, 2) := by decide +kernel
theorem dX1_byteOf_29 : decode bX1_byteOf 29 = .ok (.imul, 1) := by decide +kernel
theorem dX1_byteOf_30 : decode bX1_byteOf 30 = .ok (.iload_n 2, 1) := by decide +kernel
theorem dX1_byteOf_31 : decode bX1_byteOf 31 = .ok (.iadd, 1) := by decide +kernel
theorem dX1_byteOf_32 : decode bX1_byteOf 32 = .ok (.iaload, 1) := by decide +kernel
theorem dX1_byteOf_33 : decode bX1_byteOf 33 = .ok (.ireturn, 1) := by decide +kernel
theorem dX1_keep_0 : decode bX1_keep 0 = .ok (.iload_n 1, 1) := by decide +kernel
theorem dX1_keep_1 : decode bX1_keep 1 = .ok (.ifCond .lt 21, 3) := by decide +kernel
theorem dX1_keep_4 : decode bX1_keep 4 = .ok (.iload_n 1, 1) := by decide +kernel
theorem dX1_keep_5 : decode bX1_keep 5 = .ok (.bipush 32, 2) := by decide +kernel
theorem dX1_keep_7 : decode bX1_keep 7 = .ok (.if_icmp .ge 15, 3) := by decide +kernel
theorem dX1_keep_10 : decode bX1_keep 10 = .ok (.iload 5, 2) := by decide +kernel
theorem dX1_keep_12 : decode bX1_keep 12 = .ok (.ifCond .lt 10, 3) := by decide +kernel
theorem dX1_keep_15 : decode bX1_keep 15 = .ok (.iload 5, 2) := by decide +kernel
theorem dX1_keep_17 : decode bX1_keep 17 = .ok (.bipush 24, 2) := by decide +kernel
theorem dX1_keep_19 : decode bX1_keep 19 = .ok (.if_icmp .le 4, 3) := by decide +kernel
theorem dX1_keep_22 : decode bX1_keep 22 = .ok (.return_, 1) := by decide +kernel
theorem dX1_keep_23 : decode bX1_keep 23 = .ok (.aload_n 0, 1) := by decide +kernel
theorem dX1_keep_24 : decode bX1_keep 24 = .ok (.getfield 9, 3) := by decide +kernel
theorem dX1_keep_27 : decode bX1_keep 27 = .ok (.iload_n 1, 1) := by decide +kernel
theorem dX1_keep_28 : decode bX1_keep 28 = .ok (.iload_n 2, 1) := by decide +kernel
theorem dX1_keep_29 : decode bX1_keep 29 = .ok (.iastore, 1) := by decide +kernel
theorem dX1_keep_30 : decode bX1_keep 30 = .ok (.aload_n 0, 1) := by decide +kernel
theorem dX1_keep_31 : decode bX1_keep 31 = .ok (.getfield 15, 3) := by decide +kernel
theorem dX1_keep_34 : decode bX1_keep 34 = .ok (.iload_n 1, 1) := by decide +kernel
theorem dX1_keep_35 : decode bX1_keep 35 = .ok (.iload 5, 2) := by decide +kernel
theorem dX1_keep_37 : decode bX1_keep 37 = .ok (.iastore, 1) := by decide +kernel
theorem dX1_keep_38 : decode bX1_keep 38 = .ok (.iconst 0, 1) := by decide +kernel
theorem dX1_keep_39 : decode bX1_keep 39 = .ok (.istore 6, 2) := by decide +kernel
theorem dX1_keep_41 : decode bX1_keep 41 = .ok (.iload 6, 2) := by decide +kernel
theorem dX1_keep_43 : decode bX1_keep 43 = .ok (.iload 5, 2) := by decide +kernel
theorem dX1_keep_45 : decode bX1_keep 45 = .ok (.if_icmp .ge 30, 3) := by decide +kernel
theorem dX1_keep_48 : decode bX1_keep 48 = .ok (.aload_n 0, 1) := by decide +kernel
theorem dX1_keep_49 : decode bX1_keep 49 = .ok (.getfield 18, 3) := by decide +kernel
theorem dX1_keep_52 : decode bX1_keep 52 = .ok (.iload_n 1, 1) := by decide +kernel
theorem dX1_keep_53 : decode bX1_keep 53 = .ok (.bipush 24, 2) := by decide +kernel
theorem dX1_keep_55 : decode bX1_keep 55 = .ok (.imul, 1) := by decide +kernel
theorem dX1_keep_56 : decode bX1_keep 56 = .ok (.iload 6, 2) := by decide +kernel
theorem dX1_keep_58 : decode bX1_keep 58 = .ok (.iadd, 1) := by decide +kernel
theorem dX1_keep_59 : decode bX1_keep 59 = .ok (.aload_n 3, 1) := by decide +kernel
theorem dX1_keep_60 : decode bX1_keep 60 = .ok (.iload 4, 2) := by decide +kernel
theorem dX1_keep_62 : decode bX1_keep 62 = .ok (.iload 6, 2) := by decide +kernel
theorem dX1_keep_64 : decode bX1_keep 64 = .ok (.iadd, 1) := by decide +kernel
theorem dX1_keep_65 : decode bX1_keep 65 = .ok (.invokevirtual 21, 3) := by decide +kernel
theorem dX1_keep_68 : decode bX1_keep 68 = .ok (.iastore, 1) := by decide +kernel
theorem dX1_keep_69 : decode bX1_keep 69 = .ok (.iinc 6 1, 3) := by decide +kernel
theorem dX1_keep_72 : decode bX1_keep 72 = .ok (.goto (-31), 3) := by decide +kernel
theorem dX1_keep_75 : decode bX1_keep 75 = .ok (.return_, 1) := by decide +kernel
theorem dX1_takeAll_0 : decode bX1_takeAll 0 = .ok (.aload_n 1, 1) := by decide +kernel
theorem dX1_takeAll_1 : decode bX1_takeAll 1 = .ok (.getfield 9, 3) := by decide +kernel
theorem dX1_takeAll_4 : decode bX1_takeAll 4 = .ok (.iconst 0, 1) := by decide +kernel
theorem dX1_takeAll_5 : decode bX1_takeAll 5 = .ok (.aload_n 0, 1) := by decide +kernel
theorem dX1_takeAll_6 : decode bX1_takeAll 6 = .ok (.getfield 9, 3) := by decide +kernel
theorem dX1_takeAll_9 : decode bX1_takeAll 9 = .ok (.iconst 0, 1) := by decide +kernel
theorem dX1_takeAll_10 : decode bX1_takeAll 10 = .ok (.bipush 32, 2) := by decide +kernel
theorem dX1_takeAll_12 : decode bX1_takeAll 12 = .ok (.invokestatic 27, 3) := by decide +kernel
theorem dX1_takeAll_15 : decode bX1_takeAll 15 = .ok (.aload_n 1, 1) := by decide +kernel
theorem dX1_takeAll_16 : decode bX1_takeAll 16 = .ok (.getfield 15, 3) := by decide +kernel
theorem dX1_takeAll_19 : decode bX1_takeAll 19 = .ok (.iconst 0, 1) := by decide +kernel
theorem dX1_takeAll_20 : decode bX1_takeAll 20 = .ok (.aload_n 0, 1) := by decide +kernel
theorem dX1_takeAll_21 : decode bX1_takeAll 21 = .ok (.getfield 15, 3) := by decide +kernel
theorem dX1_takeAll_24 : decode bX1_takeAll 24 = .ok (.iconst 0, 1) := by decide +kernel
theorem dX1_takeAll_25 : decode bX1_takeAll 25 = .ok (.bipush 32, 2) := by decide +kernel
theorem dX1_takeAll_27 : decode bX1_takeAll 27 = .ok (.invokestatic 27, 3) := by decide +kernel
theorem dX1_takeAll_30 : decode bX1_takeAll 30 = .ok (.aload_n 1, 1) := by decide +kernel
theorem dX1_takeAll_31 : decode bX1_takeAll 31 = .ok (.getfield 18, 3) := by decide +kernel
theorem dX1_takeAll_34 : decode bX1_takeAll 34 = .ok (.iconst 0, 1) := by decide +kernel
theorem dX1_takeAll_35 : decode bX1_takeAll 35 = .ok (.aload_n 0, 1) := by decide +kernel
theorem dX1_takeAll_36 : decode bX1_takeAll 36 = .ok (.getfield 18, 3) := by decide +kernel
theorem dX1_takeAll_39 : decode bX1_takeAll 39 = .ok (.iconst 0, 1) := by decide +kernel
theorem dX1_takeAll_40 : decode bX1_takeAll 40 = .ok (.sipush 768, 3) := by decide +kernel
theorem dX1_takeAll_43 : decode bX1_takeAll 43 = .ok (.invokestatic 27, 3) := by decide +kernel
theorem dX1_takeAll_46 : decode bX1_takeAll 46 = .ok (.return_, 1) := by decide +kernel
theorem dX1_takePart_0 : decode bX1_takePart 0 = .ok (.iload_n 2, 1) := by decide +kernel
theorem dX1_takePart_1 : decode bX1_takePart 1 = .ok (.ifCond .ge 4, 3) := by decide +kernel
theorem dX1_takePart_4 : decode bX1_takePart 4 = .ok (.return_, 1) := by decide +kernel
theorem dX1_takePart_5 : decode bX1_takePart 5 = .ok (.iload_n 2, 1) := by decide +kernel
theorem dX1_takePart_6 : decode bX1_takePart 6 = .ok (.istore_n 3, 1) := by decide +kernel
theorem dX1_takePart_7 : decode bX1_takePart 7 = .ok (.iload_n 3, 1) := by decide +kernel
theorem dX1_takePart_8 : decode bX1_takePart 8 = .ok (.bipush 32, 2) := by decide +kernel
theorem dX1_takePart_10 : decode bX1_takePart 10 = .ok (.if_icmp .ge 56, 3) := by decide +kernel
theorem dX1_takePart_13 : decode bX1_takePart 13 = .ok (.iload_n 3, 1) := by decide +kernel
theorem dX1_takePart_14 : decode bX1_takePart 14 = .ok (.bipush 24, 2) := by decide +kernel
theorem dX1_takePart_16 : decode bX1_takePart 16 = .ok (.imul, 1) := by decide +kernel
theorem dX1_takePart_17 : decode bX1_takePart 17 = .ok (.istore 4, 2) := by decide +kernel
theorem dX1_takePart_19 : decode bX1_takePart 19 = .ok (.aload_n 0, 1) := by decide +kernel
theorem dX1_takePart_20 : decode bX1_takePart 20 = .ok (.getfield 9, 3) := by decide +kernel
theorem dX1_takePart_23 : decode bX1_takePart 23 = .ok (.iload_n 3, 1) := by decide +kernel
theorem dX1_takePart_24 : decode bX1_takePart 24 = .ok (.aload_n 1, 1) := by decide +kernel
theorem dX1_takePart_25 : decode bX1_takePart 25 = .ok (.getfield 9, 3) := by decide +kernel
theorem dX1_takePart_28 : decode bX1_takePart 28 = .ok (.iload_n 3, 1) := by decide +kernel
theorem dX1_takePart_29 : decode bX1_takePart 29 = .ok (.iaload, 1) := by decide +kernel
theorem dX1_takePart_30 : decode bX1_takePart 30 = .ok (.iastore, 1) := by decide +kernel
theorem dX1_takePart_31 : decode bX1_takePart 31 = .ok (.aload_n 0, 1) := by decide +kernel
theorem dX1_takePart_32 : decode bX1_takePart 32 = .ok (.getfield 15, 3) := by decide +kernel
theorem dX1_takePart_35 : decode bX1_takePart 35 = .ok (.iload_n 3, 1) := by decide +kernel
theorem dX1_takePart_36 : decode bX1_takePart 36 = .ok (.aload_n 1, 1) := by decide +kernel
theorem dX1_takePart_37 : decode bX1_takePart 37 = .ok (.getfield 15, 3) := by decide +kernel
theorem dX1_takePart_40 : decode bX1_takePart 40 = .ok (.iload_n 3, 1) := by decide +kernel
theorem dX1_takePart_41 : decode bX1_takePart 41 = .ok (.iaload, 1) := by decide +kernel
theorem dX1_takePart_42 : decode bX1_takePart 42 = .ok (.iastore, 1) := by decide +kernel
theorem dX1_takePart_43 : decode bX1_takePart 43 = .ok (.aload_n 1, 1) := by decide +kernel
theorem dX1_takePart_44 : decode bX1_takePart 44 = .ok (.getfield 18, 3) := by decide +kernel
theorem dX1_takePart_47 : decode bX1_takePart 47 = .ok (.iload 4, 2) := by decide +kernel
theorem dX1_takePart_49 : decode bX1_takePart 49 = .ok (.aload_n 0, 1) := by decide +kernel
theorem dX1_takePart_50 : decode bX1_takePart 50 = .ok (.getfield 18, 3) := by decide +kernel
theorem dX1_takePart_53 : decode bX1_takePart 53 = .ok (.iload 4, 2) := by decide +kernel
theorem dX1_takePart_55 : decode bX1_takePart 55 = .ok (.bipush 24, 2) := by decide +kernel
theorem dX1_takePart_57 : decode bX1_takePart 57 = .ok (.invokestatic 27, 3) := by decide +kernel
theorem dX1_takePart_60 : decode bX1_takePart 60 = .ok (.iinc 3 4, 3) := by decide +kernel
theorem dX1_takePart_63 : decode bX1_takePart 63 = .ok (.goto (-56), 3) := by decide +kernel
theorem dX1_takePart_66 : decode bX1_takePart 66 = .ok (.return_, 1) := by decide +kernel
theorem dX2_init_0 : decode bX2_init 0 = .ok (.aload_n 0, 1) := by decide +kernel
theorem dX2_init_1 : decode bX2_init 1 = .ok (.invokespecial 3, 3) := by decide +kernel
theorem dX2_init_4 : decode bX2_init 4 = .ok (.aload_n 0, 1) := by decide +kernel
theorem dX2_init_5 : decode bX2_init 5 = .ok (.new 9, 3) := by decide +kernel
theorem dX2_init_8 : decode bX2_init 8 = .ok (.dup, 1) := by decide +kernel
theorem dX2_init_9 : decode bX2_init 9 = .ok (.invokespecial 11, 3) := by decide +kernel
theorem dX2_init_12 : decode bX2_init 12 = .ok (.putfield 12, 3) := by decide +kernel
theorem dX2_init_15 : decode bX2_init 15 = .ok (.aload_n 0, 1) := by decide +kernel
theorem dX2_init_16 : decode bX2_init 16 = .ok (.iconst 4, 1) := by decide +kernel
theorem dX2_init_17 : decode bX2_init 17 = .ok (.newarray .int, 2) := by decide +kernel
theorem dX2_init_19 : decode bX2_init 19 = .ok (.putfield 18, 3) := by decide +kernel
theorem dX2_init_22 : decode bX2_init 22 = .ok (.aload_n 0, 1) := by decide +kernel
theorem dX2_init_23 : decode bX2_init 23 = .ok (.iconst 1, 1) := by decide +kernel
theorem dX2_init_24 : decode bX2_init 24 = .ok (.putfield 22, 3) := by decide +kernel
theorem dX2_init_27 : decode bX2_init 27 = .ok (.return_, 1) := by decide +kernel
theorem dX2_hasInSnapshot_0 : decode bX2_hasInSnapshot 0 = .ok (.iload_n 1, 1) := by decide +kernel
theorem dX2_hasInSnapshot_1 : decode bX2_hasInSnapshot 1 = .ok (.ifCond .lt 19, 3) := by decide +kernel
theorem dX2_hasInSnapshot_4 : decode bX2_hasInSnapshot 4 = .ok (.iload_n 2, 1) := by decide +kernel
theorem dX2_hasInSnapshot_5 : decode bX2_hasInSnapshot 5 = .ok (.aload_n 0, 1) := by decide +kernel
theorem dX2_hasInSnapshot_6 : decode bX2_hasInSnapshot 6 = .ok (.getfield 18, 3) := by decide +kernel
theorem dX2_hasInSnapshot_9 : decode bX2_hasInSnapshot 9 = .ok (.iload_n 1, 1) := by decide +kernel
theorem dX2_hasInSnapshot_10 : decode bX2_hasInSnapshot 10 = .ok (.iconst 4, 1) := by decide +kernel
theorem dX2_hasInSnapshot_11 : decode bX2_hasInSnapshot 11 = .ok (.irem, 1) := by decide +kernel
theorem dX2_hasInSnapshot_12 : decode bX2_hasInSnapshot 12 = .ok (.iaload, 1) := by decide +kernel
theorem dX2_hasInSnapshot_13 : decode bX2_hasInSnapshot 13 = .ok (.if_icmp .ge 7, 3) := by decide +kernel
theorem dX2_hasInSnapshot_16 : decode bX2_hasInSnapshot 16 = .ok (.iconst 1, 1) := by decide +kernel
theorem dX2_hasInSnapshot_17 : decode bX2_hasInSnapshot 17 = .ok (.goto 4, 3) := by decide +kernel
theorem dX2_hasInSnapshot_20 : decode bX2_hasInSnapshot 20 = .ok (.iconst 0, 1) := by decide +kernel
theorem dX2_hasInSnapshot_21 : decode bX2_hasInSnapshot 21 = .ok (.ireturn, 1) := by decide +kernel
theorem dX2_greatestUpTo_0 : decode bX2_greatestUpTo 0 = .ok (.iconst 0, 1) := by decide +kernel
theorem dX2_greatestUpTo_1 : decode bX2_greatestUpTo 1 = .ok (.istore_n 1, 1) := by decide +kernel
theorem dX2_greatestUpTo_2 : decode bX2_greatestUpTo 2 = .ok (.iconst 0, 1) := by decide +kernel
theorem dX2_greatestUpTo_3 : decode bX2_greatestUpTo 3 = .ok (.istore_n 2, 1) := by decide +kernel
theorem dX2_greatestUpTo_4 : decode bX2_greatestUpTo 4 = .ok (.iload_n 2, 1) := by decide +kernel
theorem dX2_greatestUpTo_5 : decode bX2_greatestUpTo 5 = .ok (.iconst 4, 1) := by decide +kernel
theorem dX2_greatestUpTo_6 : decode bX2_greatestUpTo 6 = .ok (.if_icmp .ge 20, 3) := by decide +kernel
theorem dX2_greatestUpTo_9 : decode bX2_greatestUpTo 9 = .ok (.iload_n 1, 1) := by decide +kernel
theorem dX2_greatestUpTo_10 : decode bX2_greatestUpTo 10 = .ok (.aload_n 0, 1) := by decide +kernel
theorem dX2_greatestUpTo_11 : decode bX2_greatestUpTo 11 = .ok (.getfield 18, 3) := by decide +kernel
theorem dX2_greatestUpTo_14 : decode bX2_greatestUpTo 14 = .ok (.iload_n 2, 1) := by decide +kernel
theorem dX2_greatestUpTo_15 : decode bX2_greatestUpTo 15 = .ok (.iaload, 1) := by decide +kernel
theorem dX2_greatestUpTo_16 : decode bX2_greatestUpTo 16 = .ok (.invokestatic 26, 3) := by decide +kernel
theorem dX2_greatestUpTo_19 : decode bX2_greatestUpTo 19 = .ok (.istore_n 1, 1) := by decide +kernel
theorem dX2_greatestUpTo_20 : decode bX2_greatestUpTo 20 = .ok (.iinc 2 1, 3) := by decide +kernel
theorem dX2_greatestUpTo_23 : decode bX2_greatestUpTo 23 = .ok (.goto (-19), 3) := by decide +kernel
theorem dX2_greatestUpTo_26 : decode bX2_greatestUpTo 26 = .ok (.iload_n 1, 1) := by decide +kernel
theorem dX2_greatestUpTo_27 : decode bX2_greatestUpTo 27 = .ok (.ireturn, 1) := by decide +kernel
theorem dX2_follow_0 : decode bX2_follow 0 = .ok (.aload_n 0, 1) := by decide +kernel
theorem dX2_follow_1 : decode bX2_follow 1 = .ok (.aload_n 1, 1) := by decide +kernel
theorem dX2_follow_2 : decode bX2_follow 2 = .ok (.invokevirtual 32, 3) := by decide +kernel
theorem dX2_follow_5 : decode bX2_follow 5 = .ok (.aload_n 0, 1) := by decide +kernel
theorem dX2_follow_6 : decode bX2_follow 6 = .ok (.dup, 1) := by decide +kernel
theorem dX2_follow_7 : decode bX2_follow 7 = .ok (.getfield 36, 3) := by decide +kernel
theorem dX2_follow_10 : decode bX2_follow 10 = .ok (.iconst 1, 1) := by decide +kernel
theorem dX2_follow_11 : decode bX2_follow 11 = .ok (.iadd, 1) := by decide +kernel
theorem dX2_follow_12 : decode bX2_follow 12 = .ok (.putfield 36, 3) := by decide +kernel
theorem dX2_follow_15 : decode bX2_follow 15 = .ok (.return_, 1) := by decide +kernel
theorem dX2_copy_0 : decode bX2_copy 0 = .ok (.aload_n 0, 1) := by decide +kernel
theorem dX2_copy_1 : decode bX2_copy 1 = .ok (.aload_n 1, 1) := by decide +kernel
theorem dX2_copy_2 : decode bX2_copy 2 = .ok (.getfield 36, 3) := by decide +kernel
theorem dX2_copy_5 : decode bX2_copy 5 = .ok (.putfield 36, 3) := by decide +kernel
theorem dX2_copy_8 : decode bX2_copy 8 = .ok (.aload_n 0, 1) := by decide +kernel
theorem dX2_copy_9 : decode bX2_copy 9 = .ok (.aload_n 1, 1) := by decide +kernel
theorem dX2_copy_10 : decode bX2_copy 10 = .ok (.getfield 40, 3) := by decide +kernel
theorem dX2_copy_13 : decode bX2_copy 13 = .ok (.aload_n 1, 1) := by decide +kernel
theorem dX2_copy_14 : decode bX2_copy 14 = .ok (.getfield 43, 3) := by decide +kernel
theorem dX2_copy_17 : decode bX2_copy 17 = .ok (.aload_n 1, 1) := by decide +kernel
theorem dX2_copy_18 : decode bX2_copy 18 = .ok (.getfield 46, 3) := by decide +kernel
theorem dX2_copy_21 : decode bX2_copy 21 = .ok (.invokevirtual 50, 3) := by decide +kernel
theorem dX2_copy_24 : decode bX2_copy 24 = .ok (.aload_n 1, 1) := by decide +kernel
theorem dX2_copy_25 : decode bX2_copy 25 = .ok (.getfield 18, 3) := by decide +kernel
theorem dX2_copy_28 : decode bX2_copy 28 = .ok (.iconst 0, 1) := by decide +kernel
theorem dX2_copy_29 : decode bX2_copy 29 = .ok (.aload_n 0, 1) := by decide +kernel
theorem dX2_copy_30 : decode bX2_copy 30 = .ok (.getfield 18, 3) := by decide +kernel
theorem dX2_copy_33 : decode bX2_copy 33 = .ok (.iconst 0, 1) := by decide +kernel
theorem dX2_copy_34 : decode bX2_copy 34 = .ok (.iconst 4, 1) := by decide +kernel
theorem dX2_copy_35 : decode bX2_copy 35 = .ok (.invokestatic 54, 3) := by decide +kernel
theorem dX2_copy_38 : decode bX2_copy 38 = .ok (.aload_n 0, 1) := by decide +kernel
theorem dX2_copy_39 : decode bX2_copy 39 = .ok (.getfield 12, 3) := by decide +kernel
theorem dX2_copy_42 : decode bX2_copy 42 = .ok (.aload_n 1, 1) := by decide +kernel
theorem dX2_copy_43 : decode bX2_copy 43 = .ok (.getfield 12, 3) := by decide +kernel
theorem dX2_copy_46 : decode bX2_copy 46 = .ok (.invokevirtual 60, 3) := by decide +kernel
theorem dX2_copy_49 : decode bX2_copy 49 = .ok (.aload_n 0, 1) := by decide +kernel
theorem dX2_copy_50 : decode bX2_copy 50 = .ok (.aload_n 1, 1) := by decide +kernel
theorem dX2_copy_51 : decode bX2_copy 51 = .ok (.getfield 22, 3) := by decide +kernel
theorem dX2_copy_54 : decode bX2_copy 54 = .ok (.putfield 22, 3) := by decide +kernel
theorem dX2_copy_57 : decode bX2_copy 57 = .ok (.return_, 1) := by decide +kernel
theorem dX2_startFrom_0 : decode bX2_startFrom 0 = .ok (.aload_n 0, 1) := by decide +kernel
theorem dX2_startFrom_1 : decode bX2_startFrom 1 = .ok (.iload_n 1, 1) := by decide +kernel
theorem dX2_startFrom_2 : decode bX2_startFrom 2 = .ok (.putfield 40, 3) := by decide +kernel
theorem dX2_startFrom_5 : decode bX2_startFrom 5 = .ok (.aload_n 0, 1) := by decide +kernel
theorem dX2_startFrom_6 : decode bX2_startFrom 6 = .ok (.iload_n 2, 1) := by decide +kernel
theorem dX2_startFrom_7 : decode bX2_startFrom 7 = .ok (.putfield 43, 3) := by decide +kernel
theorem dX2_startFrom_10 : decode bX2_startFrom 10 = .ok (.aload_n 0, 1) := by decide +kernel
theorem dX2_startFrom_11 : decode bX2_startFrom 11 = .ok (.lload_n 3, 1) := by decide +kernel
theorem dX2_startFrom_12 : decode bX2_startFrom 12 = .ok (.putfield 46, 3) := by decide +kernel
theorem dX2_startFrom_15 : decode bX2_startFrom 15 = .ok (.return_, 1) := by decide +kernel
theorem dX2_takeSnapshot_0 : decode bX2_takeSnapshot 0 = .ok (.iload_n 1, 1) := by decide +kernel
theorem dX2_takeSnapshot_1 : decode bX2_takeSnapshot 1 = .ok (.ifCond .lt 8, 3) := by decide +kernel
theorem dX2_takeSnapshot_4 : decode bX2_takeSnapshot 4 = .ok (.iload_n 1, 1) := by decide +kernel
theorem dX2_takeSnapshot_5 : decode bX2_takeSnapshot 5 = .ok (.iconst 4, 1) := by decide +kernel
theorem dX2_takeSnapshot_6 : decode bX2_takeSnapshot 6 = .ok (.if_icmp .lt 4, 3) := by decide +kernel
theorem dX2_takeSnapshot_9 : decode bX2_takeSnapshot 9 = .ok (.return_, 1) := by decide +kernel
theorem dX2_takeSnapshot_10 : decode bX2_takeSnapshot 10 = .ok (.aload_n 0, 1) := by decide +kernel
theorem dX2_takeSnapshot_11 : decode bX2_takeSnapshot 11 = .ok (.getfield 12, 3) := by decide +kernel
theorem dX2_takeSnapshot_14 : decode bX2_takeSnapshot 14 = .ok (.aload_n 2, 1) := by decide +kernel
theorem dX2_takeSnapshot_15 : decode bX2_takeSnapshot 15 = .ok (.iload_n 1, 1) := by decide +kernel
theorem dX2_takeSnapshot_16 : decode bX2_takeSnapshot 16 = .ok (.invokevirtual 64, 3) := by decide +kernel
theorem dX2_takeSnapshot_19 : decode bX2_takeSnapshot 19 = .ok (.aload_n 0, 1) := by decide +kernel
theorem dX2_takeSnapshot_20 : decode bX2_takeSnapshot 20 = .ok (.getfield 18, 3) := by decide +kernel
theorem dX2_takeSnapshot_23 : decode bX2_takeSnapshot 23 = .ok (.iload_n 1, 1) := by decide +kernel
theorem dX2_takeSnapshot_24 : decode bX2_takeSnapshot 24 = .ok (.iload_n 3, 1) := by decide +kernel
theorem dX2_takeSnapshot_25 : decode bX2_takeSnapshot 25 = .ok (.iastore, 1) := by decide +kernel
theorem dX2_takeSnapshot_26 : decode bX2_takeSnapshot 26 = .ok (.return_, 1) := by decide +kernel
theorem dX3_init_0 : decode bX3_init 0 = .ok (.aload_n 0, 1) := by decide +kernel
theorem dX3_init_1 : decode bX3_init 1 = .ok (.invokespecial 3, 3) := by decide +kernel
theorem dX3_init_4 : decode bX3_init 4 = .ok (.return_, 1) := by decide +kernel
theorem dX3_isWholeAt_0 : decode bX3_isWholeAt 0 = .ok (.aload_n 1, 1) := by decide +kernel
theorem dX3_isWholeAt_1 : decode bX3_isWholeAt 1 = .ok (.invokevirtual 9, 3) := by decide +kernel
theorem dX3_isWholeAt_4 : decode bX3_isWholeAt 4 = .ok (.iload_n 2, 1) := by decide +kernel
theorem dX3_isWholeAt_5 : decode bX3_isWholeAt 5 = .ok (.isub, 1) := by decide +kernel
theorem dX3_isWholeAt_6 : decode bX3_isWholeAt 6 = .ok (.istore_n 3, 1) := by decide +kernel
theorem dX3_isWholeAt_7 : decode bX3_isWholeAt 7 = .ok (.iload_n 2, 1) := by decide +kernel
theorem dX3_isWholeAt_8 : decode bX3_isWholeAt 8 = .ok (.ifCond .lt 9, 3) := by decide +kernel
theorem dX3_isWholeAt_11 : decode bX3_isWholeAt 11 = .ok (.iload_n 3, 1) := by decide +kernel
theorem dX3_isWholeAt_12 : decode bX3_isWholeAt 12 = .ok (.bipush 14, 2) := by decide +kernel
theorem dX3_isWholeAt_14 : decode bX3_isWholeAt 14 = .ok (.if_icmp .ge 5, 3) := by decide +kernel
theorem dX3_isWholeAt_17 : decode bX3_isWholeAt 17 = .ok (.iconst 0, 1) := by decide +kernel
theorem dX3_isWholeAt_18 : decode bX3_isWholeAt 18 = .ok (.ireturn, 1) := by decide +kernel
theorem dX3_isWholeAt_19 : decode bX3_isWholeAt 19 = .ok (.aload_n 1, 1) := by decide +kernel
theorem dX3_isWholeAt_20 : decode bX3_isWholeAt 20 = .ok (.iload_n 2, 1) := by decide +kernel
theorem dX3_isWholeAt_21 : decode bX3_isWholeAt 21 = .ok (.iconst 1, 1) := by decide +kernel
theorem dX3_isWholeAt_22 : decode bX3_isWholeAt 22 = .ok (.iadd, 1) := by decide +kernel
theorem dX3_isWholeAt_23 : decode bX3_isWholeAt 23 = .ok (.iconst 4, 1) := by decide +kernel
theorem dX3_isWholeAt_24 : decode bX3_isWholeAt 24 = .ok (.invokevirtual 15, 3) := by decide +kernel
theorem dX3_isWholeAt_27 : decode bX3_isWholeAt 27 = .ok (.lstore 4, 2) := by decide +kernel
theorem dX3_isWholeAt_29 : decode bX3_isWholeAt 29 = .ok (.aload_n 0, 1) := by decide +kernel
theorem dX3_isWholeAt_30 : decode bX3_isWholeAt 30 = .ok (.aload_n 1, 1) := by decide +kernel
theorem dX3_isWholeAt_31 : decode bX3_isWholeAt 31 = .ok (.iload_n 2, 1) := by decide +kernel
theorem dX3_isWholeAt_32 : decode bX3_isWholeAt 32 = .ok (.invokevirtual 19, 3) := by decide +kernel
theorem dX3_isWholeAt_35 : decode bX3_isWholeAt 35 = .ok (.putfield 23, 3) := by decide +kernel
theorem dX3_isWholeAt_38 : decode bX3_isWholeAt 38 = .ok (.aload_n 0, 1) := by decide +kernel
theorem dX3_isWholeAt_39 : decode bX3_isWholeAt 39 = .ok (.aload_n 1, 1) := by decide +kernel
theorem dX3_isWholeAt_40 : decode bX3_isWholeAt 40 = .ok (.iload_n 2, 1) := by decide +kernel
theorem dX3_isWholeAt_41 : decode bX3_isWholeAt 41 = .ok (.bipush 6, 2) := by decide +kernel
theorem dX3_isWholeAt_43 : decode bX3_isWholeAt 43 = .ok (.iadd, 1) := by decide +kernel
theorem dX3_isWholeAt_44 : decode bX3_isWholeAt 44 = .ok (.iconst 1, 1) := by decide +kernel
theorem dX3_isWholeAt_45 : decode bX3_isWholeAt 45 = .ok (.isub, 1) := by decide +kernel
theorem dX3_isWholeAt_46 : decode bX3_isWholeAt 46 = .ok (.invokevirtual 19, 3) := by decide +kernel
theorem dX3_isWholeAt_49 : decode bX3_isWholeAt 49 = .ok (.putfield 29, 3) := by decide +kernel
theorem dX3_isWholeAt_52 : decode bX3_isWholeAt 52 = .ok (.aload_n 0, 1) := by decide +kernel
theorem dX3_isWholeAt_53 : decode bX3_isWholeAt 53 = .ok (.getfield 23, 3) := by decide +kernel
theorem dX3_isWholeAt_56 : decode bX3_isWholeAt 56 = .ok (.bipush 32, 2) := by decide +kernel
theorem dX3_isWholeAt_58 : decode bX3_isWholeAt 58 = .ok (.if_icmp .ge 29, 3) := by decide +kernel
theorem dX3_isWholeAt_61 : decode bX3_isWholeAt 61 = .ok (.lload 4, 2) := by decide +kernel
theorem dX3_isWholeAt_63 : decode bX3_isWholeAt 63 = .ok (.ldc2_w 32, 3) := by decide +kernel
theorem dX3_isWholeAt_66 : decode bX3_isWholeAt 66 = .ok (.lcmp, 1) := by decide +kernel
theorem dX3_isWholeAt_67 : decode bX3_isWholeAt 67 = .ok (.ifCond .gt 20, 3) := by decide +kernel
theorem dX3_isWholeAt_70 : decode bX3_isWholeAt 70 = .ok (.aload_n 0, 1) := by decide +kernel
theorem dX3_isWholeAt_71 : decode bX3_isWholeAt 71 = .ok (.getfield 29, 3) := by decide +kernel
theorem dX3_isWholeAt_74 : decode bX3_isWholeAt 74 = .ok (.bipush 24, 2) := by decide +kernel
theorem dX3_isWholeAt_76 : decode bX3_isWholeAt 76 = .ok (.if_icmp .gt 11, 3) := by decide +kernel
theorem dX3_isWholeAt_79 : decode bX3_isWholeAt 79 = .ok (.iload_n 3, 1) := by decide +kernel
theorem dX3_isWholeAt_80 : decode bX3_isWholeAt 80 = .ok (.aload_n 0, 1) := by decide +kernel
theorem dX3_isWholeAt_81 : decode bX3_isWholeAt 81 = .ok (.invokevirtual 34, 3) := by decide +kernel
theorem dX3_isWholeAt_84 : decode bX3_isWholeAt 84 = .ok (.if_icmp .ge 5, 3) := by decide +kernel
theorem dX3_isWholeAt_87 : decode bX3_isWholeAt 87 = .ok (.iconst 0, 1) := by decide +kernel
theorem dX3_isWholeAt_88 : decode bX3_isWholeAt 88 = .ok (.ireturn, 1) := by decide +kernel
theorem dX3_isWholeAt_89 : decode bX3_isWholeAt 89 = .ok (.aload_n 0, 1) := by decide +kernel
theorem dX3_isWholeAt_90 : decode bX3_isWholeAt 90 = .ok (.lload 4, 2) := by decide +kernel
theorem dX3_isWholeAt_92 : decode bX3_isWholeAt 92 = .ok (.l2i, 1) := by decide +kernel
theorem dX3_isWholeAt_93 : decode bX3_isWholeAt 93 = .ok (.putfield 37, 3) := by decide +kernel
theorem dX3_isWholeAt_96 : decode bX3_isWholeAt 96 = .ok (.iload_n 2, 1) := by decide +kernel
theorem dX3_isWholeAt_97 : decode bX3_isWholeAt 97 = .ok (.bipush 6, 2) := by decide +kernel
theorem dX3_isWholeAt_99 : decode bX3_isWholeAt 99 = .ok (.iadd, 1) := by decide +kernel
theorem dX3_isWholeAt_100 : decode bX3_isWholeAt 100 = .ok (.aload_n 0, 1) := by decide +kernel
theorem dX3_isWholeAt_101 : decode bX3_isWholeAt 101 = .ok (.getfield 29, 3) := by decide +kernel
theorem dX3_isWholeAt_104 : decode bX3_isWholeAt 104 = .ok (.iadd, 1) := by decide +kernel
theorem dX3_isWholeAt_105 : decode bX3_isWholeAt 105 = .ok (.istore 6, 2) := by decide +kernel
theorem dX3_isWholeAt_107 : decode bX3_isWholeAt 107 = .ok (.aload_n 0, 1) := by decide +kernel
theorem dX3_isWholeAt_108 : decode bX3_isWholeAt 108 = .ok (.aload_n 1, 1) := by decide +kernel
theorem dX3_isWholeAt_109 : decode bX3_isWholeAt 109 = .ok (.iload 6, 2) := by decide +kernel
theorem dX3_isWholeAt_111 : decode bX3_isWholeAt 111 = .ok (.bipush 8, 2) := by decide +kernel
theorem dX3_isWholeAt_113 : decode bX3_isWholeAt 113 = .ok (.invokevirtual 15, 3) := by decide +kernel
theorem dX3_isWholeAt_116 : decode bX3_isWholeAt 116 = .ok (.putfield 40, 3) := by decide +kernel
theorem dX3_isWholeAt_119 : decode bX3_isWholeAt 119 = .ok (.aload_n 0, 1) := by decide +kernel
theorem dX3_isWholeAt_120 : decode bX3_isWholeAt 120 = .ok (.getfield 40, 3) := by decide +kernel
theorem dX3_isWholeAt_123 : decode bX3_isWholeAt 123 = .ok (.aload_n 1, 1) := by decide +kernel
theorem dX3_isWholeAt_124 : decode bX3_isWholeAt 124 = .ok (.iload_n 2, 1) := by decide +kernel
theorem dX3_isWholeAt_125 : decode bX3_isWholeAt 125 = .ok (.iload 6, 2) := by decide +kernel
theorem dX3_isWholeAt_127 : decode bX3_isWholeAt 127 = .ok (.invokevirtual 44, 3) := by decide +kernel
theorem dX3_isWholeAt_130 : decode bX3_isWholeAt 130 = .ok (.lcmp, 1) := by decide +kernel
theorem dX3_isWholeAt_131 : decode bX3_isWholeAt 131 = .ok (.ifCond .ne 7, 3) := by decide +kernel
theorem dX3_isWholeAt_134 : decode bX3_isWholeAt 134 = .ok (.iconst 1, 1) := by decide +kernel
theorem dX3_isWholeAt_135 : decode bX3_isWholeAt 135 = .ok (.goto 4, 3) := by decide +kernel
theorem dX3_isWholeAt_138 : decode bX3_isWholeAt 138 = .ok (.iconst 0, 1) := by decide +kernel
theorem dX3_isWholeAt_139 : decode bX3_isWholeAt 139 = .ok (.ireturn, 1) := by decide +kernel
theorem dX3_length_0 : decode bX3_length 0 = .ok (.bipush 14, 2) := by decide +kernel
theorem dX3_length_2 : decode bX3_length 2 = .ok (.aload_n 0, 1) := by decide +kernel
theorem dX3_length_3 : decode bX3_length 3 = .ok (.getfield 29, 3) := by decide +kernel
theorem dX3_length_6 : decode bX3_length 6 = .ok (.iadd, 1) := by decide +kernel
theorem dX3_length_7 : decode bX3_length 7 = .ok (.ireturn, 1) := by decide +kernel
theorem dL_feed_0 : decode bL_feed 0 = .ok (.aload_n 2, 1) := by decide +kernel
theorem dL_feed_1 : decode bL_feed 1 = .ok (.iconst 0, 1) := by decide +kernel
theorem dL_feed_2 : decode bL_feed 2 = .ok (.aload_n 0, 1) := by decide +kernel
theorem dL_feed_3 : decode bL_feed 3 = .ok (.iload_n 1, 1) := by decide +kernel
theorem dL_feed_4 : decode bL_feed 4 = .ok (.invokevirtual 7, 3) := by decide +kernel
theorem dL_feed_7 : decode bL_feed 7 = .ok (.i2l, 1) := by decide +kernel
theorem dL_feed_8 : decode bL_feed 8 = .ok (.lastore, 1) := by decide +kernel
theorem dL_feed_9 : decode bL_feed 9 = .ok (.goto 9, 3) := by decide +kernel
theorem dL_feed_12 : decode bL_feed 12 = .ok (.astore_n 3, 1) := by decide +kernel
theorem dL_feed_13 : decode bL_feed 13 = .ok (.iconst 1, 1) := by decide +kernel
theorem dL_feed_14 : decode bL_feed 14 = .ok (.ireturn, 1) := by decide +kernel
theorem dL_feed_15 : decode bL_feed 15 = .ok (.astore_n 3, 1) := by decide +kernel
theorem dL_feed_16 : decode bL_feed 16 = .ok (.iconst 2, 1) := by decide +kernel
theorem dL_feed_17 : decode bL_feed 17 = .ok (.ireturn, 1) := by decide +kernel
theorem dL_feed_18 : decode bL_feed 18 = .ok (.iconst 0, 1) := by decide +kernel
theorem dL_feed_19 : decode bL_feed 19 = .ok (.ireturn, 1) := by decide +kernel
theorem dL_act_0 : decode bL_act 0 = .ok (.aload_n 3, 1) := by decide +kernel
theorem dL_act_1 : decode bL_act 1 = .ok (.iconst 0, 1) := by decide +kernel
theorem dL_act_2 : decode bL_act 2 = .ok (.aload_n 0, 1) := by decide +kernel
theorem dL_act_3 : decode bL_act 3 = .ok (.iload_n 1, 1) := by decide +kernel
theorem dL_act_4 : decode bL_act 4 = .ok (.iload_n 2, 1) := by decide +kernel
theorem dL_act_5 : decode bL_act 5 = .ok (.invokevirtual 17, 3) := by decide +kernel
theorem dL_act_8 : decode bL_act 8 = .ok (.i2l, 1) := by decide +kernel
theorem dL_act_9 : decode bL_act 9 = .ok (.lastore, 1) := by decide +kernel
theorem dL_act_10 : decode bL_act 10 = .ok (.goto 15, 3) := by decide +kernel
theorem dL_act_13 : decode bL_act 13 = .ok (.astore 4, 2) := by decide +kernel
theorem dL_act_15 : decode bL_act 15 = .ok (.iconst 1, 1) := by decide +kernel
theorem dL_act_16 : decode bL_act 16 = .ok (.ireturn, 1) := by decide +kernel
theorem dL_act_17 : decode bL_act 17 = .ok (.astore 4, 2) := by decide +kernel
theorem dL_act_19 : decode bL_act 19 = .ok (.iconst 2, 1) := by decide +kernel
theorem dL_act_20 : decode bL_act 20 = .ok (.ireturn, 1) := by decide +kernel
theorem dL_act_21 : decode bL_act 21 = .ok (.astore 4, 2) := by decide +kernel
theorem dL_act_23 : decode bL_act 23 = .ok (.iconst 3, 1) := by decide +kernel
theorem dL_act_24 : decode bL_act 24 = .ok (.ireturn, 1) := by decide +kernel
theorem dL_act_25 : decode bL_act 25 = .ok (.iconst 0, 1) := by decide +kernel
theorem dL_act_26 : decode bL_act 26 = .ok (.ireturn, 1) := by decide +kernel
theorem dL_flush_0 : decode bL_flush 0 = .ok (.aload_n 1, 1) := by decide +kernel
theorem dL_flush_1 : decode bL_flush 1 = .ok (.iconst 0, 1) := by decide +kernel
theorem dL_flush_2 : decode bL_flush 2 = .ok (.aload_n 0, 1) := by decide +kernel
theorem dL_flush_3 : decode bL_flush 3 = .ok (.invokevirtual 23, 3) := by decide +kernel
theorem dL_flush_6 : decode bL_flush 6 = .ok (.i2l, 1) := by decide +kernel
theorem dL_flush_7 : decode bL_flush 7 = .ok (.lastore, 1) := by decide +kernel
theorem dL_flush_8 : decode bL_flush 8 = .ok (.goto 6, 3) := by decide +kernel
theorem dL_flush_11 : decode bL_flush 11 = .ok (.astore_n 2, 1) := by decide +kernel
theorem dL_flush_12 : decode bL_flush 12 = .ok (.iconst 1, 1) := by decide +kernel
theorem dL_flush_13 : decode bL_flush 13 = .ok (.ireturn, 1) := by decide +kernel
theorem dL_flush_14 : decode bL_flush 14 = .ok (.iconst 0, 1) := by decide +kernel
theorem dL_flush_15 : decode bL_flush 15 = .ok (.ireturn, 1) := by decide +kernel
theorem dL_part_0 : decode bL_part 0 = .ok (.aload_n 1, 1) := by decide +kernel
theorem dL_part_1 : decode bL_part 1 = .ok (.iconst 0, 1) := by decide +kernel
theorem dL_part_2 : decode bL_part 2 = .ok (.aload_n 0, 1) := by decide +kernel
theorem dL_part_3 : decode bL_part 3 = .ok (.invokevirtual 27, 3) := by decide +kernel
theorem dL_part_6 : decode bL_part 6 = .ok (.i2l, 1) := by decide +kernel
theorem dL_part_7 : decode bL_part 7 = .ok (.lastore, 1) := by decide +kernel
theorem dL_part_8 : decode bL_part 8 = .ok (.goto 6, 3) := by decide +kernel
theorem dL_part_11 : decode bL_part 11 = .ok (.astore_n 2, 1) := by decide +kernel
theorem dL_part_12 : decode bL_part 12 = .ok (.iconst 1, 1) := by decide +kernel
theorem dL_part_13 : decode bL_part 13 = .ok (.ireturn, 1) := by decide +kernel
theorem dL_part_14 : decode bL_part 14 = .ok (.iconst 0, 1) := by decide +kernel
theorem dL_part_15 : decode bL_part 15 = .ok (.ireturn, 1) := by decide +kernel
theorem dL_cut_0 : decode bL_cut 0 = .ok (.aload_n 1, 1) := by decide +kernel
theorem dL_cut_1 : decode bL_cut 1 = .ok (.iconst 0, 1) := by decide +kernel
theorem dL_cut_2 : decode bL_cut 2 = .ok (.aload_n 0, 1) := by decide +kernel
theorem dL_cut_3 : decode bL_cut 3 = .ok (.invokevirtual 30, 3) := by decide +kernel
theorem dL_cut_6 : decode bL_cut 6 = .ok (.i2l, 1) := by decide +kernel
theorem dL_cut_7 : decode bL_cut 7 = .ok (.lastore, 1) := by decide +kernel
theorem dL_cut_8 : decode bL_cut 8 = .ok (.goto 6, 3) := by decide +kernel
theorem dL_cut_11 : decode bL_cut 11 = .ok (.astore_n 2, 1) := by decide +kernel
theorem dL_cut_12 : decode bL_cut 12 = .ok (.iconst 1, 1) := by decide +kernel
theorem dL_cut_13 : decode bL_cut 13 = .ok (.ireturn, 1) := by decide +kernel
theorem dL_cut_14 : decode bL_cut 14 = .ok (.iconst 0, 1) := by decide +kernel
theorem dL_cut_15 : decode bL_cut 15 = .ok (.ireturn, 1) := by decide +kernel
theorem dL_find_0 : decode bL_find 0 = .ok (.aload_n 3, 1) := by decide +kernel
theorem dL_find_1 : decode bL_find 1 = .ok (.iconst 0, 1) := by decide +kernel
theorem dL_find_2 : decode bL_find 2 = .ok (.aload_n 0, 1) := by decide +kernel
theorem dL_find_3 : decode bL_find 3 = .ok (.iload_n 1, 1) := by decide +kernel
theorem dL_find_4 : decode bL_find 4 = .ok (.iload_n 2, 1) := by decide +kernel
theorem dL_find_5 : decode bL_find 5 = .ok (.invokevirtual 33, 3) := by decide +kernel
theorem dL_find_8 : decode bL_find 8 = .ok (.i2l, 1) := by decide +kernel
theorem dL_find_9 : decode bL_find 9 = .ok (.lastore, 1) := by decide +kernel
theorem dL_find_10 : decode bL_find 10 = .ok (.goto 11, 3) := by decide +kernel
theorem dL_find_13 : decode bL_find 13 = .ok (.astore 4, 2) := by decide +kernel
theorem dL_find_15 : decode bL_find 15 = .ok (.iconst 1, 1) := by decide +kernel
theorem dL_find_16 : decode bL_find 16 = .ok (.ireturn, 1) := by decide +kernel
theorem dL_find_17 : decode bL_find 17 = .ok (.astore 4, 2) := by decide +kernel
theorem dL_find_19 : decode bL_find 19 = .ok (.iconst 2, 1) := by decide +kernel
theorem dL_find_20 : decode bL_find 20 = .ok (.ireturn, 1) := by decide +kernel
theorem dL_find_21 : decode bL_find 21 = .ok (.iconst 0, 1) := by decide +kernel
theorem dL_find_22 : decode bL_find 22 = .ok (.ireturn, 1) := by decide +kernel
theorem dL_day_0 : decode bL_day 0 = .ok (.aload_n 2, 1) := by decide +kernel
theorem dL_day_1 : decode bL_day 1 = .ok (.iconst 0, 1) := by decide +kernel
theorem dL_day_2 : decode bL_day 2 = .ok (.aload_n 0, 1) := by decide +kernel
theorem dL_day_3 : decode bL_day 3 = .ok (.iload_n 1, 1) := by decide +kernel
theorem dL_day_4 : decode bL_day 4 = .ok (.invokevirtual 36, 3) := by decide +kernel
theorem dL_day_7 : decode bL_day 7 = .ok (.i2l, 1) := by decide +kernel
theorem dL_day_8 : decode bL_day 8 = .ok (.lastore, 1) := by decide +kernel
theorem dL_day_9 : decode bL_day 9 = .ok (.goto 9, 3) := by decide +kernel
theorem dL_day_12 : decode bL_day 12 = .ok (.astore_n 3, 1) := by decide +kernel
theorem dL_day_13 : decode bL_day 13 = .ok (.iconst 1, 1) := by decide +kernel
theorem dL_day_14 : decode bL_day 14 = .ok (.ireturn, 1) := by decide +kernel
theorem dL_day_15 : decode bL_day 15 = .ok (.astore_n 3, 1) := by decide +kernel
theorem dL_day_16 : decode bL_day 16 = .ok (.iconst 2, 1) := by decide +kernel
theorem dL_day_17 : decode bL_day 17 = .ok (.ireturn, 1) := by decide +kernel
theorem dL_day_18 : decode bL_day 18 = .ok (.iconst 0, 1) := by decide +kernel
theorem dL_day_19 : decode bL_day 19 = .ok (.ireturn, 1) := by decide +kernel
theorem dL_seal_0 : decode bL_seal 0 = .ok (.aload_n 1, 1) := by decide +kernel
theorem dL_seal_1 : decode bL_seal 1 = .ok (.iconst 0, 1) := by decide +kernel
theorem dL_seal_2 : decode bL_seal 2 = .ok (.aload_n 0, 1) := by decide +kernel
theorem dL_seal_3 : decode bL_seal 3 = .ok (.invokevirtual 39, 3) := by decide +kernel
theorem dL_seal_6 : decode bL_seal 6 = .ok (.lastore, 1) := by decide +kernel
theorem dL_seal_7 : decode bL_seal 7 = .ok (.goto 6, 3) := by decide +kernel
theorem dL_seal_10 : decode bL_seal 10 = .ok (.astore_n 2, 1) := by decide +kernel
theorem dL_seal_11 : decode bL_seal 11 = .ok (.iconst 1, 1) := by decide +kernel
theorem dL_seal_12 : decode bL_seal 12 = .ok (.ireturn, 1) := by decide +kernel
theorem dL_seal_13 : decode bL_seal 13 = .ok (.iconst 0, 1) := by decide +kernel
theorem dL_seal_14 : decode bL_seal 14 = .ok (.ireturn, 1) := by decide +kernel
theorem dL_crash_0 : decode bL_crash 0 = .ok (.aload_n 2, 1) := by decide +kernel
theorem dL_crash_1 : decode bL_crash 1 = .ok (.iconst 0, 1) := by decide +kernel
theorem dL_crash_2 : decode bL_crash 2 = .ok (.aload_n 0, 1) := by decide +kernel
theorem dL_crash_3 : decode bL_crash 3 = .ok (.iload_n 1, 1) := by decide +kernel
theorem dL_crash_4 : decode bL_crash 4 = .ok (.invokevirtual 43, 3) := by decide +kernel
theorem dL_crash_7 : decode bL_crash 7 = .ok (.i2l, 1) := by decide +kernel
theorem dL_crash_8 : decode bL_crash 8 = .ok (.lastore, 1) := by decide +kernel
theorem dL_crash_9 : decode bL_crash 9 = .ok (.goto 9, 3) := by decide +kernel
theorem dL_crash_12 : decode bL_crash 12 = .ok (.astore_n 3, 1) := by decide +kernel
theorem dL_crash_13 : decode bL_crash 13 = .ok (.iconst 1, 1) := by decide +kernel
theorem dL_crash_14 : decode bL_crash 14 = .ok (.ireturn, 1) := by decide +kernel
theorem dL_crash_15 : decode bL_crash 15 = .ok (.astore_n 3, 1) := by decide +kernel
theorem dL_crash_16 : decode bL_crash 16 = .ok (.iconst 2, 1) := by decide +kernel
theorem dL_crash_17 : decode bL_crash 17 = .ok (.ireturn, 1) := by decide +kernel
theorem dL_crash_18 : decode bL_crash 18 = .ok (.iconst 0, 1) := by decide +kernel
theorem dL_crash_19 : decode bL_crash 19 = .ok (.ireturn, 1) := by decide +kernel
theorem dL_tear_0 : decode bL_tear 0 = .ok (.aload_n 1, 1) := by decide +kernel
theorem dL_tear_1 : decode bL_tear 1 = .ok (.iconst 0, 1) := by decide +kernel
theorem dL_tear_2 : decode bL_tear 2 = .ok (.aload_n 0, 1) := by decide +kernel
theorem dL_tear_3 : decode bL_tear 3 = .ok (.invokevirtual 46, 3) := by decide +kernel
theorem dL_tear_6 : decode bL_tear 6 = .ok (.i2l, 1) := by decide +kernel
theorem dL_tear_7 : decode bL_tear 7 = .ok (.lastore, 1) := by decide +kernel
theorem dL_tear_8 : decode bL_tear 8 = .ok (.goto 6, 3) := by decide +kernel
theorem dL_tear_11 : decode bL_tear 11 = .ok (.astore_n 2, 1) := by decide +kernel
theorem dL_tear_12 : decode bL_tear 12 = .ok (.iconst 1, 1) := by decide +kernel
