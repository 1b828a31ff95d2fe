theorem dX0_init_0 : decode cX0_init 0 = .ok (.aload_n 0, 1) := by decide +kernel
theorem dX0_init_1 : decode cX0_init 1 = .ok (.iload_n 1, 1) := by decide +kernel
theorem dX0_init_2 : decode cX0_init 2 = .ok (.iload_n 2, 1) := by decide +kernel
theorem dX0_init_3 : decode cX0_init 3 = .ok (.iload_n 3, 1) := by decide +kernel
theorem dX0_init_4 : decode cX0_init 4 = .ok (.iload 4, 2) := by decide +kernel
theorem dX0_init_6 : decode cX0_init 6 = .ok (.invokespecial 1, 3) := by decide +kernel
theorem dX0_init_9 : decode cX0_init 9 = .ok (.return_, 1) := by decide +kernel
theorem dX0_takes_0 : decode cX0_takes 0 = .ok (.aload_n 0, 1) := by decide +kernel
theorem dX0_takes_1 : decode cX0_takes 1 = .ok (.getfield 7, 3) := by decide +kernel
theorem dX0_takes_4 : decode cX0_takes 4 = .ok (.iload_n 1, 1) := by decide +kernel
theorem dX0_takes_5 : decode cX0_takes 5 = .ok (.invokestatic 13, 3) := by decide +kernel
theorem dX0_takes_8 : decode cX0_takes 8 = .ok (.ifCond .eq 7, 3) := by decide +kernel
theorem dX0_takes_11 : decode cX0_takes 11 = .ok (.iconst 0, 1) := by decide +kernel
theorem dX0_takes_12 : decode cX0_takes 12 = .ok (.goto 8, 3) := by decide +kernel
theorem dX0_takes_15 : decode cX0_takes 15 = .ok (.aload_n 0, 1) := by decide +kernel
theorem dX0_takes_16 : decode cX0_takes 16 = .ok (.iload_n 1, 1) := by decide +kernel
theorem dX0_takes_17 : decode cX0_takes 17 = .ok (.invokespecial 19, 3) := by decide +kernel
theorem dX0_takes_20 : decode cX0_takes 20 = .ok (.ireturn, 1) := by decide +kernel
theorem dX1_init_0 : decode cX1_init 0 = .ok (.aload_n 0, 1) := by decide +kernel
theorem dX1_init_1 : decode cX1_init 1 = .ok (.iload_n 1, 1) := by decide +kernel
theorem dX1_init_2 : decode cX1_init 2 = .ok (.iload_n 2, 1) := by decide +kernel
theorem dX1_init_3 : decode cX1_init 3 = .ok (.iload_n 3, 1) := by decide +kernel
theorem dX1_init_4 : decode cX1_init 4 = .ok (.iload 4, 2) := by decide +kernel
theorem dX1_init_6 : decode cX1_init 6 = .ok (.invokespecial 1, 3) := by decide +kernel
theorem dX1_init_9 : decode cX1_init 9 = .ok (.return_, 1) := by decide +kernel
theorem dX1_bears_0 : decode cX1_bears 0 = .ok (.aload_n 0, 1) := by decide +kernel
theorem dX1_bears_1 : decode cX1_bears 1 = .ok (.iload_n 1, 1) := by decide +kernel
theorem dX1_bears_2 : decode cX1_bears 2 = .ok (.invokespecial 7, 3) := by decide +kernel
theorem dX1_bears_5 : decode cX1_bears 5 = .ok (.iconst 1, 1) := by decide +kernel
theorem dX1_bears_6 : decode cX1_bears 6 = .ok (.iadd, 1) := by decide +kernel
theorem dX1_bears_7 : decode cX1_bears 7 = .ok (.ireturn, 1) := by decide +kernel
theorem dX2_init_0 : decode cX2_init 0 = .ok (.aload_n 0, 1) := by decide +kernel
theorem dX2_init_1 : decode cX2_init 1 = .ok (.invokespecial 3, 3) := by decide +kernel
theorem dX2_init_4 : decode cX2_init 4 = .ok (.aload_n 0, 1) := by decide +kernel
theorem dX2_init_5 : decode cX2_init 5 = .ok (.iload_n 1, 1) := by decide +kernel
theorem dX2_init_6 : decode cX2_init 6 = .ok (.putfield 9, 3) := by decide +kernel
theorem dX2_init_9 : decode cX2_init 9 = .ok (.aload_n 0, 1) := by decide +kernel
theorem dX2_init_10 : decode cX2_init 10 = .ok (.iload_n 2, 1) := by decide +kernel
theorem dX2_init_11 : decode cX2_init 11 = .ok (.putfield 15, 3) := by decide +kernel
theorem dX2_init_14 : decode cX2_init 14 = .ok (.aload_n 0, 1) := by decide +kernel
theorem dX2_init_15 : decode cX2_init 15 = .ok (.iload_n 3, 1) := by decide +kernel
theorem dX2_init_16 : decode cX2_init 16 = .ok (.putfield 18, 3) := by decide +kernel
theorem dX2_init_19 : decode cX2_init 19 = .ok (.aload_n 0, 1) := by decide +kernel
theorem dX2_init_20 : decode cX2_init 20 = .ok (.iload 4, 2) := by decide +kernel
theorem dX2_init_22 : decode cX2_init 22 = .ok (.putfield 21, 3) := by decide +kernel
theorem dX2_init_25 : decode cX2_init 25 = .ok (.return_, 1) := by decide +kernel
theorem dX2_takes_0 : decode cX2_takes 0 = .ok (.iload_n 1, 1) := by decide +kernel
theorem dX2_takes_1 : decode cX2_takes 1 = .ok (.iconst 2, 1) := by decide +kernel
theorem dX2_takes_2 : decode cX2_takes 2 = .ok (.if_icmp .ge 10, 3) := by decide +kernel
theorem dX2_takes_5 : decode cX2_takes 5 = .ok (.aload_n 0, 1) := by decide +kernel
theorem dX2_takes_6 : decode cX2_takes 6 = .ok (.getfield 15, 3) := by decide +kernel
theorem dX2_takes_9 : decode cX2_takes 9 = .ok (.iconst 1, 1) := by decide +kernel
theorem dX2_takes_10 : decode cX2_takes 10 = .ok (.iadd, 1) := by decide +kernel
theorem dX2_takes_11 : decode cX2_takes 11 = .ok (.ireturn, 1) := by decide +kernel
theorem dX2_takes_12 : decode cX2_takes 12 = .ok (.iload_n 1, 1) := by decide +kernel
theorem dX2_takes_13 : decode cX2_takes 13 = .ok (.iconst 4, 1) := by decide +kernel
theorem dX2_takes_14 : decode cX2_takes 14 = .ok (.if_icmp .ge 12, 3) := by decide +kernel
theorem dX2_takes_17 : decode cX2_takes 17 = .ok (.iconst 2, 1) := by decide +kernel
theorem dX2_takes_18 : decode cX2_takes 18 = .ok (.aload_n 0, 1) := by decide +kernel
theorem dX2_takes_19 : decode cX2_takes 19 = .ok (.getfield 15, 3) := by decide +kernel
theorem dX2_takes_22 : decode cX2_takes 22 = .ok (.imul, 1) := by decide +kernel
theorem dX2_takes_23 : decode cX2_takes 23 = .ok (.goto 4, 3) := by decide +kernel
theorem dX2_takes_26 : decode cX2_takes 26 = .ok (.iconst 1, 1) := by decide +kernel
theorem dX2_takes_27 : decode cX2_takes 27 = .ok (.ireturn, 1) := by decide +kernel
theorem dX2_bears_0 : decode cX2_bears 0 = .ok (.iload_n 1, 1) := by decide +kernel
theorem dX2_bears_1 : decode cX2_bears 1 = .ok (.ifCond .ne 5, 3) := by decide +kernel
theorem dX2_bears_4 : decode cX2_bears 4 = .ok (.iconst 0, 1) := by decide +kernel
theorem dX2_bears_5 : decode cX2_bears 5 = .ok (.ireturn, 1) := by decide +kernel
theorem dX2_bears_6 : decode cX2_bears 6 = .ok (.iload_n 1, 1) := by decide +kernel
theorem dX2_bears_7 : decode cX2_bears 7 = .ok (.iconst 3, 1) := by decide +kernel
theorem dX2_bears_8 : decode cX2_bears 8 = .ok (.if_icmp .ge 7, 3) := by decide +kernel
theorem dX2_bears_11 : decode cX2_bears 11 = .ok (.iconst 2, 1) := by decide +kernel
theorem dX2_bears_12 : decode cX2_bears 12 = .ok (.goto 4, 3) := by decide +kernel
theorem dX2_bears_15 : decode cX2_bears 15 = .ok (.iconst 4, 1) := by decide +kernel
theorem dX2_bears_16 : decode cX2_bears 16 = .ok (.ireturn, 1) := by decide +kernel
theorem dX2_brings_0 : decode cX2_brings 0 = .ok (.aload_n 0, 1) := by decide +kernel
theorem dX2_brings_1 : decode cX2_brings 1 = .ok (.getfield 21, 3) := by decide +kernel
theorem dX2_brings_4 : decode cX2_brings 4 = .ok (.ireturn, 1) := by decide +kernel
theorem dX2_takesInAll_0 : decode cX2_takesInAll 0 = .ok (.iconst 0, 1) := by decide +kernel
theorem dX2_takesInAll_1 : decode cX2_takesInAll 1 = .ok (.istore_n 1, 1) := by decide +kernel
theorem dX2_takesInAll_2 : decode cX2_takesInAll 2 = .ok (.iconst 0, 1) := by decide +kernel
theorem dX2_takesInAll_3 : decode cX2_takesInAll 3 = .ok (.istore_n 2, 1) := by decide +kernel
theorem dX2_takesInAll_4 : decode cX2_takesInAll 4 = .ok (.iload_n 2, 1) := by decide +kernel
theorem dX2_takesInAll_5 : decode cX2_takesInAll 5 = .ok (.iconst 5, 1) := by decide +kernel
theorem dX2_takesInAll_6 : decode cX2_takesInAll 6 = .ok (.if_icmp .ge 17, 3) := by decide +kernel
theorem dX2_takesInAll_9 : decode cX2_takesInAll 9 = .ok (.iload_n 1, 1) := by decide +kernel
theorem dX2_takesInAll_10 : decode cX2_takesInAll 10 = .ok (.aload_n 0, 1) := by decide +kernel
theorem dX2_takesInAll_11 : decode cX2_takesInAll 11 = .ok (.iload_n 2, 1) := by decide +kernel
theorem dX2_takesInAll_12 : decode cX2_takesInAll 12 = .ok (.invokevirtual 24, 3) := by decide +kernel
theorem dX2_takesInAll_15 : decode cX2_takesInAll 15 = .ok (.iadd, 1) := by decide +kernel
theorem dX2_takesInAll_16 : decode cX2_takesInAll 16 = .ok (.istore_n 1, 1) := by decide +kernel
theorem dX2_takesInAll_17 : decode cX2_takesInAll 17 = .ok (.iinc 2 1, 3) := by decide +kernel
theorem dX2_takesInAll_20 : decode cX2_takesInAll 20 = .ok (.goto (-16), 3) := by decide +kernel
theorem dX2_takesInAll_23 : decode cX2_takesInAll 23 = .ok (.iload_n 1, 1) := by decide +kernel
theorem dX2_takesInAll_24 : decode cX2_takesInAll 24 = .ok (.ireturn, 1) := by decide +kernel
theorem dX2_finish_0 : decode cX2_finish 0 = .ok (.aload_n 0, 1) := by decide +kernel
theorem dX2_finish_1 : decode cX2_finish 1 = .ok (.iconst 1, 1) := by decide +kernel
theorem dX2_finish_2 : decode cX2_finish 2 = .ok (.putfield 28, 3) := by decide +kernel
theorem dX2_finish_5 : decode cX2_finish 5 = .ok (.aload_n 0, 1) := by decide +kernel
theorem dX2_finish_6 : decode cX2_finish 6 = .ok (.iload_n 1, 1) := by decide +kernel
theorem dX2_finish_7 : decode cX2_finish 7 = .ok (.putfield 32, 3) := by decide +kernel
theorem dX2_finish_10 : decode cX2_finish 10 = .ok (.aload_n 0, 1) := by decide +kernel
theorem dX2_finish_11 : decode cX2_finish 11 = .ok (.iload_n 2, 1) := by decide +kernel
theorem dX2_finish_12 : decode cX2_finish 12 = .ok (.putfield 35, 3) := by decide +kernel
theorem dX2_finish_15 : decode cX2_finish 15 = .ok (.return_, 1) := by decide +kernel
theorem dX2_keepImage_0 : decode cX2_keepImage 0 = .ok (.aload_n 0, 1) := by decide +kernel
theorem dX2_keepImage_1 : decode cX2_keepImage 1 = .ok (.aload_n 0, 1) := by decide +kernel
theorem dX2_keepImage_2 : decode cX2_keepImage 2 = .ok (.getfield 28, 3) := by decide +kernel
theorem dX2_keepImage_5 : decode cX2_keepImage 5 = .ok (.putfield 38, 3) := by decide +kernel
theorem dX2_keepImage_8 : decode cX2_keepImage 8 = .ok (.aload_n 0, 1) := by decide +kernel
theorem dX2_keepImage_9 : decode cX2_keepImage 9 = .ok (.aload_n 0, 1) := by decide +kernel
theorem dX2_keepImage_10 : decode cX2_keepImage 10 = .ok (.getfield 32, 3) := by decide +kernel
theorem dX2_keepImage_13 : decode cX2_keepImage 13 = .ok (.putfield 41, 3) := by decide +kernel
theorem dX2_keepImage_16 : decode cX2_keepImage 16 = .ok (.aload_n 0, 1) := by decide +kernel
theorem dX2_keepImage_17 : decode cX2_keepImage 17 = .ok (.aload_n 0, 1) := by decide +kernel
theorem dX2_keepImage_18 : decode cX2_keepImage 18 = .ok (.getfield 35, 3) := by decide +kernel
theorem dX2_keepImage_21 : decode cX2_keepImage 21 = .ok (.putfield 44, 3) := by decide +kernel
theorem dX2_keepImage_24 : decode cX2_keepImage 24 = .ok (.return_, 1) := by decide +kernel
theorem dX2_layBack_0 : decode cX2_layBack 0 = .ok (.aload_n 0, 1) := by decide +kernel
theorem dX2_layBack_1 : decode cX2_layBack 1 = .ok (.aload_n 0, 1) := by decide +kernel
theorem dX2_layBack_2 : decode cX2_layBack 2 = .ok (.getfield 38, 3) := by decide +kernel
theorem dX2_layBack_5 : decode cX2_layBack 5 = .ok (.putfield 28, 3) := by decide +kernel
theorem dX2_layBack_8 : decode cX2_layBack 8 = .ok (.aload_n 0, 1) := by decide +kernel
theorem dX2_layBack_9 : decode cX2_layBack 9 = .ok (.aload_n 0, 1) := by decide +kernel
theorem dX2_layBack_10 : decode cX2_layBack 10 = .ok (.getfield 41, 3) := by decide +kernel
theorem dX2_layBack_13 : decode cX2_layBack 13 = .ok (.putfield 32, 3) := by decide +kernel
theorem dX2_layBack_16 : decode cX2_layBack 16 = .ok (.aload_n 0, 1) := by decide +kernel
theorem dX2_layBack_17 : decode cX2_layBack 17 = .ok (.aload_n 0, 1) := by decide +kernel
theorem dX2_layBack_18 : decode cX2_layBack 18 = .ok (.getfield 44, 3) := by decide +kernel
theorem dX2_layBack_21 : decode cX2_layBack 21 = .ok (.putfield 35, 3) := by decide +kernel
theorem dX2_layBack_24 : decode cX2_layBack 24 = .ok (.return_, 1) := by decide +kernel
theorem dX3_init_0 : decode cX3_init 0 = .ok (.aload_n 0, 1) := by decide +kernel
theorem dX3_init_1 : decode cX3_init 1 = .ok (.invokespecial 3, 3) := by decide +kernel
theorem dX3_init_4 : decode cX3_init 4 = .ok (.aload_n 0, 1) := by decide +kernel
theorem dX3_init_5 : decode cX3_init 5 = .ok (.bipush 6, 2) := by decide +kernel
theorem dX3_init_7 : decode cX3_init 7 = .ok (.newarray .int, 2) := by decide +kernel
theorem dX3_init_9 : decode cX3_init 9 = .ok (.putfield 9, 3) := by decide +kernel
theorem dX3_init_12 : decode cX3_init 12 = .ok (.aload_n 0, 1) := by decide +kernel
theorem dX3_init_13 : decode cX3_init 13 = .ok (.bipush 6, 2) := by decide +kernel
theorem dX3_init_15 : decode cX3_init 15 = .ok (.newarray .int, 2) := by decide +kernel
theorem dX3_init_17 : decode cX3_init 17 = .ok (.putfield 15, 3) := by decide +kernel
theorem dX3_init_20 : decode cX3_init 20 = .ok (.aload_n 0, 1) := by decide +kernel
theorem dX3_init_21 : decode cX3_init 21 = .ok (.bipush 36, 2) := by decide +kernel
theorem dX3_init_23 : decode cX3_init 23 = .ok (.newarray .int, 2) := by decide +kernel
theorem dX3_init_25 : decode cX3_init 25 = .ok (.putfield 18, 3) := by decide +kernel
theorem dX3_init_28 : decode cX3_init 28 = .ok (.aload_n 0, 1) := by decide +kernel
theorem dX3_init_29 : decode cX3_init 29 = .ok (.iconst 5, 1) := by decide +kernel
theorem dX3_init_30 : decode cX3_init 30 = .ok (.newarray .int, 2) := by decide +kernel
theorem dX3_init_32 : decode cX3_init 32 = .ok (.putfield 21, 3) := by decide +kernel
theorem dX3_init_35 : decode cX3_init 35 = .ok (.aload_n 0, 1) := by decide +kernel
theorem dX3_init_36 : decode cX3_init 36 = .ok (.bipush 6, 2) := by decide +kernel
theorem dX3_init_38 : decode cX3_init 38 = .ok (.newarray .int, 2) := by decide +kernel
theorem dX3_init_40 : decode cX3_init 40 = .ok (.putfield 24, 3) := by decide +kernel
theorem dX3_init_43 : decode cX3_init 43 = .ok (.aload_n 0, 1) := by decide +kernel
theorem dX3_init_44 : decode cX3_init 44 = .ok (.iconst 5, 1) := by decide +kernel
theorem dX3_init_45 : decode cX3_init 45 = .ok (.newarray .int, 2) := by decide +kernel
theorem dX3_init_47 : decode cX3_init 47 = .ok (.putfield 27, 3) := by decide +kernel
theorem dX3_init_50 : decode cX3_init 50 = .ok (.return_, 1) := by decide +kernel
theorem dX3_layOut_0 : decode cX3_layOut 0 = .ok (.aload_n 0, 1) := by decide +kernel
theorem dX3_layOut_1 : decode cX3_layOut 1 = .ok (.aload_n 3, 1) := by decide +kernel
theorem dX3_layOut_2 : decode cX3_layOut 2 = .ok (.getfield 30, 3) := by decide +kernel
theorem dX3_layOut_5 : decode cX3_layOut 5 = .ok (.putfield 36, 3) := by decide +kernel
theorem dX3_layOut_8 : decode cX3_layOut 8 = .ok (.iconst 0, 1) := by decide +kernel
theorem dX3_layOut_9 : decode cX3_layOut 9 = .ok (.istore 5, 2) := by decide +kernel
theorem dX3_layOut_11 : decode cX3_layOut 11 = .ok (.iload 5, 2) := by decide +kernel
theorem dX3_layOut_13 : decode cX3_layOut 13 = .ok (.iconst 5, 1) := by decide +kernel
theorem dX3_layOut_14 : decode cX3_layOut 14 = .ok (.if_icmp .ge 22, 3) := by decide +kernel
theorem dX3_layOut_17 : decode cX3_layOut 17 = .ok (.aload_n 0, 1) := by decide +kernel
theorem dX3_layOut_18 : decode cX3_layOut 18 = .ok (.getfield 21, 3) := by decide +kernel
theorem dX3_layOut_21 : decode cX3_layOut 21 = .ok (.iload 5, 2) := by decide +kernel
theorem dX3_layOut_23 : decode cX3_layOut 23 = .ok (.aload_n 1, 1) := by decide +kernel
theorem dX3_layOut_24 : decode cX3_layOut 24 = .ok (.iload 5, 2) := by decide +kernel
theorem dX3_layOut_26 : decode cX3_layOut 26 = .ok (.invokevirtual 39, 3) := by decide +kernel
theorem dX3_layOut_29 : decode cX3_layOut 29 = .ok (.iastore, 1) := by decide +kernel
theorem dX3_layOut_30 : decode cX3_layOut 30 = .ok (.iinc 5 1, 3) := by decide +kernel
theorem dX3_layOut_33 : decode cX3_layOut 33 = .ok (.goto (-22), 3) := by decide +kernel
theorem dX3_layOut_36 : decode cX3_layOut 36 = .ok (.iconst 0, 1) := by decide +kernel
theorem dX3_layOut_37 : decode cX3_layOut 37 = .ok (.istore 5, 2) := by decide +kernel
theorem dX3_layOut_39 : decode cX3_layOut 39 = .ok (.iload 5, 2) := by decide +kernel
theorem dX3_layOut_41 : decode cX3_layOut 41 = .ok (.bipush 6, 2) := by decide +kernel
theorem dX3_layOut_43 : decode cX3_layOut 43 = .ok (.if_icmp .ge 23, 3) := by decide +kernel
theorem dX3_layOut_46 : decode cX3_layOut 46 = .ok (.aload_n 0, 1) := by decide +kernel
theorem dX3_layOut_47 : decode cX3_layOut 47 = .ok (.getfield 24, 3) := by decide +kernel
theorem dX3_layOut_50 : decode cX3_layOut 50 = .ok (.iload 5, 2) := by decide +kernel
theorem dX3_layOut_52 : decode cX3_layOut 52 = .ok (.aload_n 2, 1) := by decide +kernel
theorem dX3_layOut_53 : decode cX3_layOut 53 = .ok (.aload_n 1, 1) := by decide +kernel
theorem dX3_layOut_54 : decode cX3_layOut 54 = .ok (.iload 5, 2) := by decide +kernel
theorem dX3_layOut_56 : decode cX3_layOut 56 = .ok (.invokevirtual 44, 3) := by decide +kernel
theorem dX3_layOut_59 : decode cX3_layOut 59 = .ok (.iastore, 1) := by decide +kernel
theorem dX3_layOut_60 : decode cX3_layOut 60 = .ok (.iinc 5 1, 3) := by decide +kernel
theorem dX3_layOut_63 : decode cX3_layOut 63 = .ok (.goto (-24), 3) := by decide +kernel
theorem dX3_layOut_66 : decode cX3_layOut 66 = .ok (.iconst 0, 1) := by decide +kernel
theorem dX3_layOut_67 : decode cX3_layOut 67 = .ok (.istore 5, 2) := by decide +kernel
theorem dX3_layOut_69 : decode cX3_layOut 69 = .ok (.iload 5, 2) := by decide +kernel
theorem dX3_layOut_71 : decode cX3_layOut 71 = .ok (.aload_n 0, 1) := by decide +kernel
theorem dX3_layOut_72 : decode cX3_layOut 72 = .ok (.getfield 36, 3) := by decide +kernel
theorem dX3_layOut_75 : decode cX3_layOut 75 = .ok (.if_icmp .ge 85, 3) := by decide +kernel
theorem dX3_layOut_78 : decode cX3_layOut 78 = .ok (.aload_n 0, 1) := by decide +kernel
theorem dX3_layOut_79 : decode cX3_layOut 79 = .ok (.getfield 9, 3) := by decide +kernel
theorem dX3_layOut_82 : decode cX3_layOut 82 = .ok (.iload 5, 2) := by decide +kernel
theorem dX3_layOut_84 : decode cX3_layOut 84 = .ok (.aload 4, 2) := by decide +kernel
theorem dX3_layOut_86 : decode cX3_layOut 86 = .ok (.iload 5, 2) := by decide +kernel
theorem dX3_layOut_88 : decode cX3_layOut 88 = .ok (.iaload, 1) := by decide +kernel
theorem dX3_layOut_89 : decode cX3_layOut 89 = .ok (.iastore, 1) := by decide +kernel
theorem dX3_layOut_90 : decode cX3_layOut 90 = .ok (.iload 5, 2) := by decide +kernel
theorem dX3_layOut_92 : decode cX3_layOut 92 = .ok (.iconst 1, 1) := by decide +kernel
theorem dX3_layOut_93 : decode cX3_layOut 93 = .ok (.iadd, 1) := by decide +kernel
theorem dX3_layOut_94 : decode cX3_layOut 94 = .ok (.istore 6, 2) := by decide +kernel
theorem dX3_layOut_96 : decode cX3_layOut 96 = .ok (.iload 6, 2) := by decide +kernel
theorem dX3_layOut_98 : decode cX3_layOut 98 = .ok (.aload_n 0, 1) := by decide +kernel
theorem dX3_layOut_99 : decode cX3_layOut 99 = .ok (.getfield 36, 3) := by decide +kernel
theorem dX3_layOut_102 : decode cX3_layOut 102 = .ok (.if_icmp .ge 52, 3) := by decide +kernel
theorem dX3_layOut_105 : decode cX3_layOut 105 = .ok (.aload_n 2, 1) := by decide +kernel
theorem dX3_layOut_106 : decode cX3_layOut 106 = .ok (.aload_n 3, 1) := by decide +kernel
theorem dX3_layOut_107 : decode cX3_layOut 107 = .ok (.aload 4, 2) := by decide +kernel
theorem dX3_layOut_109 : decode cX3_layOut 109 = .ok (.iload 5, 2) := by decide +kernel
theorem dX3_layOut_111 : decode cX3_layOut 111 = .ok (.iload 6, 2) := by decide +kernel
theorem dX3_layOut_113 : decode cX3_layOut 113 = .ok (.invokevirtual 50, 3) := by decide +kernel
theorem dX3_layOut_116 : decode cX3_layOut 116 = .ok (.istore 7, 2) := by decide +kernel
theorem dX3_layOut_118 : decode cX3_layOut 118 = .ok (.aload_n 0, 1) := by decide +kernel
theorem dX3_layOut_119 : decode cX3_layOut 119 = .ok (.getfield 18, 3) := by decide +kernel
theorem dX3_layOut_122 : decode cX3_layOut 122 = .ok (.iload 5, 2) := by decide +kernel
theorem dX3_layOut_124 : decode cX3_layOut 124 = .ok (.bipush 6, 2) := by decide +kernel
theorem dX3_layOut_126 : decode cX3_layOut 126 = .ok (.imul, 1) := by decide +kernel
theorem dX3_layOut_127 : decode cX3_layOut 127 = .ok (.iload 6, 2) := by decide +kernel
theorem dX3_layOut_129 : decode cX3_layOut 129 = .ok (.iadd, 1) := by decide +kernel
theorem dX3_layOut_130 : decode cX3_layOut 130 = .ok (.iload 7, 2) := by decide +kernel
theorem dX3_layOut_132 : decode cX3_layOut 132 = .ok (.iastore, 1) := by decide +kernel
theorem dX3_layOut_133 : decode cX3_layOut 133 = .ok (.aload_n 0, 1) := by decide +kernel
theorem dX3_layOut_134 : decode cX3_layOut 134 = .ok (.getfield 18, 3) := by decide +kernel
theorem dX3_layOut_137 : decode cX3_layOut 137 = .ok (.iload 6, 2) := by decide +kernel
theorem dX3_layOut_139 : decode cX3_layOut 139 = .ok (.bipush 6, 2) := by decide +kernel
theorem dX3_layOut_141 : decode cX3_layOut 141 = .ok (.imul, 1) := by decide +kernel
theorem dX3_layOut_142 : decode cX3_layOut 142 = .ok (.iload 5, 2) := by decide +kernel
theorem dX3_layOut_144 : decode cX3_layOut 144 = .ok (.iadd, 1) := by decide +kernel
theorem dX3_layOut_145 : decode cX3_layOut 145 = .ok (.iload 7, 2) := by decide +kernel
theorem dX3_layOut_147 : decode cX3_layOut 147 = .ok (.iastore, 1) := by decide +kernel
theorem dX3_layOut_148 : decode cX3_layOut 148 = .ok (.iinc 6 1, 3) := by decide +kernel
theorem dX3_layOut_151 : decode cX3_layOut 151 = .ok (.goto (-55), 3) := by decide +kernel
theorem dX3_layOut_154 : decode cX3_layOut 154 = .ok (.iinc 5 1, 3) := by decide +kernel
theorem dX3_layOut_157 : decode cX3_layOut 157 = .ok (.goto (-88), 3) := by decide +kernel
theorem dX3_layOut_160 : decode cX3_layOut 160 = .ok (.return_, 1) := by decide +kernel
theorem dX3_fitTogether_0 : decode cX3_fitTogether 0 = .ok (.iload_n 2, 1) := by decide +kernel
theorem dX3_fitTogether_1 : decode cX3_fitTogether 1 = .ok (.iload_n 3, 1) := by decide +kernel
theorem dX3_fitTogether_2 : decode cX3_fitTogether 2 = .ok (.if_icmp .eq 23, 3) := by decide +kernel
theorem dX3_fitTogether_5 : decode cX3_fitTogether 5 = .ok (.aload_n 0, 1) := by decide +kernel
theorem dX3_fitTogether_6 : decode cX3_fitTogether 6 = .ok (.getfield 18, 3) := by decide +kernel
theorem dX3_fitTogether_9 : decode cX3_fitTogether 9 = .ok (.iload_n 2, 1) := by decide +kernel
theorem dX3_fitTogether_10 : decode cX3_fitTogether 10 = .ok (.bipush 6, 2) := by decide +kernel
theorem dX3_fitTogether_12 : decode cX3_fitTogether 12 = .ok (.imul, 1) := by decide +kernel
theorem dX3_fitTogether_13 : decode cX3_fitTogether 13 = .ok (.iload_n 3, 1) := by decide +kernel
theorem dX3_fitTogether_14 : decode cX3_fitTogether 14 = .ok (.iadd, 1) := by decide +kernel
theorem dX3_fitTogether_15 : decode cX3_fitTogether 15 = .ok (.iaload, 1) := by decide +kernel
theorem dX3_fitTogether_16 : decode cX3_fitTogether 16 = .ok (.aload_n 0, 1) := by decide +kernel
theorem dX3_fitTogether_17 : decode cX3_fitTogether 17 = .ok (.getfield 24, 3) := by decide +kernel
theorem dX3_fitTogether_20 : decode cX3_fitTogether 20 = .ok (.iload_n 1, 1) := by decide +kernel
theorem dX3_fitTogether_21 : decode cX3_fitTogether 21 = .ok (.iaload, 1) := by decide +kernel
theorem dX3_fitTogether_22 : decode cX3_fitTogether 22 = .ok (.if_icmp .gt 7, 3) := by decide +kernel
theorem dX3_fitTogether_25 : decode cX3_fitTogether 25 = .ok (.iconst 1, 1) := by decide +kernel
theorem dX3_fitTogether_26 : decode cX3_fitTogether 26 = .ok (.goto 4, 3) := by decide +kernel
theorem dX3_fitTogether_29 : decode cX3_fitTogether 29 = .ok (.iconst 0, 1) := by decide +kernel
theorem dX3_fitTogether_30 : decode cX3_fitTogether 30 = .ok (.ireturn, 1) := by decide +kernel
theorem dX3_firstWrong_0 : decode cX3_firstWrong 0 = .ok (.aload_n 0, 1) := by decide +kernel
theorem dX3_firstWrong_1 : decode cX3_firstWrong 1 = .ok (.getfield 15, 3) := by decide +kernel
theorem dX3_firstWrong_4 : decode cX3_firstWrong 4 = .ok (.iconst 0, 1) := by decide +kernel
theorem dX3_firstWrong_5 : decode cX3_firstWrong 5 = .ok (.invokestatic 54, 3) := by decide +kernel
theorem dX3_firstWrong_8 : decode cX3_firstWrong 8 = .ok (.iconst 0, 1) := by decide +kernel
theorem dX3_firstWrong_9 : decode cX3_firstWrong 9 = .ok (.istore_n 2, 1) := by decide +kernel
theorem dX3_firstWrong_10 : decode cX3_firstWrong 10 = .ok (.iload_n 2, 1) := by decide +kernel
theorem dX3_firstWrong_11 : decode cX3_firstWrong 11 = .ok (.iconst 5, 1) := by decide +kernel
theorem dX3_firstWrong_12 : decode cX3_firstWrong 12 = .ok (.if_icmp .ge 58, 3) := by decide +kernel
theorem dX3_firstWrong_15 : decode cX3_firstWrong 15 = .ok (.aload_n 0, 1) := by decide +kernel
theorem dX3_firstWrong_16 : decode cX3_firstWrong 16 = .ok (.getfield 27, 3) := by decide +kernel
theorem dX3_firstWrong_19 : decode cX3_firstWrong 19 = .ok (.iload_n 2, 1) := by decide +kernel
theorem dX3_firstWrong_20 : decode cX3_firstWrong 20 = .ok (.iload_n 1, 1) := by decide +kernel
theorem dX3_firstWrong_21 : decode cX3_firstWrong 21 = .ok (.iload_n 2, 1) := by decide +kernel
theorem dX3_firstWrong_22 : decode cX3_firstWrong 22 = .ok (.invokestatic 60, 3) := by decide +kernel
theorem dX3_firstWrong_25 : decode cX3_firstWrong 25 = .ok (.iastore, 1) := by decide +kernel
theorem dX3_firstWrong_26 : decode cX3_firstWrong 26 = .ok (.aload_n 0, 1) := by decide +kernel
theorem dX3_firstWrong_27 : decode cX3_firstWrong 27 = .ok (.getfield 27, 3) := by decide +kernel
theorem dX3_firstWrong_30 : decode cX3_firstWrong 30 = .ok (.iload_n 2, 1) := by decide +kernel
theorem dX3_firstWrong_31 : decode cX3_firstWrong 31 = .ok (.iaload, 1) := by decide +kernel
theorem dX3_firstWrong_32 : decode cX3_firstWrong 32 = .ok (.aload_n 0, 1) := by decide +kernel
theorem dX3_firstWrong_33 : decode cX3_firstWrong 33 = .ok (.getfield 36, 3) := by decide +kernel
theorem dX3_firstWrong_36 : decode cX3_firstWrong 36 = .ok (.if_icmp .lt 8, 3) := by decide +kernel
theorem dX3_firstWrong_39 : decode cX3_firstWrong 39 = .ok (.bipush 10, 2) := by decide +kernel
theorem dX3_firstWrong_41 : decode cX3_firstWrong 41 = .ok (.iload_n 2, 1) := by decide +kernel
theorem dX3_firstWrong_42 : decode cX3_firstWrong 42 = .ok (.iadd, 1) := by decide +kernel
theorem dX3_firstWrong_43 : decode cX3_firstWrong 43 = .ok (.ireturn, 1) := by decide +kernel
theorem dX3_firstWrong_44 : decode cX3_firstWrong 44 = .ok (.aload_n 0, 1) := by decide +kernel
theorem dX3_firstWrong_45 : decode cX3_firstWrong 45 = .ok (.getfield 15, 3) := by decide +kernel
theorem dX3_firstWrong_48 : decode cX3_firstWrong 48 = .ok (.aload_n 0, 1) := by decide +kernel
theorem dX3_firstWrong_49 : decode cX3_firstWrong 49 = .ok (.getfield 27, 3) := by decide +kernel
theorem dX3_firstWrong_52 : decode cX3_firstWrong 52 = .ok (.iload_n 2, 1) := by decide +kernel
theorem dX3_firstWrong_53 : decode cX3_firstWrong 53 = .ok (.iaload, 1) := by decide +kernel
theorem dX3_firstWrong_54 : decode cX3_firstWrong 54 = .ok (.dup2, 1) := by decide +kernel
theorem dX3_firstWrong_55 : decode cX3_firstWrong 55 = .ok (.iaload, 1) := by decide +kernel
theorem dX3_firstWrong_56 : decode cX3_firstWrong 56 = .ok (.aload_n 0, 1) := by decide +kernel
theorem dX3_firstWrong_57 : decode cX3_firstWrong 57 = .ok (.getfield 21, 3) := by decide +kernel
theorem dX3_firstWrong_60 : decode cX3_firstWrong 60 = .ok (.iload_n 2, 1) := by decide +kernel
theorem dX3_firstWrong_61 : decode cX3_firstWrong 61 = .ok (.iaload, 1) := by decide +kernel
theorem dX3_firstWrong_62 : decode cX3_firstWrong 62 = .ok (.iadd, 1) := by decide +kernel
theorem dX3_firstWrong_63 : decode cX3_firstWrong 63 = .ok (.iastore, 1) := by decide +kernel
theorem dX3_firstWrong_64 : decode cX3_firstWrong 64 = .ok (.iinc 2 1, 3) := by decide +kernel
theorem dX3_firstWrong_67 : decode cX3_firstWrong 67 = .ok (.goto (-57), 3) := by decide +kernel
theorem dX3_firstWrong_70 : decode cX3_firstWrong 70 = .ok (.iconst 0, 1) := by decide +kernel
theorem dX3_firstWrong_71 : decode cX3_firstWrong 71 = .ok (.istore_n 2, 1) := by decide +kernel
theorem dX3_firstWrong_72 : decode cX3_firstWrong 72 = .ok (.iload_n 2, 1) := by decide +kernel
theorem dX3_firstWrong_73 : decode cX3_firstWrong 73 = .ok (.aload_n 0, 1) := by decide +kernel
theorem dX3_firstWrong_74 : decode cX3_firstWrong 74 = .ok (.getfield 36, 3) := by decide +kernel
theorem dX3_firstWrong_77 : decode cX3_firstWrong 77 = .ok (.if_icmp .ge 29, 3) := by decide +kernel
theorem dX3_firstWrong_80 : decode cX3_firstWrong 80 = .ok (.aload_n 0, 1) := by decide +kernel
theorem dX3_firstWrong_81 : decode cX3_firstWrong 81 = .ok (.getfield 15, 3) := by decide +kernel
theorem dX3_firstWrong_84 : decode cX3_firstWrong 84 = .ok (.iload_n 2, 1) := by decide +kernel
theorem dX3_firstWrong_85 : decode cX3_firstWrong 85 = .ok (.iaload, 1) := by decide +kernel
theorem dX3_firstWrong_86 : decode cX3_firstWrong 86 = .ok (.aload_n 0, 1) := by decide +kernel
theorem dX3_firstWrong_87 : decode cX3_firstWrong 87 = .ok (.getfield 9, 3) := by decide +kernel
theorem dX3_firstWrong_90 : decode cX3_firstWrong 90 = .ok (.iload_n 2, 1) := by decide +kernel
theorem dX3_firstWrong_91 : decode cX3_firstWrong 91 = .ok (.iaload, 1) := by decide +kernel
theorem dX3_firstWrong_92 : decode cX3_firstWrong 92 = .ok (.if_icmp .le 8, 3) := by decide +kernel
theorem dX3_firstWrong_95 : decode cX3_firstWrong 95 = .ok (.bipush 20, 2) := by decide +kernel
theorem dX3_firstWrong_97 : decode cX3_firstWrong 97 = .ok (.iload_n 2, 1) := by decide +kernel
theorem dX3_firstWrong_98 : decode cX3_firstWrong 98 = .ok (.iadd, 1) := by decide +kernel
theorem dX3_firstWrong_99 : decode cX3_firstWrong 99 = .ok (.ireturn, 1) := by decide +kernel
theorem dX3_firstWrong_100 : decode cX3_firstWrong 100 = .ok (.iinc 2 1, 3) := by decide +kernel
theorem dX3_firstWrong_103 : decode cX3_firstWrong 103 = .ok (.goto (-31), 3) := by decide +kernel
theorem dX3_firstWrong_106 : decode cX3_firstWrong 106 = .ok (.iconst 0, 1) := by decide +kernel
theorem dX3_firstWrong_107 : decode cX3_firstWrong 107 = .ok (.istore_n 2, 1) := by decide +kernel
theorem dX3_firstWrong_108 : decode cX3_firstWrong 108 = .ok (.iload_n 2, 1) := by decide +kernel
theorem dX3_firstWrong_109 : decode cX3_firstWrong 109 = .ok (.bipush 6, 2) := by decide +kernel
theorem dX3_firstWrong_111 : decode cX3_firstWrong 111 = .ok (.if_icmp .ge 42, 3) := by decide +kernel
theorem dX3_firstWrong_114 : decode cX3_firstWrong 114 = .ok (.aload_n 0, 1) := by decide +kernel
theorem dX3_firstWrong_115 : decode cX3_firstWrong 115 = .ok (.iload_n 2, 1) := by decide +kernel
theorem dX3_firstWrong_116 : decode cX3_firstWrong 116 = .ok (.aload_n 0, 1) := by decide +kernel
theorem dX3_firstWrong_117 : decode cX3_firstWrong 117 = .ok (.getfield 27, 3) := by decide +kernel
theorem dX3_firstWrong_120 : decode cX3_firstWrong 120 = .ok (.getstatic 64, 3) := by decide +kernel
theorem dX3_firstWrong_123 : decode cX3_firstWrong 123 = .ok (.iload_n 2, 1) := by decide +kernel
theorem dX3_firstWrong_124 : decode cX3_firstWrong 124 = .ok (.iaload, 1) := by decide +kernel
theorem dX3_firstWrong_125 : decode cX3_firstWrong 125 = .ok (.iaload, 1) := by decide +kernel
theorem dX3_firstWrong_126 : decode cX3_firstWrong 126 = .ok (.aload_n 0, 1) := by decide +kernel
theorem dX3_firstWrong_127 : decode cX3_firstWrong 127 = .ok (.getfield 27, 3) := by decide +kernel
theorem dX3_firstWrong_130 : decode cX3_firstWrong 130 = .ok (.getstatic 67, 3) := by decide +kernel
theorem dX3_firstWrong_133 : decode cX3_firstWrong 133 = .ok (.iload_n 2, 1) := by decide +kernel
theorem dX3_firstWrong_134 : decode cX3_firstWrong 134 = .ok (.iaload, 1) := by decide +kernel
theorem dX3_firstWrong_135 : decode cX3_firstWrong 135 = .ok (.iaload, 1) := by decide +kernel
theorem dX3_firstWrong_136 : decode cX3_firstWrong 136 = .ok (.invokevirtual 70, 3) := by decide +kernel
theorem dX3_firstWrong_139 : decode cX3_firstWrong 139 = .ok (.ifCond .ne 8, 3) := by decide +kernel
theorem dX3_firstWrong_142 : decode cX3_firstWrong 142 = .ok (.bipush 40, 2) := by decide +kernel
theorem dX3_firstWrong_144 : decode cX3_firstWrong 144 = .ok (.iload_n 2, 1) := by decide +kernel
theorem dX3_firstWrong_145 : decode cX3_firstWrong 145 = .ok (.iadd, 1) := by decide +kernel
theorem dX3_firstWrong_146 : decode cX3_firstWrong 146 = .ok (.ireturn, 1) := by decide +kernel
theorem dX3_firstWrong_147 : decode cX3_firstWrong 147 = .ok (.iinc 2 1, 3) := by decide +kernel
theorem dX3_firstWrong_150 : decode cX3_firstWrong 150 = .ok (.goto (-42), 3) := by decide +kernel
theorem dX3_firstWrong_153 : decode cX3_firstWrong 153 = .ok (.iconst (-1), 1) := by decide +kernel
theorem dX3_firstWrong_154 : decode cX3_firstWrong 154 = .ok (.ireturn, 1) := by decide +kernel
theorem dX3_takeAway_0 : decode cX3_takeAway 0 = .ok (.iconst 0, 1) := by decide +kernel
theorem dX3_takeAway_1 : decode cX3_takeAway 1 = .ok (.istore_n 3, 1) := by decide +kernel
theorem dX3_takeAway_2 : decode cX3_takeAway 2 = .ok (.iload_n 3, 1) := by decide +kernel
theorem dX3_takeAway_3 : decode cX3_takeAway 3 = .ok (.iconst 5, 1) := by decide +kernel
theorem dX3_takeAway_4 : decode cX3_takeAway 4 = .ok (.if_icmp .ge 25, 3) := by decide +kernel
theorem dX3_takeAway_7 : decode cX3_takeAway 7 = .ok (.aload_n 2, 1) := by decide +kernel
theorem dX3_takeAway_8 : decode cX3_takeAway 8 = .ok (.iload_n 1, 1) := by decide +kernel
theorem dX3_takeAway_9 : decode cX3_takeAway 9 = .ok (.iload_n 3, 1) := by decide +kernel
theorem dX3_takeAway_10 : decode cX3_takeAway 10 = .ok (.invokestatic 60, 3) := by decide +kernel
theorem dX3_takeAway_13 : decode cX3_takeAway 13 = .ok (.dup2, 1) := by decide +kernel
theorem dX3_takeAway_14 : decode cX3_takeAway 14 = .ok (.iaload, 1) := by decide +kernel
theorem dX3_takeAway_15 : decode cX3_takeAway 15 = .ok (.aload_n 0, 1) := by decide +kernel
theorem dX3_takeAway_16 : decode cX3_takeAway 16 = .ok (.getfield 21, 3) := by decide +kernel
theorem dX3_takeAway_19 : decode cX3_takeAway 19 = .ok (.iload_n 3, 1) := by decide +kernel
theorem dX3_takeAway_20 : decode cX3_takeAway 20 = .ok (.iaload, 1) := by decide +kernel
theorem dX3_takeAway_21 : decode cX3_takeAway 21 = .ok (.isub, 1) := by decide +kernel
theorem dX3_takeAway_22 : decode cX3_takeAway 22 = .ok (.iastore, 1) := by decide +kernel
theorem dX3_takeAway_23 : decode cX3_takeAway 23 = .ok (.iinc 3 1, 3) := by decide +kernel
theorem dX3_takeAway_26 : decode cX3_takeAway 26 = .ok (.goto (-24), 3) := by decide +kernel
theorem dX3_takeAway_29 : decode cX3_takeAway 29 = .ok (.return_, 1) := by decide +kernel
theorem dX3_findBest_0 : decode cX3_findBest 0 = .ok (.aload_n 0, 1) := by decide +kernel
theorem dX3_findBest_1 : decode cX3_findBest 1 = .ok (.iconst (-1), 1) := by decide +kernel
theorem dX3_findBest_2 : decode cX3_findBest 2 = .ok (.putfield 74, 3) := by decide +kernel
theorem dX3_findBest_5 : decode cX3_findBest 5 = .ok (.aload_n 0, 1) := by decide +kernel
theorem dX3_findBest_6 : decode cX3_findBest 6 = .ok (.iconst (-1), 1) := by decide +kernel
theorem dX3_findBest_7 : decode cX3_findBest 7 = .ok (.putfield 77, 3) := by decide +kernel
theorem dX3_findBest_10 : decode cX3_findBest 10 = .ok (.aload_n 0, 1) := by decide +kernel
theorem dX3_findBest_11 : decode cX3_findBest 11 = .ok (.iconst 0, 1) := by decide +kernel
theorem dX3_findBest_12 : decode cX3_findBest 12 = .ok (.putfield 80, 3) := by decide +kernel
theorem dX3_findBest_15 : decode cX3_findBest 15 = .ok (.aload_n 0, 1) := by decide +kernel
theorem dX3_findBest_16 : decode cX3_findBest 16 = .ok (.iload_n 1, 1) := by decide +kernel
theorem dX3_findBest_17 : decode cX3_findBest 17 = .ok (.putfield 83, 3) := by decide +kernel
theorem dX3_findBest_20 : decode cX3_findBest 20 = .ok (.aload_n 0, 1) := by decide +kernel
theorem dX3_findBest_21 : decode cX3_findBest 21 = .ok (.iconst 0, 1) := by decide +kernel
theorem dX3_findBest_22 : decode cX3_findBest 22 = .ok (.putfield 87, 3) := by decide +kernel
theorem dX3_findBest_25 : decode cX3_findBest 25 = .ok (.aload_n 0, 1) := by decide +kernel
theorem dX3_findBest_26 : decode cX3_findBest 26 = .ok (.getfield 15, 3) := by decide +kernel
theorem dX3_findBest_29 : decode cX3_findBest 29 = .ok (.iconst 0, 1) := by decide +kernel
theorem dX3_findBest_30 : decode cX3_findBest 30 = .ok (.invokestatic 54, 3) := by decide +kernel
theorem dX3_findBest_33 : decode cX3_findBest 33 = .ok (.aload_n 0, 1) := by decide +kernel
theorem dX3_findBest_34 : decode cX3_findBest 34 = .ok (.iconst 0, 1) := by decide +kernel
theorem dX3_findBest_35 : decode cX3_findBest 35 = .ok (.iconst 0, 1) := by decide +kernel
theorem dX3_findBest_36 : decode cX3_findBest 36 = .ok (.invokevirtual 90, 3) := by decide +kernel
theorem dX3_findBest_39 : decode cX3_findBest 39 = .ok (.return_, 1) := by decide +kernel
theorem dX3_pickFrom_0 : decode cX3_pickFrom 0 = .ok (.iload_n 1, 1) := by decide +kernel
theorem dX3_pickFrom_1 : decode cX3_pickFrom 1 = .ok (.iconst 5, 1) := by decide +kernel
theorem dX3_pickFrom_2 : decode cX3_pickFrom 2 = .ok (.if_icmp .lt 9, 3) := by decide +kernel
theorem dX3_pickFrom_5 : decode cX3_pickFrom 5 = .ok (.aload_n 0, 1) := by decide +kernel
theorem dX3_pickFrom_6 : decode cX3_pickFrom 6 = .ok (.iload_n 2, 1) := by decide +kernel
theorem dX3_pickFrom_7 : decode cX3_pickFrom 7 = .ok (.invokevirtual 94, 3) := by decide +kernel
theorem dX3_pickFrom_10 : decode cX3_pickFrom 10 = .ok (.return_, 1) := by decide +kernel
theorem dX3_pickFrom_11 : decode cX3_pickFrom 11 = .ok (.iconst 0, 1) := by decide +kernel
theorem dX3_pickFrom_12 : decode cX3_pickFrom 12 = .ok (.istore_n 3, 1) := by decide +kernel
theorem dX3_pickFrom_13 : decode cX3_pickFrom 13 = .ok (.iload_n 3, 1) := by decide +kernel
theorem dX3_pickFrom_14 : decode cX3_pickFrom 14 = .ok (.aload_n 0, 1) := by decide +kernel
theorem dX3_pickFrom_15 : decode cX3_pickFrom 15 = .ok (.getfield 36, 3) := by decide +kernel
theorem dX3_pickFrom_18 : decode cX3_pickFrom 18 = .ok (.if_icmp .ge 97, 3) := by decide +kernel
theorem dX3_pickFrom_21 : decode cX3_pickFrom 21 = .ok (.aload_n 0, 1) := by decide +kernel
theorem dX3_pickFrom_22 : decode cX3_pickFrom 22 = .ok (.getfield 87, 3) := by decide +kernel
theorem dX3_pickFrom_25 : decode cX3_pickFrom 25 = .ok (.ifCond .ne 90, 3) := by decide +kernel
theorem dX3_pickFrom_28 : decode cX3_pickFrom 28 = .ok (.aload_n 0, 1) := by decide +kernel
theorem dX3_pickFrom_29 : decode cX3_pickFrom 29 = .ok (.getfield 15, 3) := by decide +kernel
theorem dX3_pickFrom_32 : decode cX3_pickFrom 32 = .ok (.iload_n 3, 1) := by decide +kernel
theorem dX3_pickFrom_33 : decode cX3_pickFrom 33 = .ok (.iaload, 1) := by decide +kernel
theorem dX3_pickFrom_34 : decode cX3_pickFrom 34 = .ok (.aload_n 0, 1) := by decide +kernel
theorem dX3_pickFrom_35 : decode cX3_pickFrom 35 = .ok (.getfield 21, 3) := by decide +kernel
theorem dX3_pickFrom_38 : decode cX3_pickFrom 38 = .ok (.iload_n 1, 1) := by decide +kernel
theorem dX3_pickFrom_39 : decode cX3_pickFrom 39 = .ok (.iaload, 1) := by decide +kernel
theorem dX3_pickFrom_40 : decode cX3_pickFrom 40 = .ok (.iadd, 1) := by decide +kernel
theorem dX3_pickFrom_41 : decode cX3_pickFrom 41 = .ok (.aload_n 0, 1) := by decide +kernel
theorem dX3_pickFrom_42 : decode cX3_pickFrom 42 = .ok (.getfield 9, 3) := by decide +kernel
theorem dX3_pickFrom_45 : decode cX3_pickFrom 45 = .ok (.iload_n 3, 1) := by decide +kernel
theorem dX3_pickFrom_46 : decode cX3_pickFrom 46 = .ok (.iaload, 1) := by decide +kernel
theorem dX3_pickFrom_47 : decode cX3_pickFrom 47 = .ok (.if_icmp .gt 62, 3) := by decide +kernel
theorem dX3_pickFrom_50 : decode cX3_pickFrom 50 = .ok (.aload_n 0, 1) := by decide +kernel
theorem dX3_pickFrom_51 : decode cX3_pickFrom 51 = .ok (.iload_n 1, 1) := by decide +kernel
theorem dX3_pickFrom_52 : decode cX3_pickFrom 52 = .ok (.iload_n 3, 1) := by decide +kernel
theorem dX3_pickFrom_53 : decode cX3_pickFrom 53 = .ok (.invokevirtual 98, 3) := by decide +kernel
theorem dX3_pickFrom_56 : decode cX3_pickFrom 56 = .ok (.ifCond .eq 53, 3) := by decide +kernel
theorem dX3_pickFrom_59 : decode cX3_pickFrom 59 = .ok (.aload_n 0, 1) := by decide +kernel
theorem dX3_pickFrom_60 : decode cX3_pickFrom 60 = .ok (.getfield 27, 3) := by decide +kernel
theorem dX3_pickFrom_63 : decode cX3_pickFrom 63 = .ok (.iload_n 1, 1) := by decide +kernel
theorem dX3_pickFrom_64 : decode cX3_pickFrom 64 = .ok (.iload_n 3, 1) := by decide +kernel
theorem dX3_pickFrom_65 : decode cX3_pickFrom 65 = .ok (.iastore, 1) := by decide +kernel
theorem dX3_pickFrom_66 : decode cX3_pickFrom 66 = .ok (.aload_n 0, 1) := by decide +kernel
theorem dX3_pickFrom_67 : decode cX3_pickFrom 67 = .ok (.getfield 15, 3) := by decide +kernel
theorem dX3_pickFrom_70 : decode cX3_pickFrom 70 = .ok (.iload_n 3, 1) := by decide +kernel
theorem dX3_pickFrom_71 : decode cX3_pickFrom 71 = .ok (.dup2, 1) := by decide +kernel
theorem dX3_pickFrom_72 : decode cX3_pickFrom 72 = .ok (.iaload, 1) := by decide +kernel
theorem dX3_pickFrom_73 : decode cX3_pickFrom 73 = .ok (.aload_n 0, 1) := by decide +kernel
theorem dX3_pickFrom_74 : decode cX3_pickFrom 74 = .ok (.getfield 21, 3) := by decide +kernel
theorem dX3_pickFrom_77 : decode cX3_pickFrom 77 = .ok (.iload_n 1, 1) := by decide +kernel
theorem dX3_pickFrom_78 : decode cX3_pickFrom 78 = .ok (.iaload, 1) := by decide +kernel
theorem dX3_pickFrom_79 : decode cX3_pickFrom 79 = .ok (.iadd, 1) := by decide +kernel
theorem dX3_pickFrom_80 : decode cX3_pickFrom 80 = .ok (.iastore, 1) := by decide +kernel
theorem dX3_pickFrom_81 : decode cX3_pickFrom 81 = .ok (.aload_n 0, 1) := by decide +kernel
theorem dX3_pickFrom_82 : decode cX3_pickFrom 82 = .ok (.iload_n 1, 1) := by decide +kernel
theorem dX3_pickFrom_83 : decode cX3_pickFrom 83 = .ok (.iconst 1, 1) := by decide +kernel
theorem dX3_pickFrom_84 : decode cX3_pickFrom 84 = .ok (.iadd, 1) := by decide +kernel
theorem dX3_pickFrom_85 : decode cX3_pickFrom 85 = .ok (.iload_n 2, 1) := by decide +kernel
theorem dX3_pickFrom_86 : decode cX3_pickFrom 86 = .ok (.bipush 6, 2) := by decide +kernel
theorem dX3_pickFrom_88 : decode cX3_pickFrom 88 = .ok (.imul, 1) := by decide +kernel
theorem dX3_pickFrom_89 : decode cX3_pickFrom 89 = .ok (.iload_n 3, 1) := by decide +kernel
theorem dX3_pickFrom_90 : decode cX3_pickFrom 90 = .ok (.iadd, 1) := by decide +kernel
theorem dX3_pickFrom_91 : decode cX3_pickFrom 91 = .ok (.invokevirtual 90, 3) := by decide +kernel
theorem dX3_pickFrom_94 : decode cX3_pickFrom 94 = .ok (.aload_n 0, 1) := by decide +kernel
theorem dX3_pickFrom_95 : decode cX3_pickFrom 95 = .ok (.getfield 15, 3) := by decide +kernel
theorem dX3_pickFrom_98 : decode cX3_pickFrom 98 = .ok (.iload_n 3, 1) := by decide +kernel
theorem dX3_pickFrom_99 : decode cX3_pickFrom 99 = .ok (.dup2, 1) := by decide +kernel
theorem dX3_pickFrom_100 : decode cX3_pickFrom 100 = .ok (.iaload, 1) := by decide +kernel
theorem dX3_pickFrom_101 : decode cX3_pickFrom 101 = .ok (.aload_n 0, 1) := by decide +kernel
theorem dX3_pickFrom_102 : decode cX3_pickFrom 102 = .ok (.getfield 21, 3) := by decide +kernel
theorem dX3_pickFrom_105 : decode cX3_pickFrom 105 = .ok (.iload_n 1, 1) := by decide +kernel
theorem dX3_pickFrom_106 : decode cX3_pickFrom 106 = .ok (.iaload, 1) := by decide +kernel
theorem dX3_pickFrom_107 : decode cX3_pickFrom 107 = .ok (.isub, 1) := by decide +kernel
theorem dX3_pickFrom_108 : decode cX3_pickFrom 108 = .ok (.iastore, 1) := by decide +kernel
theorem dX3_pickFrom_109 : decode cX3_pickFrom 109 = .ok (.iinc 3 1, 3) := by decide +kernel
theorem dX3_pickFrom_112 : decode cX3_pickFrom 112 = .ok (.goto (-99), 3) := by decide +kernel
theorem dX3_pickFrom_115 : decode cX3_pickFrom 115 = .ok (.return_, 1) := by decide +kernel
theorem dX3_fitsBelow_0 : decode cX3_fitsBelow 0 = .ok (.iconst 0, 1) := by decide +kernel
theorem dX3_fitsBelow_1 : decode cX3_fitsBelow 1 = .ok (.istore_n 3, 1) := by decide +kernel
theorem dX3_fitsBelow_2 : decode cX3_fitsBelow 2 = .ok (.iload_n 3, 1) := by decide +kernel
theorem dX3_fitsBelow_3 : decode cX3_fitsBelow 3 = .ok (.bipush 6, 2) := by decide +kernel
theorem dX3_fitsBelow_5 : decode cX3_fitsBelow 5 = .ok (.if_icmp .ge 39, 3) := by decide +kernel
theorem dX3_fitsBelow_8 : decode cX3_fitsBelow 8 = .ok (.getstatic 67, 3) := by decide +kernel
theorem dX3_fitsBelow_11 : decode cX3_fitsBelow 11 = .ok (.iload_n 3, 1) := by decide +kernel
theorem dX3_fitsBelow_12 : decode cX3_fitsBelow 12 = .ok (.iaload, 1) := by decide +kernel
theorem dX3_fitsBelow_13 : decode cX3_fitsBelow 13 = .ok (.iload_n 1, 1) := by decide +kernel
theorem dX3_fitsBelow_14 : decode cX3_fitsBelow 14 = .ok (.if_icmp .ne 24, 3) := by decide +kernel
theorem dX3_fitsBelow_17 : decode cX3_fitsBelow 17 = .ok (.aload_n 0, 1) := by decide +kernel
theorem dX3_fitsBelow_18 : decode cX3_fitsBelow 18 = .ok (.iload_n 3, 1) := by decide +kernel
theorem dX3_fitsBelow_19 : decode cX3_fitsBelow 19 = .ok (.aload_n 0, 1) := by decide +kernel
theorem dX3_fitsBelow_20 : decode cX3_fitsBelow 20 = .ok (.getfield 27, 3) := by decide +kernel
theorem dX3_fitsBelow_23 : decode cX3_fitsBelow 23 = .ok (.getstatic 64, 3) := by decide +kernel
theorem dX3_fitsBelow_26 : decode cX3_fitsBelow 26 = .ok (.iload_n 3, 1) := by decide +kernel
theorem dX3_fitsBelow_27 : decode cX3_fitsBelow 27 = .ok (.iaload, 1) := by decide +kernel
theorem dX3_fitsBelow_28 : decode cX3_fitsBelow 28 = .ok (.iaload, 1) := by decide +kernel
theorem dX3_fitsBelow_29 : decode cX3_fitsBelow 29 = .ok (.iload_n 2, 1) := by decide +kernel
theorem dX3_fitsBelow_30 : decode cX3_fitsBelow 30 = .ok (.invokevirtual 70, 3) := by decide +kernel
theorem dX3_fitsBelow_33 : decode cX3_fitsBelow 33 = .ok (.ifCond .ne 5, 3) := by decide +kernel
theorem dX3_fitsBelow_36 : decode cX3_fitsBelow 36 = .ok (.iconst 0, 1) := by decide +kernel
theorem dX3_fitsBelow_37 : decode cX3_fitsBelow 37 = .ok (.ireturn, 1) := by decide +kernel
theorem dX3_fitsBelow_38 : decode cX3_fitsBelow 38 = .ok (.iinc 3 1, 3) := by decide +kernel
theorem dX3_fitsBelow_41 : decode cX3_fitsBelow 41 = .ok (.goto (-39), 3) := by decide +kernel
theorem dX3_fitsBelow_44 : decode cX3_fitsBelow 44 = .ok (.iconst 1, 1) := by decide +kernel
theorem dX3_fitsBelow_45 : decode cX3_fitsBelow 45 = .ok (.ireturn, 1) := by decide +kernel
theorem dX3_weigh_0 : decode cX3_weigh 0 = .ok (.iconst 0, 1) := by decide +kernel
theorem dX3_weigh_1 : decode cX3_weigh 1 = .ok (.istore_n 2, 1) := by decide +kernel
theorem dX3_weigh_2 : decode cX3_weigh 2 = .ok (.iconst 0, 1) := by decide +kernel
theorem dX3_weigh_3 : decode cX3_weigh 3 = .ok (.istore_n 3, 1) := by decide +kernel
theorem dX3_weigh_4 : decode cX3_weigh 4 = .ok (.iload_n 3, 1) := by decide +kernel
theorem dX3_weigh_5 : decode cX3_weigh 5 = .ok (.aload_n 0, 1) := by decide +kernel
theorem dX3_weigh_6 : decode cX3_weigh 6 = .ok (.getfield 36, 3) := by decide +kernel
theorem dX3_weigh_9 : decode cX3_weigh 9 = .ok (.if_icmp .ge 44, 3) := by decide +kernel
theorem dX3_weigh_12 : decode cX3_weigh 12 = .ok (.aload_n 0, 1) := by decide +kernel
theorem dX3_weigh_13 : decode cX3_weigh 13 = .ok (.getfield 9, 3) := by decide +kernel
theorem dX3_weigh_16 : decode cX3_weigh 16 = .ok (.iload_n 3, 1) := by decide +kernel
theorem dX3_weigh_17 : decode cX3_weigh 17 = .ok (.iaload, 1) := by decide +kernel
theorem dX3_weigh_18 : decode cX3_weigh 18 = .ok (.aload_n 0, 1) := by decide +kernel
theorem dX3_weigh_19 : decode cX3_weigh 19 = .ok (.getfield 15, 3) := by decide +kernel
theorem dX3_weigh_22 : decode cX3_weigh 22 = .ok (.iload_n 3, 1) := by decide +kernel
theorem dX3_weigh_23 : decode cX3_weigh 23 = .ok (.iaload, 1) := by decide +kernel
theorem dX3_weigh_24 : decode cX3_weigh 24 = .ok (.isub, 1) := by decide +kernel
theorem dX3_weigh_25 : decode cX3_weigh 25 = .ok (.istore 4, 2) := by decide +kernel
theorem dX3_weigh_27 : decode cX3_weigh 27 = .ok (.aload_n 0, 1) := by decide +kernel
theorem dX3_weigh_28 : decode cX3_weigh 28 = .ok (.getfield 15, 3) := by decide +kernel
theorem dX3_weigh_31 : decode cX3_weigh 31 = .ok (.iload_n 3, 1) := by decide +kernel
theorem dX3_weigh_32 : decode cX3_weigh 32 = .ok (.iaload, 1) := by decide +kernel
theorem dX3_weigh_33 : decode cX3_weigh 33 = .ok (.ifCond .le 14, 3) := by decide +kernel
theorem dX3_weigh_36 : decode cX3_weigh 36 = .ok (.iload 4, 2) := by decide +kernel
theorem dX3_weigh_38 : decode cX3_weigh 38 = .ok (.iconst 2, 1) := by decide +kernel
theorem dX3_weigh_39 : decode cX3_weigh 39 = .ok (.if_icmp .gt 8, 3) := by decide +kernel
theorem dX3_weigh_42 : decode cX3_weigh 42 = .ok (.iload_n 2, 1) := by decide +kernel
theorem dX3_weigh_43 : decode cX3_weigh 43 = .ok (.iload 4, 2) := by decide +kernel
theorem dX3_weigh_45 : decode cX3_weigh 45 = .ok (.iadd, 1) := by decide +kernel
theorem dX3_weigh_46 : decode cX3_weigh 46 = .ok (.istore_n 2, 1) := by decide +kernel
theorem dX3_weigh_47 : decode cX3_weigh 47 = .ok (.iinc 3 1, 3) := by decide +kernel
theorem dX3_weigh_50 : decode cX3_weigh 50 = .ok (.goto (-46), 3) := by decide +kernel
theorem dX3_weigh_53 : decode cX3_weigh 53 = .ok (.aload_n 0, 1) := by decide +kernel
theorem dX3_weigh_54 : decode cX3_weigh 54 = .ok (.dup, 1) := by decide +kernel
theorem dX3_weigh_55 : decode cX3_weigh 55 = .ok (.getfield 80, 3) := by decide +kernel
theorem dX3_weigh_58 : decode cX3_weigh 58 = .ok (.iconst 1, 1) := by decide +kernel
theorem dX3_weigh_59 : decode cX3_weigh 59 = .ok (.iadd, 1) := by decide +kernel
theorem dX3_weigh_60 : decode cX3_weigh 60 = .ok (.putfield 80, 3) := by decide +kernel
theorem dX3_weigh_63 : decode cX3_weigh 63 = .ok (.aload_n 0, 1) := by decide +kernel
theorem dX3_weigh_64 : decode cX3_weigh 64 = .ok (.getfield 74, 3) := by decide +kernel
theorem dX3_weigh_67 : decode cX3_weigh 67 = .ok (.iconst (-1), 1) := by decide +kernel
theorem dX3_weigh_68 : decode cX3_weigh 68 = .ok (.if_icmp .eq 11, 3) := by decide +kernel
theorem dX3_weigh_71 : decode cX3_weigh 71 = .ok (.iload_n 2, 1) := by decide +kernel
theorem dX3_weigh_72 : decode cX3_weigh 72 = .ok (.aload_n 0, 1) := by decide +kernel
theorem dX3_weigh_73 : decode cX3_weigh 73 = .ok (.getfield 77, 3) := by decide +kernel
theorem dX3_weigh_76 : decode cX3_weigh 76 = .ok (.if_icmp .ge 13, 3) := by decide +kernel
theorem dX3_weigh_79 : decode cX3_weigh 79 = .ok (.aload_n 0, 1) := by decide +kernel
theorem dX3_weigh_80 : decode cX3_weigh 80 = .ok (.iload_n 1, 1) := by decide +kernel
theorem dX3_weigh_81 : decode cX3_weigh 81 = .ok (.putfield 74, 3) := by decide +kernel
theorem dX3_weigh_84 : decode cX3_weigh 84 = .ok (.aload_n 0, 1) := by decide +kernel
theorem dX3_weigh_85 : decode cX3_weigh 85 = .ok (.iload_n 2, 1) := by decide +kernel
theorem dX3_weigh_86 : decode cX3_weigh 86 = .ok (.putfield 77, 3) := by decide +kernel
theorem dX3_weigh_89 : decode cX3_weigh 89 = .ok (.aload_n 0, 1) := by decide +kernel
theorem dX3_weigh_90 : decode cX3_weigh 90 = .ok (.aload_n 0, 1) := by decide +kernel
theorem dX3_weigh_91 : decode cX3_weigh 91 = .ok (.getfield 77, 3) := by decide +kernel
theorem dX3_weigh_94 : decode cX3_weigh 94 = .ok (.ifCond .ne 14, 3) := by decide +kernel
theorem dX3_weigh_97 : decode cX3_weigh 97 = .ok (.aload_n 0, 1) := by decide +kernel
theorem dX3_weigh_98 : decode cX3_weigh 98 = .ok (.getfield 83, 3) := by decide +kernel
theorem dX3_weigh_101 : decode cX3_weigh 101 = .ok (.ifCond .ne 7, 3) := by decide +kernel
theorem dX3_weigh_104 : decode cX3_weigh 104 = .ok (.iconst 1, 1) := by decide +kernel
theorem dX3_weigh_105 : decode cX3_weigh 105 = .ok (.goto 4, 3) := by decide +kernel
theorem dX3_weigh_108 : decode cX3_weigh 108 = .ok (.iconst 0, 1) := by decide +kernel
theorem dX3_weigh_109 : decode cX3_weigh 109 = .ok (.putfield 87, 3) := by decide +kernel
theorem dX3_weigh_112 : decode cX3_weigh 112 = .ok (.return_, 1) := by decide +kernel
theorem dX4_init_0 : decode cX4_init 0 = .ok (.aload_n 0, 1) := by decide +kernel
theorem dX4_init_1 : decode cX4_init 1 = .ok (.iload_n 1, 1) := by decide +kernel
theorem dX4_init_2 : decode cX4_init 2 = .ok (.iload_n 2, 1) := by decide +kernel
theorem dX4_init_3 : decode cX4_init 3 = .ok (.iload_n 3, 1) := by decide +kernel
theorem dX4_init_4 : decode cX4_init 4 = .ok (.iload 4, 2) := by decide +kernel
theorem dX4_init_6 : decode cX4_init 6 = .ok (.invokespecial 1, 3) := by decide +kernel
theorem dX4_init_9 : decode cX4_init 9 = .ok (.return_, 1) := by decide +kernel
theorem dX4_takes_0 : decode cX4_takes 0 = .ok (.aload_n 0, 1) := by decide +kernel
theorem dX4_takes_1 : decode cX4_takes 1 = .ok (.iload_n 1, 1) := by decide +kernel
theorem dX4_takes_2 : decode cX4_takes 2 = .ok (.invokespecial 7, 3) := by decide +kernel
theorem dX4_takes_5 : decode cX4_takes 5 = .ok (.iconst 1, 1) := by decide +kernel
theorem dX4_takes_6 : decode cX4_takes 6 = .ok (.iadd, 1) := by decide +kernel
theorem dX4_takes_7 : decode cX4_takes 7 = .ok (.ireturn, 1) := by decide +kernel
theorem dX4_bears_0 : decode cX4_bears 0 = .ok (.aload_n 0, 1) := by decide +kernel
theorem dX4_bears_1 : decode cX4_bears 1 = .ok (.iload_n 1, 1) := by decide +kernel
theorem dX4_bears_2 : decode cX4_bears 2 = .ok (.invokespecial 11, 3) := by decide +kernel
theorem dX4_bears_5 : decode cX4_bears 5 = .ok (.iconst 1, 1) := by decide +kernel
theorem dX4_bears_6 : decode cX4_bears 6 = .ok (.isub, 1) := by decide +kernel
theorem dX4_bears_7 : decode cX4_bears 7 = .ok (.iconst 0, 1) := by decide +kernel
theorem dX4_bears_8 : decode cX4_bears 8 = .ok (.invokestatic 14, 3) := by decide +kernel
theorem dX4_bears_11 : decode cX4_bears 11 = .ok (.ireturn, 1) := by decide +kernel
theorem dX4_brings_0 : decode cX4_brings 0 = .ok (.aload_n 0, 1) := by decide +kernel
theorem dX4_brings_1 : decode cX4_brings 1 = .ok (.invokespecial 20, 3) := by decide +kernel
theorem dX4_brings_4 : decode cX4_brings 4 = .ok (.aload_n 0, 1) := by decide +kernel
theorem dX4_brings_5 : decode cX4_brings 5 = .ok (.getfield 24, 3) := by decide +kernel
theorem dX4_brings_8 : decode cX4_brings 8 = .ok (.iadd, 1) := by decide +kernel
theorem dX4_brings_9 : decode cX4_brings 9 = .ok (.ireturn, 1) := by decide +kernel
theorem dX5_init_0 : decode cX5_init 0 = .ok (.aload_n 0, 1) := by decide +kernel
theorem dX5_init_1 : decode cX5_init 1 = .ok (.invokespecial 3, 3) := by decide +kernel
theorem dX5_init_4 : decode cX5_init 4 = .ok (.aload_n 0, 1) := by decide +kernel
theorem dX5_init_5 : decode cX5_init 5 = .ok (.new 9, 3) := by decide +kernel
theorem dX5_init_8 : decode cX5_init 8 = .ok (.dup, 1) := by decide +kernel
theorem dX5_init_9 : decode cX5_init 9 = .ok (.invokespecial 11, 3) := by decide +kernel
theorem dX5_init_12 : decode cX5_init 12 = .ok (.putfield 12, 3) := by decide +kernel
theorem dX5_init_15 : decode cX5_init 15 = .ok (.aload_n 0, 1) := by decide +kernel
theorem dX5_init_16 : decode cX5_init 16 = .ok (.iconst 3, 1) := by decide +kernel
theorem dX5_init_17 : decode cX5_init 17 = .ok (.anewarray 18, 3) := by decide +kernel
theorem dX5_init_20 : decode cX5_init 20 = .ok (.putfield 20, 3) := by decide +kernel
theorem dX5_init_23 : decode cX5_init 23 = .ok (.aload_n 0, 1) := by decide +kernel
theorem dX5_init_24 : decode cX5_init 24 = .ok (.iconst 4, 1) := by decide +kernel
theorem dX5_init_25 : decode cX5_init 25 = .ok (.bipush 6, 2) := by decide +kernel
theorem dX5_init_27 : decode cX5_init 27 = .ok (.multianewarray 24 2, 4) := by decide +kernel
theorem dX5_init_31 : decode cX5_init 31 = .ok (.putfield 26, 3) := by decide +kernel
theorem dX5_init_34 : decode cX5_init 34 = .ok (.return_, 1) := by decide +kernel
theorem dX5_plan_0 : decode cX5_plan 0 = .ok (.aload_n 0, 1) := by decide +kernel
theorem dX5_plan_1 : decode cX5_plan 1 = .ok (.aload_n 1, 1) := by decide +kernel
theorem dX5_plan_2 : decode cX5_plan 2 = .ok (.invokevirtual 29, 3) := by decide +kernel
theorem dX5_plan_5 : decode cX5_plan 5 = .ok (.aload_n 0, 1) := by decide +kernel
theorem dX5_plan_6 : decode cX5_plan 6 = .ok (.iconst 0, 1) := by decide +kernel
theorem dX5_plan_7 : decode cX5_plan 7 = .ok (.putfield 33, 3) := by decide +kernel
theorem dX5_plan_10 : decode cX5_plan 10 = .ok (.aload_n 0, 1) := by decide +kernel
theorem dX5_plan_11 : decode cX5_plan 11 = .ok (.iconst 0, 1) := by decide +kernel
theorem dX5_plan_12 : decode cX5_plan 12 = .ok (.putfield 37, 3) := by decide +kernel
theorem dX5_plan_15 : decode cX5_plan 15 = .ok (.aload_n 0, 1) := by decide +kernel
theorem dX5_plan_16 : decode cX5_plan 16 = .ok (.iconst 0, 1) := by decide +kernel
theorem dX5_plan_17 : decode cX5_plan 17 = .ok (.putfield 40, 3) := by decide +kernel
theorem dX5_plan_20 : decode cX5_plan 20 = .ok (.aload_n 3, 1) := by decide +kernel
theorem dX5_plan_21 : decode cX5_plan 21 = .ok (.getfield 43, 3) := by decide +kernel
theorem dX5_plan_24 : decode cX5_plan 24 = .ok (.iconst 0, 1) := by decide +kernel
theorem dX5_plan_25 : decode cX5_plan 25 = .ok (.aload_n 0, 1) := by decide +kernel
theorem dX5_plan_26 : decode cX5_plan 26 = .ok (.getfield 26, 3) := by decide +kernel
theorem dX5_plan_29 : decode cX5_plan 29 = .ok (.iconst 0, 1) := by decide +kernel
theorem dX5_plan_30 : decode cX5_plan 30 = .ok (.aaload, 1) := by decide +kernel
theorem dX5_plan_31 : decode cX5_plan 31 = .ok (.iconst 0, 1) := by decide +kernel
theorem dX5_plan_32 : decode cX5_plan 32 = .ok (.bipush 6, 2) := by decide +kernel
theorem dX5_plan_34 : decode cX5_plan 34 = .ok (.invokestatic 48, 3) := by decide +kernel
theorem dX5_plan_37 : decode cX5_plan 37 = .ok (.aload_n 3, 1) := by decide +kernel
theorem dX5_plan_38 : decode cX5_plan 38 = .ok (.iload 4, 2) := by decide +kernel
theorem dX5_plan_40 : decode cX5_plan 40 = .ok (.invokevirtual 54, 3) := by decide +kernel
theorem dX5_plan_43 : decode cX5_plan 43 = .ok (.ifCond .eq 17, 3) := by decide +kernel
theorem dX5_plan_46 : decode cX5_plan 46 = .ok (.aload_n 0, 1) := by decide +kernel
theorem dX5_plan_47 : decode cX5_plan 47 = .ok (.getfield 26, 3) := by decide +kernel
theorem dX5_plan_50 : decode cX5_plan 50 = .ok (.iconst 0, 1) := by decide +kernel
theorem dX5_plan_51 : decode cX5_plan 51 = .ok (.aaload, 1) := by decide +kernel
theorem dX5_plan_52 : decode cX5_plan 52 = .ok (.iload 4, 2) := by decide +kernel
theorem dX5_plan_54 : decode cX5_plan 54 = .ok (.dup2, 1) := by decide +kernel
theorem dX5_plan_55 : decode cX5_plan 55 = .ok (.iaload, 1) := by decide +kernel
theorem dX5_plan_56 : decode cX5_plan 56 = .ok (.iload 5, 2) := by decide +kernel
theorem dX5_plan_58 : decode cX5_plan 58 = .ok (.iadd, 1) := by decide +kernel
theorem dX5_plan_59 : decode cX5_plan 59 = .ok (.iastore, 1) := by decide +kernel
theorem dX5_plan_60 : decode cX5_plan 60 = .ok (.aload_n 0, 1) := by decide +kernel
theorem dX5_plan_61 : decode cX5_plan 61 = .ok (.aload_n 2, 1) := by decide +kernel
theorem dX5_plan_62 : decode cX5_plan 62 = .ok (.aload_n 3, 1) := by decide +kernel
theorem dX5_plan_63 : decode cX5_plan 63 = .ok (.iconst 0, 1) := by decide +kernel
theorem dX5_plan_64 : decode cX5_plan 64 = .ok (.iconst 0, 1) := by decide +kernel
theorem dX5_plan_65 : decode cX5_plan 65 = .ok (.iconst 0, 1) := by decide +kernel
theorem dX5_plan_66 : decode cX5_plan 66 = .ok (.iconst 0, 1) := by decide +kernel
theorem dX5_plan_67 : decode cX5_plan 67 = .ok (.invokevirtual 58, 3) := by decide +kernel
theorem dX5_plan_70 : decode cX5_plan 70 = .ok (.return_, 1) := by decide +kernel
theorem dX5_bound_0 : decode cX5_bound 0 = .ok (.aload_n 0, 1) := by decide +kernel
theorem dX5_bound_1 : decode cX5_bound 1 = .ok (.aload_n 1, 1) := by decide +kernel
theorem dX5_bound_2 : decode cX5_bound 2 = .ok (.invokevirtual 29, 3) := by decide +kernel
theorem dX5_bound_5 : decode cX5_bound 5 = .ok (.iconst 0, 1) := by decide +kernel
theorem dX5_bound_6 : decode cX5_bound 6 = .ok (.istore_n 3, 1) := by decide +kernel
theorem dX5_bound_7 : decode cX5_bound 7 = .ok (.aload_n 0, 1) := by decide +kernel
theorem dX5_bound_8 : decode cX5_bound 8 = .ok (.getfield 20, 3) := by decide +kernel
theorem dX5_bound_11 : decode cX5_bound 11 = .ok (.astore 4, 2) := by decide +kernel
theorem dX5_bound_13 : decode cX5_bound 13 = .ok (.aload 4, 2) := by decide +kernel
theorem dX5_bound_15 : decode cX5_bound 15 = .ok (.arraylength, 1) := by decide +kernel
theorem dX5_bound_16 : decode cX5_bound 16 = .ok (.istore 5, 2) := by decide +kernel
theorem dX5_bound_18 : decode cX5_bound 18 = .ok (.iconst 0, 1) := by decide +kernel
theorem dX5_bound_19 : decode cX5_bound 19 = .ok (.istore 6, 2) := by decide +kernel
theorem dX5_bound_21 : decode cX5_bound 21 = .ok (.iload 6, 2) := by decide +kernel
theorem dX5_bound_23 : decode cX5_bound 23 = .ok (.iload 5, 2) := by decide +kernel
theorem dX5_bound_25 : decode cX5_bound 25 = .ok (.if_icmp .ge 46, 3) := by decide +kernel
theorem dX5_bound_28 : decode cX5_bound 28 = .ok (.aload 4, 2) := by decide +kernel
theorem dX5_bound_30 : decode cX5_bound 30 = .ok (.iload 6, 2) := by decide +kernel
theorem dX5_bound_32 : decode cX5_bound 32 = .ok (.aaload, 1) := by decide +kernel
theorem dX5_bound_33 : decode cX5_bound 33 = .ok (.astore 7, 2) := by decide +kernel
theorem dX5_bound_35 : decode cX5_bound 35 = .ok (.aload 7, 2) := by decide +kernel
theorem dX5_bound_37 : decode cX5_bound 37 = .ok (.ifnull 28, 3) := by decide +kernel
theorem dX5_bound_40 : decode cX5_bound 40 = .ok (.aload 7, 2) := by decide +kernel
theorem dX5_bound_42 : decode cX5_bound 42 = .ok (.invokevirtual 62, 3) := by decide +kernel
theorem dX5_bound_45 : decode cX5_bound 45 = .ok (.ifCond .le 20, 3) := by decide +kernel
theorem dX5_bound_48 : decode cX5_bound 48 = .ok (.aload 7, 2) := by decide +kernel
theorem dX5_bound_50 : decode cX5_bound 50 = .ok (.invokevirtual 66, 3) := by decide +kernel
theorem dX5_bound_53 : decode cX5_bound 53 = .ok (.iload_n 2, 1) := by decide +kernel
theorem dX5_bound_54 : decode cX5_bound 54 = .ok (.if_icmp .gt 11, 3) := by decide +kernel
theorem dX5_bound_57 : decode cX5_bound 57 = .ok (.iload_n 3, 1) := by decide +kernel
theorem dX5_bound_58 : decode cX5_bound 58 = .ok (.aload 7, 2) := by decide +kernel
theorem dX5_bound_60 : decode cX5_bound 60 = .ok (.invokevirtual 62, 3) := by decide +kernel
theorem dX5_bound_63 : decode cX5_bound 63 = .ok (.iadd, 1) := by decide +kernel
theorem dX5_bound_64 : decode cX5_bound 64 = .ok (.istore_n 3, 1) := by decide +kernel
theorem dX5_bound_65 : decode cX5_bound 65 = .ok (.iinc 6 1, 3) := by decide +kernel
theorem dX5_bound_68 : decode cX5_bound 68 = .ok (.goto (-47), 3) := by decide +kernel
theorem dX5_bound_71 : decode cX5_bound 71 = .ok (.iload_n 3, 1) := by decide +kernel
theorem dX5_bound_72 : decode cX5_bound 72 = .ok (.ireturn, 1) := by decide +kernel
theorem dX5_keepOpen_0 : decode cX5_keepOpen 0 = .ok (.iconst 0, 1) := by decide +kernel
theorem dX5_keepOpen_1 : decode cX5_keepOpen 1 = .ok (.istore_n 2, 1) := by decide +kernel
theorem dX5_keepOpen_2 : decode cX5_keepOpen 2 = .ok (.iload_n 2, 1) := by decide +kernel
theorem dX5_keepOpen_3 : decode cX5_keepOpen 3 = .ok (.iconst 3, 1) := by decide +kernel
theorem dX5_keepOpen_4 : decode cX5_keepOpen 4 = .ok (.if_icmp .ge 45, 3) := by decide +kernel
theorem dX5_keepOpen_7 : decode cX5_keepOpen 7 = .ok (.iload_n 2, 1) := by decide +kernel
theorem dX5_keepOpen_8 : decode cX5_keepOpen 8 = .ok (.aload_n 1, 1) := by decide +kernel
theorem dX5_keepOpen_9 : decode cX5_keepOpen 9 = .ok (.arraylength, 1) := by decide +kernel
theorem dX5_keepOpen_10 : decode cX5_keepOpen 10 = .ok (.if_icmp .ge 9, 3) := by decide +kernel
theorem dX5_keepOpen_13 : decode cX5_keepOpen 13 = .ok (.aload_n 1, 1) := by decide +kernel
theorem dX5_keepOpen_14 : decode cX5_keepOpen 14 = .ok (.iload_n 2, 1) := by decide +kernel
theorem dX5_keepOpen_15 : decode cX5_keepOpen 15 = .ok (.aaload, 1) := by decide +kernel
theorem dX5_keepOpen_16 : decode cX5_keepOpen 16 = .ok (.goto 4, 3) := by decide +kernel
theorem dX5_keepOpen_19 : decode cX5_keepOpen 19 = .ok (.aconst_null, 1) := by decide +kernel
theorem dX5_keepOpen_20 : decode cX5_keepOpen 20 = .ok (.astore_n 3, 1) := by decide +kernel
theorem dX5_keepOpen_21 : decode cX5_keepOpen 21 = .ok (.aload_n 0, 1) := by decide +kernel
theorem dX5_keepOpen_22 : decode cX5_keepOpen 22 = .ok (.getfield 20, 3) := by decide +kernel
theorem dX5_keepOpen_25 : decode cX5_keepOpen 25 = .ok (.iload_n 2, 1) := by decide +kernel
theorem dX5_keepOpen_26 : decode cX5_keepOpen 26 = .ok (.aload_n 3, 1) := by decide +kernel
theorem dX5_keepOpen_27 : decode cX5_keepOpen 27 = .ok (.ifnull 14, 3) := by decide +kernel
theorem dX5_keepOpen_30 : decode cX5_keepOpen 30 = .ok (.aload_n 3, 1) := by decide +kernel
theorem dX5_keepOpen_31 : decode cX5_keepOpen 31 = .ok (.getfield 69, 3) := by decide +kernel
theorem dX5_keepOpen_34 : decode cX5_keepOpen 34 = .ok (.ifCond .ne 7, 3) := by decide +kernel
theorem dX5_keepOpen_37 : decode cX5_keepOpen 37 = .ok (.aload_n 3, 1) := by decide +kernel
theorem dX5_keepOpen_38 : decode cX5_keepOpen 38 = .ok (.goto 4, 3) := by decide +kernel
theorem dX5_keepOpen_41 : decode cX5_keepOpen 41 = .ok (.aconst_null, 1) := by decide +kernel
theorem dX5_keepOpen_42 : decode cX5_keepOpen 42 = .ok (.aastore, 1) := by decide +kernel
theorem dX5_keepOpen_43 : decode cX5_keepOpen 43 = .ok (.iinc 2 1, 3) := by decide +kernel
theorem dX5_keepOpen_46 : decode cX5_keepOpen 46 = .ok (.goto (-44), 3) := by decide +kernel
theorem dX5_keepOpen_49 : decode cX5_keepOpen 49 = .ok (.return_, 1) := by decide +kernel
theorem dX5_goOn_0 : decode cX5_goOn 0 = .ok (.aload_n 0, 1) := by decide +kernel
theorem dX5_goOn_1 : decode cX5_goOn 1 = .ok (.iload_n 3, 1) := by decide +kernel
theorem dX5_goOn_2 : decode cX5_goOn 2 = .ok (.iload 5, 2) := by decide +kernel
theorem dX5_goOn_4 : decode cX5_goOn 4 = .ok (.iload 6, 2) := by decide +kernel
theorem dX5_goOn_6 : decode cX5_goOn 6 = .ok (.invokevirtual 73, 3) := by decide +kernel
theorem dX5_goOn_9 : decode cX5_goOn 9 = .ok (.ifCond .eq 20, 3) := by decide +kernel
theorem dX5_goOn_12 : decode cX5_goOn 12 = .ok (.aload_n 0, 1) := by decide +kernel
theorem dX5_goOn_13 : decode cX5_goOn 13 = .ok (.iload 6, 2) := by decide +kernel
theorem dX5_goOn_15 : decode cX5_goOn 15 = .ok (.putfield 33, 3) := by decide +kernel
theorem dX5_goOn_18 : decode cX5_goOn 18 = .ok (.aload_n 0, 1) := by decide +kernel
theorem dX5_goOn_19 : decode cX5_goOn 19 = .ok (.iload 5, 2) := by decide +kernel
theorem dX5_goOn_21 : decode cX5_goOn 21 = .ok (.putfield 37, 3) := by decide +kernel
theorem dX5_goOn_24 : decode cX5_goOn 24 = .ok (.aload_n 0, 1) := by decide +kernel
theorem dX5_goOn_25 : decode cX5_goOn 25 = .ok (.iload_n 3, 1) := by decide +kernel
theorem dX5_goOn_26 : decode cX5_goOn 26 = .ok (.putfield 40, 3) := by decide +kernel
theorem dX5_goOn_29 : decode cX5_goOn 29 = .ok (.iload_n 3, 1) := by decide +kernel
theorem dX5_goOn_30 : decode cX5_goOn 30 = .ok (.iconst 3, 1) := by decide +kernel
theorem dX5_goOn_31 : decode cX5_goOn 31 = .ok (.if_icmp .lt 4, 3) := by decide +kernel
theorem dX5_goOn_34 : decode cX5_goOn 34 = .ok (.return_, 1) := by decide +kernel
theorem dX5_goOn_35 : decode cX5_goOn 35 = .ok (.iconst 0, 1) := by decide +kernel
theorem dX5_goOn_36 : decode cX5_goOn 36 = .ok (.istore 7, 2) := by decide +kernel
theorem dX5_goOn_38 : decode cX5_goOn 38 = .ok (.iload 7, 2) := by decide +kernel
theorem dX5_goOn_40 : decode cX5_goOn 40 = .ok (.iconst 3, 1) := by decide +kernel
theorem dX5_goOn_41 : decode cX5_goOn 41 = .ok (.if_icmp .ge 149, 3) := by decide +kernel
theorem dX5_goOn_44 : decode cX5_goOn 44 = .ok (.aload_n 0, 1) := by decide +kernel
theorem dX5_goOn_45 : decode cX5_goOn 45 = .ok (.getfield 20, 3) := by decide +kernel
theorem dX5_goOn_48 : decode cX5_goOn 48 = .ok (.iload 7, 2) := by decide +kernel
theorem dX5_goOn_50 : decode cX5_goOn 50 = .ok (.aaload, 1) := by decide +kernel
theorem dX5_goOn_51 : decode cX5_goOn 51 = .ok (.astore 8, 2) := by decide +kernel
theorem dX5_goOn_53 : decode cX5_goOn 53 = .ok (.aload 8, 2) := by decide +kernel
theorem dX5_goOn_55 : decode cX5_goOn 55 = .ok (.ifnull 129, 3) := by decide +kernel
theorem dX5_goOn_58 : decode cX5_goOn 58 = .ok (.iload 4, 2) := by decide +kernel
theorem dX5_goOn_60 : decode cX5_goOn 60 = .ok (.iload 7, 2) := by decide +kernel
theorem dX5_goOn_62 : decode cX5_goOn 62 = .ok (.invokestatic 77, 3) := by decide +kernel
theorem dX5_goOn_65 : decode cX5_goOn 65 = .ok (.ifCond .eq 6, 3) := by decide +kernel
theorem dX5_goOn_68 : decode cX5_goOn 68 = .ok (.goto 116, 3) := by decide +kernel
theorem dX5_goOn_71 : decode cX5_goOn 71 = .ok (.aload_n 0, 1) := by decide +kernel
theorem dX5_goOn_72 : decode cX5_goOn 72 = .ok (.getfield 12, 3) := by decide +kernel
theorem dX5_goOn_75 : decode cX5_goOn 75 = .ok (.aload 8, 2) := by decide +kernel
theorem dX5_goOn_77 : decode cX5_goOn 77 = .ok (.aload_n 1, 1) := by decide +kernel
theorem dX5_goOn_78 : decode cX5_goOn 78 = .ok (.aload_n 2, 1) := by decide +kernel
theorem dX5_goOn_79 : decode cX5_goOn 79 = .ok (.aload_n 0, 1) := by decide +kernel
theorem dX5_goOn_80 : decode cX5_goOn 80 = .ok (.getfield 26, 3) := by decide +kernel
theorem dX5_goOn_83 : decode cX5_goOn 83 = .ok (.iload_n 3, 1) := by decide +kernel
theorem dX5_goOn_84 : decode cX5_goOn 84 = .ok (.aaload, 1) := by decide +kernel
theorem dX5_goOn_85 : decode cX5_goOn 85 = .ok (.invokevirtual 81, 3) := by decide +kernel
theorem dX5_goOn_88 : decode cX5_goOn 88 = .ok (.aload_n 0, 1) := by decide +kernel
theorem dX5_goOn_89 : decode cX5_goOn 89 = .ok (.getfield 12, 3) := by decide +kernel
theorem dX5_goOn_92 : decode cX5_goOn 92 = .ok (.iconst 0, 1) := by decide +kernel
theorem dX5_goOn_93 : decode cX5_goOn 93 = .ok (.invokevirtual 85, 3) := by decide +kernel
theorem dX5_goOn_96 : decode cX5_goOn 96 = .ok (.aload_n 0, 1) := by decide +kernel
theorem dX5_goOn_97 : decode cX5_goOn 97 = .ok (.getfield 12, 3) := by decide +kernel
theorem dX5_goOn_100 : decode cX5_goOn 100 = .ok (.getfield 89, 3) := by decide +kernel
theorem dX5_goOn_103 : decode cX5_goOn 103 = .ok (.iconst (-1), 1) := by decide +kernel
theorem dX5_goOn_104 : decode cX5_goOn 104 = .ok (.if_icmp .eq 80, 3) := by decide +kernel
theorem dX5_goOn_107 : decode cX5_goOn 107 = .ok (.aload_n 0, 1) := by decide +kernel
theorem dX5_goOn_108 : decode cX5_goOn 108 = .ok (.getfield 26, 3) := by decide +kernel
theorem dX5_goOn_111 : decode cX5_goOn 111 = .ok (.iload_n 3, 1) := by decide +kernel
theorem dX5_goOn_112 : decode cX5_goOn 112 = .ok (.aaload, 1) := by decide +kernel
theorem dX5_goOn_113 : decode cX5_goOn 113 = .ok (.iconst 0, 1) := by decide +kernel
theorem dX5_goOn_114 : decode cX5_goOn 114 = .ok (.aload_n 0, 1) := by decide +kernel
theorem dX5_goOn_115 : decode cX5_goOn 115 = .ok (.getfield 26, 3) := by decide +kernel
theorem dX5_goOn_118 : decode cX5_goOn 118 = .ok (.iload_n 3, 1) := by decide +kernel
theorem dX5_goOn_119 : decode cX5_goOn 119 = .ok (.iconst 1, 1) := by decide +kernel
theorem dX5_goOn_120 : decode cX5_goOn 120 = .ok (.iadd, 1) := by decide +kernel
theorem dX5_goOn_121 : decode cX5_goOn 121 = .ok (.aaload, 1) := by decide +kernel
theorem dX5_goOn_122 : decode cX5_goOn 122 = .ok (.iconst 0, 1) := by decide +kernel
theorem dX5_goOn_123 : decode cX5_goOn 123 = .ok (.bipush 6, 2) := by decide +kernel
theorem dX5_goOn_125 : decode cX5_goOn 125 = .ok (.invokestatic 48, 3) := by decide +kernel
theorem dX5_goOn_128 : decode cX5_goOn 128 = .ok (.aload_n 0, 1) := by decide +kernel
theorem dX5_goOn_129 : decode cX5_goOn 129 = .ok (.getfield 12, 3) := by decide +kernel
theorem dX5_goOn_132 : decode cX5_goOn 132 = .ok (.aload_n 0, 1) := by decide +kernel
theorem dX5_goOn_133 : decode cX5_goOn 133 = .ok (.getfield 12, 3) := by decide +kernel
theorem dX5_goOn_136 : decode cX5_goOn 136 = .ok (.getfield 89, 3) := by decide +kernel
theorem dX5_goOn_139 : decode cX5_goOn 139 = .ok (.aload_n 0, 1) := by decide +kernel
theorem dX5_goOn_140 : decode cX5_goOn 140 = .ok (.getfield 26, 3) := by decide +kernel
theorem dX5_goOn_143 : decode cX5_goOn 143 = .ok (.iload_n 3, 1) := by decide +kernel
theorem dX5_goOn_144 : decode cX5_goOn 144 = .ok (.iconst 1, 1) := by decide +kernel
theorem dX5_goOn_145 : decode cX5_goOn 145 = .ok (.iadd, 1) := by decide +kernel
theorem dX5_goOn_146 : decode cX5_goOn 146 = .ok (.aaload, 1) := by decide +kernel
theorem dX5_goOn_147 : decode cX5_goOn 147 = .ok (.invokevirtual 92, 3) := by decide +kernel
theorem dX5_goOn_150 : decode cX5_goOn 150 = .ok (.aload_n 0, 1) := by decide +kernel
theorem dX5_goOn_151 : decode cX5_goOn 151 = .ok (.aload_n 1, 1) := by decide +kernel
theorem dX5_goOn_152 : decode cX5_goOn 152 = .ok (.aload_n 2, 1) := by decide +kernel
theorem dX5_goOn_153 : decode cX5_goOn 153 = .ok (.iload_n 3, 1) := by decide +kernel
theorem dX5_goOn_154 : decode cX5_goOn 154 = .ok (.iconst 1, 1) := by decide +kernel
theorem dX5_goOn_155 : decode cX5_goOn 155 = .ok (.iadd, 1) := by decide +kernel
theorem dX5_goOn_156 : decode cX5_goOn 156 = .ok (.iload 4, 2) := by decide +kernel
theorem dX5_goOn_158 : decode cX5_goOn 158 = .ok (.iconst 1, 1) := by decide +kernel
theorem dX5_goOn_159 : decode cX5_goOn 159 = .ok (.iload 7, 2) := by decide +kernel
theorem dX5_goOn_161 : decode cX5_goOn 161 = .ok (.ishl, 1) := by decide +kernel
theorem dX5_goOn_162 : decode cX5_goOn 162 = .ok (.ior, 1) := by decide +kernel
theorem dX5_goOn_163 : decode cX5_goOn 163 = .ok (.iload 5, 2) := by decide +kernel
theorem dX5_goOn_165 : decode cX5_goOn 165 = .ok (.bipush 10, 2) := by decide +kernel
theorem dX5_goOn_167 : decode cX5_goOn 167 = .ok (.imul, 1) := by decide +kernel
theorem dX5_goOn_168 : decode cX5_goOn 168 = .ok (.iload 7, 2) := by decide +kernel
theorem dX5_goOn_170 : decode cX5_goOn 170 = .ok (.iadd, 1) := by decide +kernel
theorem dX5_goOn_171 : decode cX5_goOn 171 = .ok (.iconst 1, 1) := by decide +kernel
theorem dX5_goOn_172 : decode cX5_goOn 172 = .ok (.iadd, 1) := by decide +kernel
theorem dX5_goOn_173 : decode cX5_goOn 173 = .ok (.iload 6, 2) := by decide +kernel
theorem dX5_goOn_175 : decode cX5_goOn 175 = .ok (.aload 8, 2) := by decide +kernel
theorem dX5_goOn_177 : decode cX5_goOn 177 = .ok (.invokevirtual 62, 3) := by decide +kernel
theorem dX5_goOn_180 : decode cX5_goOn 180 = .ok (.iadd, 1) := by decide +kernel
theorem dX5_goOn_181 : decode cX5_goOn 181 = .ok (.invokevirtual 58, 3) := by decide +kernel
theorem dX5_goOn_184 : decode cX5_goOn 184 = .ok (.iinc 7 1, 3) := by decide +kernel
theorem dX5_goOn_187 : decode cX5_goOn 187 = .ok (.goto (-149), 3) := by decide +kernel
theorem dX5_goOn_190 : decode cX5_goOn 190 = .ok (.return_, 1) := by decide +kernel
theorem dX5_isBetter_0 : decode cX5_isBetter 0 = .ok (.iload_n 3, 1) := by decide +kernel
theorem dX5_isBetter_1 : decode cX5_isBetter 1 = .ok (.aload_n 0, 1) := by decide +kernel
theorem dX5_isBetter_2 : decode cX5_isBetter 2 = .ok (.getfield 33, 3) := by decide +kernel
theorem dX5_isBetter_5 : decode cX5_isBetter 5 = .ok (.if_icmp .eq 17, 3) := by decide +kernel
theorem dX5_isBetter_8 : decode cX5_isBetter 8 = .ok (.iload_n 3, 1) := by decide +kernel
theorem dX5_isBetter_9 : decode cX5_isBetter 9 = .ok (.aload_n 0, 1) := by decide +kernel
theorem dX5_isBetter_10 : decode cX5_isBetter 10 = .ok (.getfield 33, 3) := by decide +kernel
theorem dX5_isBetter_13 : decode cX5_isBetter 13 = .ok (.if_icmp .le 7, 3) := by decide +kernel
theorem dX5_isBetter_16 : decode cX5_isBetter 16 = .ok (.iconst 1, 1) := by decide +kernel
theorem dX5_isBetter_17 : decode cX5_isBetter 17 = .ok (.goto 4, 3) := by decide +kernel
theorem dX5_isBetter_20 : decode cX5_isBetter 20 = .ok (.iconst 0, 1) := by decide +kernel
theorem dX5_isBetter_21 : decode cX5_isBetter 21 = .ok (.ireturn, 1) := by decide +kernel
theorem dX5_isBetter_22 : decode cX5_isBetter 22 = .ok (.iload_n 1, 1) := by decide +kernel
theorem dX5_isBetter_23 : decode cX5_isBetter 23 = .ok (.aload_n 0, 1) := by decide +kernel
theorem dX5_isBetter_24 : decode cX5_isBetter 24 = .ok (.getfield 40, 3) := by decide +kernel
theorem dX5_isBetter_27 : decode cX5_isBetter 27 = .ok (.if_icmp .lt 19, 3) := by decide +kernel
theorem dX5_isBetter_30 : decode cX5_isBetter 30 = .ok (.iload_n 1, 1) := by decide +kernel
theorem dX5_isBetter_31 : decode cX5_isBetter 31 = .ok (.aload_n 0, 1) := by decide +kernel
theorem dX5_isBetter_32 : decode cX5_isBetter 32 = .ok (.getfield 40, 3) := by decide +kernel
theorem dX5_isBetter_35 : decode cX5_isBetter 35 = .ok (.if_icmp .ne 15, 3) := by decide +kernel
theorem dX5_isBetter_38 : decode cX5_isBetter 38 = .ok (.iload_n 2, 1) := by decide +kernel
theorem dX5_isBetter_39 : decode cX5_isBetter 39 = .ok (.aload_n 0, 1) := by decide +kernel
theorem dX5_isBetter_40 : decode cX5_isBetter 40 = .ok (.getfield 37, 3) := by decide +kernel
theorem dX5_isBetter_43 : decode cX5_isBetter 43 = .ok (.if_icmp .ge 7, 3) := by decide +kernel
theorem dX5_isBetter_46 : decode cX5_isBetter 46 = .ok (.iconst 1, 1) := by decide +kernel
theorem dX5_isBetter_47 : decode cX5_isBetter 47 = .ok (.goto 4, 3) := by decide +kernel
theorem dX5_isBetter_50 : decode cX5_isBetter 50 = .ok (.iconst 0, 1) := by decide +kernel
theorem dX5_isBetter_51 : decode cX5_isBetter 51 = .ok (.ireturn, 1) := by decide +kernel
theorem dX6_init_0 : decode cX6_init 0 = .ok (.aload_n 0, 1) := by decide +kernel
theorem dX6_init_1 : decode cX6_init 1 = .ok (.iload_n 1, 1) := by decide +kernel
theorem dX6_init_2 : decode cX6_init 2 = .ok (.iload_n 2, 1) := by decide +kernel
theorem dX6_init_3 : decode cX6_init 3 = .ok (.iload_n 3, 1) := by decide +kernel
theorem dX6_init_4 : decode cX6_init 4 = .ok (.iload 4, 2) := by decide +kernel
theorem dX6_init_6 : decode cX6_init 6 = .ok (.invokespecial 1, 3) := by decide +kernel
theorem dX6_init_9 : decode cX6_init 9 = .ok (.return_, 1) := by decide +kernel
theorem dX6_bears_0 : decode cX6_bears 0 = .ok (.aload_n 0, 1) := by decide +kernel
theorem dX6_bears_1 : decode cX6_bears 1 = .ok (.iload_n 1, 1) := by decide +kernel
theorem dX6_bears_2 : decode cX6_bears 2 = .ok (.invokespecial 7, 3) := by decide +kernel
theorem dX6_bears_5 : decode cX6_bears 5 = .ok (.iconst 2, 1) := by decide +kernel
theorem dX6_bears_6 : decode cX6_bears 6 = .ok (.idiv, 1) := by decide +kernel
theorem dX6_bears_7 : decode cX6_bears 7 = .ok (.ireturn, 1) := by decide +kernel
theorem dX6_brings_0 : decode cX6_brings 0 = .ok (.iconst 2, 1) := by decide +kernel
theorem dX6_brings_1 : decode cX6_brings 1 = .ok (.aload_n 0, 1) := by decide +kernel
theorem dX6_brings_2 : decode cX6_brings 2 = .ok (.invokespecial 11, 3) := by decide +kernel
theorem dX6_brings_5 : decode cX6_brings 5 = .ok (.imul, 1) := by decide +kernel
theorem dX6_brings_6 : decode cX6_brings 6 = .ok (.ireturn, 1) := by decide +kernel
theorem dX6_daysLate_0 : decode cX6_daysLate 0 = .ok (.aload_n 0, 1) := by decide +kernel
theorem dX6_daysLate_1 : decode cX6_daysLate 1 = .ok (.getfield 15, 3) := by decide +kernel
theorem dX6_daysLate_4 : decode cX6_daysLate 4 = .ok (.ifCond .eq 10, 3) := by decide +kernel
theorem dX6_daysLate_7 : decode cX6_daysLate 7 = .ok (.aload_n 0, 1) := by decide +kernel
theorem dX6_daysLate_8 : decode cX6_daysLate 8 = .ok (.getfield 21, 3) := by decide +kernel
theorem dX6_daysLate_11 : decode cX6_daysLate 11 = .ok (.goto 4, 3) := by decide +kernel
theorem dX6_daysLate_14 : decode cX6_daysLate 14 = .ok (.iload_n 1, 1) := by decide +kernel
theorem dX6_daysLate_15 : decode cX6_daysLate 15 = .ok (.aload_n 0, 1) := by decide +kernel
theorem dX6_daysLate_16 : decode cX6_daysLate 16 = .ok (.getfield 25, 3) := by decide +kernel
theorem dX6_daysLate_19 : decode cX6_daysLate 19 = .ok (.isub, 1) := by decide +kernel
theorem dX6_daysLate_20 : decode cX6_daysLate 20 = .ok (.iconst 0, 1) := by decide +kernel
theorem dX6_daysLate_21 : decode cX6_daysLate 21 = .ok (.invokestatic 28, 3) := by decide +kernel
theorem dX6_daysLate_24 : decode cX6_daysLate 24 = .ok (.ireturn, 1) := by decide +kernel
theorem dX7_init_0 : decode cX7_init 0 = .ok (.aload_n 0, 1) := by decide +kernel
theorem dX7_init_1 : decode cX7_init 1 = .ok (.invokespecial 5, 3) := by decide +kernel
theorem dX7_init_4 : decode cX7_init 4 = .ok (.aload_n 0, 1) := by decide +kernel
theorem dX7_init_5 : decode cX7_init 5 = .ok (.sipush 160, 3) := by decide +kernel
theorem dX7_init_8 : decode cX7_init 8 = .ok (.newarray .byte, 2) := by decide +kernel
theorem dX7_init_10 : decode cX7_init 10 = .ok (.putfield 11, 3) := by decide +kernel
theorem dX7_init_13 : decode cX7_init 13 = .ok (.aload_n 0, 1) := by decide +kernel
theorem dX7_init_14 : decode cX7_init 14 = .ok (.sipush 160, 3) := by decide +kernel
theorem dX7_init_17 : decode cX7_init 17 = .ok (.newarray .int, 2) := by decide +kernel
theorem dX7_init_19 : decode cX7_init 19 = .ok (.putfield 15, 3) := by decide +kernel
theorem dX7_init_22 : decode cX7_init 22 = .ok (.return_, 1) := by decide +kernel
theorem dX7_addByte_0 : decode cX7_addByte 0 = .ok (.aload_n 0, 1) := by decide +kernel
theorem dX7_addByte_1 : decode cX7_addByte 1 = .ok (.getfield 19, 3) := by decide +kernel
theorem dX7_addByte_4 : decode cX7_addByte 4 = .ok (.sipush 160, 3) := by decide +kernel
theorem dX7_addByte_7 : decode cX7_addByte 7 = .ok (.if_icmp .ge 23, 3) := by decide +kernel
theorem dX7_addByte_10 : decode cX7_addByte 10 = .ok (.aload_n 0, 1) := by decide +kernel
theorem dX7_addByte_11 : decode cX7_addByte 11 = .ok (.getfield 11, 3) := by decide +kernel
theorem dX7_addByte_14 : decode cX7_addByte 14 = .ok (.aload_n 0, 1) := by decide +kernel
theorem dX7_addByte_15 : decode cX7_addByte 15 = .ok (.getfield 19, 3) := by decide +kernel
theorem dX7_addByte_18 : decode cX7_addByte 18 = .ok (.iload_n 1, 1) := by decide +kernel
theorem dX7_addByte_19 : decode cX7_addByte 19 = .ok (.bastore, 1) := by decide +kernel
theorem dX7_addByte_20 : decode cX7_addByte 20 = .ok (.aload_n 0, 1) := by decide +kernel
theorem dX7_addByte_21 : decode cX7_addByte 21 = .ok (.dup, 1) := by decide +kernel
theorem dX7_addByte_22 : decode cX7_addByte 22 = .ok (.getfield 19, 3) := by decide +kernel
theorem dX7_addByte_25 : decode cX7_addByte 25 = .ok (.iconst 1, 1) := by decide +kernel
theorem dX7_addByte_26 : decode cX7_addByte 26 = .ok (.iadd, 1) := by decide +kernel
theorem dX7_addByte_27 : decode cX7_addByte 27 = .ok (.putfield 19, 3) := by decide +kernel
theorem dX7_addByte_30 : decode cX7_addByte 30 = .ok (.return_, 1) := by decide +kernel
theorem dX7_readTape_0 : decode cX7_readTape 0 = .ok (.aload_n 0, 1) := by decide +kernel
theorem dX7_readTape_1 : decode cX7_readTape 1 = .ok (.iconst (-1), 1) := by decide +kernel
theorem dX7_readTape_2 : decode cX7_readTape 2 = .ok (.putfield 23, 3) := by decide +kernel
theorem dX7_readTape_5 : decode cX7_readTape 5 = .ok (.aload_n 0, 1) := by decide +kernel
theorem dX7_readTape_6 : decode cX7_readTape 6 = .ok (.iconst 0, 1) := by decide +kernel
theorem dX7_readTape_7 : decode cX7_readTape 7 = .ok (.putfield 26, 3) := by decide +kernel
theorem dX7_readTape_10 : decode cX7_readTape 10 = .ok (.aload_n 0, 1) := by decide +kernel
theorem dX7_readTape_11 : decode cX7_readTape 11 = .ok (.iconst 0, 1) := by decide +kernel
theorem dX7_readTape_12 : decode cX7_readTape 12 = .ok (.putfield 29, 3) := by decide +kernel
theorem dX7_readTape_15 : decode cX7_readTape 15 = .ok (.aload_n 0, 1) := by decide +kernel
theorem dX7_readTape_16 : decode cX7_readTape 16 = .ok (.iconst 0, 1) := by decide +kernel
theorem dX7_readTape_17 : decode cX7_readTape 17 = .ok (.putfield 32, 3) := by decide +kernel
theorem dX7_readTape_20 : decode cX7_readTape 20 = .ok (.aload_n 0, 1) := by decide +kernel
theorem dX7_readTape_21 : decode cX7_readTape 21 = .ok (.invokevirtual 35, 3) := by decide +kernel
theorem dX7_readTape_24 : decode cX7_readTape 24 = .ok (.iconst 3, 1) := by decide +kernel
theorem dX7_readTape_25 : decode cX7_readTape 25 = .ok (.newarray .int, 2) := by decide +kernel
theorem dX7_readTape_27 : decode cX7_readTape 27 = .ok (.astore_n 1, 1) := by decide +kernel
theorem dX7_readTape_28 : decode cX7_readTape 28 = .ok (.iconst 0, 1) := by decide +kernel
theorem dX7_readTape_29 : decode cX7_readTape 29 = .ok (.istore_n 2, 1) := by decide +kernel
theorem dX7_readTape_30 : decode cX7_readTape 30 = .ok (.iload_n 2, 1) := by decide +kernel
theorem dX7_readTape_31 : decode cX7_readTape 31 = .ok (.aload_n 1, 1) := by decide +kernel
theorem dX7_readTape_32 : decode cX7_readTape 32 = .ok (.arraylength, 1) := by decide +kernel
theorem dX7_readTape_33 : decode cX7_readTape 33 = .ok (.if_icmp .ge 35, 3) := by decide +kernel
theorem dX7_readTape_36 : decode cX7_readTape 36 = .ok (.aload_n 0, 1) := by decide +kernel
theorem dX7_readTape_37 : decode cX7_readTape 37 = .ok (.sipush 262, 3) := by decide +kernel
theorem dX7_readTape_40 : decode cX7_readTape 40 = .ok (.iload_n 2, 1) := by decide +kernel
theorem dX7_readTape_41 : decode cX7_readTape 41 = .ok (.iadd, 1) := by decide +kernel
theorem dX7_readTape_42 : decode cX7_readTape 42 = .ok (.invokevirtual 38, 3) := by decide +kernel
theorem dX7_readTape_45 : decode cX7_readTape 45 = .ok (.aload_n 0, 1) := by decide +kernel
theorem dX7_readTape_46 : decode cX7_readTape 46 = .ok (.invokevirtual 42, 3) := by decide +kernel
theorem dX7_readTape_49 : decode cX7_readTape 49 = .ok (.aload_n 0, 1) := by decide +kernel
theorem dX7_readTape_50 : decode cX7_readTape 50 = .ok (.bipush 59, 2) := by decide +kernel
theorem dX7_readTape_52 : decode cX7_readTape 52 = .ok (.invokevirtual 38, 3) := by decide +kernel
theorem dX7_readTape_55 : decode cX7_readTape 55 = .ok (.aload_n 1, 1) := by decide +kernel
theorem dX7_readTape_56 : decode cX7_readTape 56 = .ok (.iload_n 2, 1) := by decide +kernel
theorem dX7_readTape_57 : decode cX7_readTape 57 = .ok (.aload_n 0, 1) := by decide +kernel
theorem dX7_readTape_58 : decode cX7_readTape 58 = .ok (.getfield 32, 3) := by decide +kernel
theorem dX7_readTape_61 : decode cX7_readTape 61 = .ok (.iastore, 1) := by decide +kernel
theorem dX7_readTape_62 : decode cX7_readTape 62 = .ok (.iinc 2 1, 3) := by decide +kernel
theorem dX7_readTape_65 : decode cX7_readTape 65 = .ok (.goto (-35), 3) := by decide +kernel
theorem dX7_readTape_68 : decode cX7_readTape 68 = .ok (.aload_n 0, 1) := by decide +kernel
theorem dX7_readTape_69 : decode cX7_readTape 69 = .ok (.getfield 45, 3) := by decide +kernel
theorem dX7_readTape_72 : decode cX7_readTape 72 = .ok (.ifCond .eq 7, 3) := by decide +kernel
theorem dX7_readTape_75 : decode cX7_readTape 75 = .ok (.aload_n 0, 1) := by decide +kernel
theorem dX7_readTape_76 : decode cX7_readTape 76 = .ok (.invokevirtual 48, 3) := by decide +kernel
theorem dX7_readTape_79 : decode cX7_readTape 79 = .ok (.aload_n 0, 1) := by decide +kernel
theorem dX7_readTape_80 : decode cX7_readTape 80 = .ok (.iconst 0, 1) := by decide +kernel
theorem dX7_readTape_81 : decode cX7_readTape 81 = .ok (.putfield 19, 3) := by decide +kernel
theorem dX7_readTape_84 : decode cX7_readTape 84 = .ok (.aload_n 0, 1) := by decide +kernel
theorem dX7_readTape_85 : decode cX7_readTape 85 = .ok (.getfield 23, 3) := by decide +kernel
theorem dX7_readTape_88 : decode cX7_readTape 88 = .ok (.iconst (-1), 1) := by decide +kernel
theorem dX7_readTape_89 : decode cX7_readTape 89 = .ok (.if_icmp .ne 25, 3) := by decide +kernel
theorem dX7_readTape_92 : decode cX7_readTape 92 = .ok (.new 51, 3) := by decide +kernel
theorem dX7_readTape_95 : decode cX7_readTape 95 = .ok (.dup, 1) := by decide +kernel
theorem dX7_readTape_96 : decode cX7_readTape 96 = .ok (.aload_n 0, 1) := by decide +kernel
theorem dX7_readTape_97 : decode cX7_readTape 97 = .ok (.getfield 15, 3) := by decide +kernel
theorem dX7_readTape_100 : decode cX7_readTape 100 = .ok (.aload_n 0, 1) := by decide +kernel
theorem dX7_readTape_101 : decode cX7_readTape 101 = .ok (.getfield 32, 3) := by decide +kernel
theorem dX7_readTape_104 : decode cX7_readTape 104 = .ok (.invokestatic 53, 3) := by decide +kernel
theorem dX7_readTape_107 : decode cX7_readTape 107 = .ok (.aload_n 1, 1) := by decide +kernel
theorem dX7_readTape_108 : decode cX7_readTape 108 = .ok (.invokespecial 59, 3) := by decide +kernel
theorem dX7_readTape_111 : decode cX7_readTape 111 = .ok (.goto 4, 3) := by decide +kernel
theorem dX7_readTape_114 : decode cX7_readTape 114 = .ok (.aconst_null, 1) := by decide +kernel
theorem dX7_readTape_115 : decode cX7_readTape 115 = .ok (.areturn, 1) := by decide +kernel
theorem dX7_readE_0 : decode cX7_readE 0 = .ok (.aload_n 0, 1) := by decide +kernel
theorem dX7_readE_1 : decode cX7_readE 1 = .ok (.invokevirtual 62, 3) := by decide +kernel
theorem dX7_readE_4 : decode cX7_readE 4 = .ok (.iconst 0, 1) := by decide +kernel
theorem dX7_readE_5 : decode cX7_readE 5 = .ok (.istore_n 1, 1) := by decide +kernel
theorem dX7_readE_6 : decode cX7_readE 6 = .ok (.iload_n 1, 1) := by decide +kernel
theorem dX7_readE_7 : decode cX7_readE 7 = .ok (.sipush 160, 3) := by decide +kernel
theorem dX7_readE_10 : decode cX7_readE 10 = .ok (.if_icmp .ge 29, 3) := by decide +kernel
theorem dX7_readE_13 : decode cX7_readE 13 = .ok (.aload_n 0, 1) := by decide +kernel
theorem dX7_readE_14 : decode cX7_readE 14 = .ok (.sipush 265, 3) := by decide +kernel
theorem dX7_readE_17 : decode cX7_readE 17 = .ok (.invokevirtual 65, 3) := by decide +kernel
theorem dX7_readE_20 : decode cX7_readE 20 = .ok (.ifCond .eq 19, 3) := by decide +kernel
theorem dX7_readE_23 : decode cX7_readE 23 = .ok (.aload_n 0, 1) := by decide +kernel
theorem dX7_readE_24 : decode cX7_readE 24 = .ok (.invokevirtual 62, 3) := by decide +kernel
theorem dX7_readE_27 : decode cX7_readE 27 = .ok (.aload_n 0, 1) := by decide +kernel
theorem dX7_readE_28 : decode cX7_readE 28 = .ok (.bipush (-18), 2) := by decide +kernel
theorem dX7_readE_30 : decode cX7_readE 30 = .ok (.invokevirtual 69, 3) := by decide +kernel
theorem dX7_readE_33 : decode cX7_readE 33 = .ok (.iinc 1 1, 3) := by decide +kernel
theorem dX7_readE_36 : decode cX7_readE 36 = .ok (.goto (-30), 3) := by decide +kernel
theorem dX7_readE_39 : decode cX7_readE 39 = .ok (.return_, 1) := by decide +kernel
theorem dX7_readAnd_0 : decode cX7_readAnd 0 = .ok (.aload_n 0, 1) := by decide +kernel
theorem dX7_readAnd_1 : decode cX7_readAnd 1 = .ok (.invokevirtual 72, 3) := by decide +kernel
theorem dX7_readAnd_4 : decode cX7_readAnd 4 = .ok (.iconst 0, 1) := by decide +kernel
theorem dX7_readAnd_5 : decode cX7_readAnd 5 = .ok (.istore_n 1, 1) := by decide +kernel
theorem dX7_readAnd_6 : decode cX7_readAnd 6 = .ok (.iload_n 1, 1) := by decide +kernel
theorem dX7_readAnd_7 : decode cX7_readAnd 7 = .ok (.sipush 160, 3) := by decide +kernel
theorem dX7_readAnd_10 : decode cX7_readAnd 10 = .ok (.if_icmp .ge 29, 3) := by decide +kernel
theorem dX7_readAnd_13 : decode cX7_readAnd 13 = .ok (.aload_n 0, 1) := by decide +kernel
theorem dX7_readAnd_14 : decode cX7_readAnd 14 = .ok (.sipush 266, 3) := by decide +kernel
theorem dX7_readAnd_17 : decode cX7_readAnd 17 = .ok (.invokevirtual 65, 3) := by decide +kernel
theorem dX7_readAnd_20 : decode cX7_readAnd 20 = .ok (.ifCond .eq 19, 3) := by decide +kernel
theorem dX7_readAnd_23 : decode cX7_readAnd 23 = .ok (.aload_n 0, 1) := by decide +kernel
theorem dX7_readAnd_24 : decode cX7_readAnd 24 = .ok (.invokevirtual 72, 3) := by decide +kernel
theorem dX7_readAnd_27 : decode cX7_readAnd 27 = .ok (.aload_n 0, 1) := by decide +kernel
theorem dX7_readAnd_28 : decode cX7_readAnd 28 = .ok (.bipush (-17), 2) := by decide +kernel
theorem dX7_readAnd_30 : decode cX7_readAnd 30 = .ok (.invokevirtual 69, 3) := by decide +kernel
theorem dX7_readAnd_33 : decode cX7_readAnd 33 = .ok (.iinc 1 1, 3) := by decide +kernel
theorem dX7_readAnd_36 : decode cX7_readAnd 36 = .ok (.goto (-30), 3) := by decide +kernel
theorem dX7_readAnd_39 : decode cX7_readAnd 39 = .ok (.return_, 1) := by decide +kernel
theorem dX7_readNot_0 : decode cX7_readNot 0 = .ok (.aload_n 0, 1) := by decide +kernel
theorem dX7_readNot_1 : decode cX7_readNot 1 = .ok (.getfield 45, 3) := by decide +kernel
theorem dX7_readNot_4 : decode cX7_readNot 4 = .ok (.sipush 267, 3) := by decide +kernel
theorem dX7_readNot_7 : decode cX7_readNot 7 = .ok (.if_icmp .ne 31, 3) := by decide +kernel
theorem dX7_readNot_10 : decode cX7_readNot 10 = .ok (.aload_n 0, 1) := by decide +kernel
theorem dX7_readNot_11 : decode cX7_readNot 11 = .ok (.invokevirtual 75, 3) := by decide +kernel
theorem dX7_readNot_14 : decode cX7_readNot 14 = .ok (.ifCond .eq 23, 3) := by decide +kernel
theorem dX7_readNot_17 : decode cX7_readNot 17 = .ok (.aload_n 0, 1) := by decide +kernel
theorem dX7_readNot_18 : decode cX7_readNot 18 = .ok (.invokevirtual 72, 3) := by decide +kernel
theorem dX7_readNot_21 : decode cX7_readNot 21 = .ok (.aload_n 0, 1) := by decide +kernel
theorem dX7_readNot_22 : decode cX7_readNot 22 = .ok (.dup, 1) := by decide +kernel
theorem dX7_readNot_23 : decode cX7_readNot 23 = .ok (.getfield 29, 3) := by decide +kernel
theorem dX7_readNot_26 : decode cX7_readNot 26 = .ok (.iconst 1, 1) := by decide +kernel
theorem dX7_readNot_27 : decode cX7_readNot 27 = .ok (.isub, 1) := by decide +kernel
theorem dX7_readNot_28 : decode cX7_readNot 28 = .ok (.putfield 29, 3) := by decide +kernel
theorem dX7_readNot_31 : decode cX7_readNot 31 = .ok (.aload_n 0, 1) := by decide +kernel
theorem dX7_readNot_32 : decode cX7_readNot 32 = .ok (.bipush (-11), 2) := by decide +kernel
theorem dX7_readNot_34 : decode cX7_readNot 34 = .ok (.invokevirtual 69, 3) := by decide +kernel
theorem dX7_readNot_37 : decode cX7_readNot 37 = .ok (.return_, 1) := by decide +kernel
theorem dX7_readNot_38 : decode cX7_readNot 38 = .ok (.aload_n 0, 1) := by decide +kernel
theorem dX7_readNot_39 : decode cX7_readNot 39 = .ok (.invokevirtual 79, 3) := by decide +kernel
theorem dX7_readNot_42 : decode cX7_readNot 42 = .ok (.aload_n 0, 1) := by decide +kernel
theorem dX7_readNot_43 : decode cX7_readNot 43 = .ok (.bipush 60, 2) := by decide +kernel
theorem dX7_readNot_45 : decode cX7_readNot 45 = .ok (.invokevirtual 65, 3) := by decide +kernel
theorem dX7_readNot_48 : decode cX7_readNot 48 = .ok (.ifCond .eq 16, 3) := by decide +kernel
theorem dX7_readNot_51 : decode cX7_readNot 51 = .ok (.aload_n 0, 1) := by decide +kernel
theorem dX7_readNot_52 : decode cX7_readNot 52 = .ok (.invokevirtual 79, 3) := by decide +kernel
theorem dX7_readNot_55 : decode cX7_readNot 55 = .ok (.aload_n 0, 1) := by decide +kernel
theorem dX7_readNot_56 : decode cX7_readNot 56 = .ok (.bipush (-15), 2) := by decide +kernel
theorem dX7_readNot_58 : decode cX7_readNot 58 = .ok (.invokevirtual 69, 3) := by decide +kernel
theorem dX7_readNot_61 : decode cX7_readNot 61 = .ok (.goto 22, 3) := by decide +kernel
theorem dX7_readNot_64 : decode cX7_readNot 64 = .ok (.aload_n 0, 1) := by decide +kernel
theorem dX7_readNot_65 : decode cX7_readNot 65 = .ok (.bipush 61, 2) := by decide +kernel
theorem dX7_readNot_67 : decode cX7_readNot 67 = .ok (.invokevirtual 65, 3) := by decide +kernel
theorem dX7_readNot_70 : decode cX7_readNot 70 = .ok (.ifCond .eq 13, 3) := by decide +kernel
theorem dX7_readNot_73 : decode cX7_readNot 73 = .ok (.aload_n 0, 1) := by decide +kernel
theorem dX7_readNot_74 : decode cX7_readNot 74 = .ok (.invokevirtual 79, 3) := by decide +kernel
theorem dX7_readNot_77 : decode cX7_readNot 77 = .ok (.aload_n 0, 1) := by decide +kernel
theorem dX7_readNot_78 : decode cX7_readNot 78 = .ok (.bipush (-16), 2) := by decide +kernel
theorem dX7_readNot_80 : decode cX7_readNot 80 = .ok (.invokevirtual 69, 3) := by decide +kernel
theorem dX7_readNot_83 : decode cX7_readNot 83 = .ok (.return_, 1) := by decide +kernel
theorem dX7_readSum_0 : decode cX7_readSum 0 = .ok (.aload_n 0, 1) := by decide +kernel
theorem dX7_readSum_1 : decode cX7_readSum 1 = .ok (.invokevirtual 82, 3) := by decide +kernel
theorem dX7_readSum_4 : decode cX7_readSum 4 = .ok (.iconst 0, 1) := by decide +kernel
theorem dX7_readSum_5 : decode cX7_readSum 5 = .ok (.istore_n 1, 1) := by decide +kernel
theorem dX7_readSum_6 : decode cX7_readSum 6 = .ok (.iload_n 1, 1) := by decide +kernel
theorem dX7_readSum_7 : decode cX7_readSum 7 = .ok (.sipush 160, 3) := by decide +kernel
theorem dX7_readSum_10 : decode cX7_readSum 10 = .ok (.if_icmp .ge 57, 3) := by decide +kernel
theorem dX7_readSum_13 : decode cX7_readSum 13 = .ok (.aload_n 0, 1) := by decide +kernel
theorem dX7_readSum_14 : decode cX7_readSum 14 = .ok (.getfield 45, 3) := by decide +kernel
theorem dX7_readSum_17 : decode cX7_readSum 17 = .ok (.bipush 43, 2) := by decide +kernel
theorem dX7_readSum_19 : decode cX7_readSum 19 = .ok (.if_icmp .eq 12, 3) := by decide +kernel
theorem dX7_readSum_22 : decode cX7_readSum 22 = .ok (.aload_n 0, 1) := by decide +kernel
theorem dX7_readSum_23 : decode cX7_readSum 23 = .ok (.getfield 45, 3) := by decide +kernel
theorem dX7_readSum_26 : decode cX7_readSum 26 = .ok (.bipush 45, 2) := by decide +kernel
theorem dX7_readSum_28 : decode cX7_readSum 28 = .ok (.if_icmp .ne 39, 3) := by decide +kernel
theorem dX7_readSum_31 : decode cX7_readSum 31 = .ok (.aload_n 0, 1) := by decide +kernel
theorem dX7_readSum_32 : decode cX7_readSum 32 = .ok (.getfield 45, 3) := by decide +kernel
theorem dX7_readSum_35 : decode cX7_readSum 35 = .ok (.bipush 43, 2) := by decide +kernel
theorem dX7_readSum_37 : decode cX7_readSum 37 = .ok (.if_icmp .ne 8, 3) := by decide +kernel
theorem dX7_readSum_40 : decode cX7_readSum 40 = .ok (.bipush (-13), 2) := by decide +kernel
theorem dX7_readSum_42 : decode cX7_readSum 42 = .ok (.goto 5, 3) := by decide +kernel
theorem dX7_readSum_45 : decode cX7_readSum 45 = .ok (.bipush (-14), 2) := by decide +kernel
theorem dX7_readSum_47 : decode cX7_readSum 47 = .ok (.istore_n 2, 1) := by decide +kernel
theorem dX7_readSum_48 : decode cX7_readSum 48 = .ok (.aload_n 0, 1) := by decide +kernel
theorem dX7_readSum_49 : decode cX7_readSum 49 = .ok (.invokevirtual 35, 3) := by decide +kernel
theorem dX7_readSum_52 : decode cX7_readSum 52 = .ok (.aload_n 0, 1) := by decide +kernel
theorem dX7_readSum_53 : decode cX7_readSum 53 = .ok (.invokevirtual 82, 3) := by decide +kernel
theorem dX7_readSum_56 : decode cX7_readSum 56 = .ok (.aload_n 0, 1) := by decide +kernel
theorem dX7_readSum_57 : decode cX7_readSum 57 = .ok (.iload_n 2, 1) := by decide +kernel
theorem dX7_readSum_58 : decode cX7_readSum 58 = .ok (.invokevirtual 69, 3) := by decide +kernel
theorem dX7_readSum_61 : decode cX7_readSum 61 = .ok (.iinc 1 1, 3) := by decide +kernel
theorem dX7_readSum_64 : decode cX7_readSum 64 = .ok (.goto (-58), 3) := by decide +kernel
theorem dX7_readSum_67 : decode cX7_readSum 67 = .ok (.return_, 1) := by decide +kernel
theorem dX7_readTerm_0 : decode cX7_readTerm 0 = .ok (.aload_n 0, 1) := by decide +kernel
theorem dX7_readTerm_1 : decode cX7_readTerm 1 = .ok (.invokevirtual 85, 3) := by decide +kernel
theorem dX7_readTerm_4 : decode cX7_readTerm 4 = .ok (.iconst 0, 1) := by decide +kernel
theorem dX7_readTerm_5 : decode cX7_readTerm 5 = .ok (.istore_n 1, 1) := by decide +kernel
theorem dX7_readTerm_6 : decode cX7_readTerm 6 = .ok (.iload_n 1, 1) := by decide +kernel
theorem dX7_readTerm_7 : decode cX7_readTerm 7 = .ok (.sipush 160, 3) := by decide +kernel
theorem dX7_readTerm_10 : decode cX7_readTerm 10 = .ok (.if_icmp .ge 28, 3) := by decide +kernel
theorem dX7_readTerm_13 : decode cX7_readTerm 13 = .ok (.aload_n 0, 1) := by decide +kernel
theorem dX7_readTerm_14 : decode cX7_readTerm 14 = .ok (.bipush 42, 2) := by decide +kernel
theorem dX7_readTerm_16 : decode cX7_readTerm 16 = .ok (.invokevirtual 65, 3) := by decide +kernel
theorem dX7_readTerm_19 : decode cX7_readTerm 19 = .ok (.ifCond .eq 19, 3) := by decide +kernel
theorem dX7_readTerm_22 : decode cX7_readTerm 22 = .ok (.aload_n 0, 1) := by decide +kernel
theorem dX7_readTerm_23 : decode cX7_readTerm 23 = .ok (.invokevirtual 85, 3) := by decide +kernel
theorem dX7_readTerm_26 : decode cX7_readTerm 26 = .ok (.aload_n 0, 1) := by decide +kernel
theorem dX7_readTerm_27 : decode cX7_readTerm 27 = .ok (.bipush (-12), 2) := by decide +kernel
theorem dX7_readTerm_29 : decode cX7_readTerm 29 = .ok (.invokevirtual 69, 3) := by decide +kernel
theorem dX7_readTerm_32 : decode cX7_readTerm 32 = .ok (.iinc 1 1, 3) := by decide +kernel
theorem dX7_readTerm_35 : decode cX7_readTerm 35 = .ok (.goto (-29), 3) := by decide +kernel
theorem dX7_readTerm_38 : decode cX7_readTerm 38 = .ok (.return_, 1) := by decide +kernel
theorem dX7_readOne_0 : decode cX7_readOne 0 = .ok (.aload_n 0, 1) := by decide +kernel
theorem dX7_readOne_1 : decode cX7_readOne 1 = .ok (.getfield 45, 3) := by decide +kernel
theorem dX7_readOne_4 : decode cX7_readOne 4 = .ok (.iconst 2, 1) := by decide +kernel
theorem dX7_readOne_5 : decode cX7_readOne 5 = .ok (.if_icmp .ne 18, 3) := by decide +kernel
theorem dX7_readOne_8 : decode cX7_readOne 8 = .ok (.aload_n 0, 1) := by decide +kernel
theorem dX7_readOne_9 : decode cX7_readOne 9 = .ok (.aload_n 0, 1) := by decide +kernel
theorem dX7_readOne_10 : decode cX7_readOne 10 = .ok (.getfield 88, 3) := by decide +kernel
theorem dX7_readOne_13 : decode cX7_readOne 13 = .ok (.invokevirtual 69, 3) := by decide +kernel
theorem dX7_readOne_16 : decode cX7_readOne 16 = .ok (.aload_n 0, 1) := by decide +kernel
theorem dX7_readOne_17 : decode cX7_readOne 17 = .ok (.invokevirtual 35, 3) := by decide +kernel
theorem dX7_readOne_20 : decode cX7_readOne 20 = .ok (.goto 122, 3) := by decide +kernel
theorem dX7_readOne_23 : decode cX7_readOne 23 = .ok (.aload_n 0, 1) := by decide +kernel
theorem dX7_readOne_24 : decode cX7_readOne 24 = .ok (.getfield 45, 3) := by decide +kernel
theorem dX7_readOne_27 : decode cX7_readOne 27 = .ok (.sipush 256, 3) := by decide +kernel
theorem dX7_readOne_30 : decode cX7_readOne 30 = .ok (.sipush 261, 3) := by decide +kernel
theorem dX7_readOne_33 : decode cX7_readOne 33 = .ok (.invokestatic 91, 3) := by decide +kernel
theorem dX7_readOne_36 : decode cX7_readOne 36 = .ok (.ifCond .eq 24, 3) := by decide +kernel
theorem dX7_readOne_39 : decode cX7_readOne 39 = .ok (.aload_n 0, 1) := by decide +kernel
theorem dX7_readOne_40 : decode cX7_readOne 40 = .ok (.iconst (-1), 1) := by decide +kernel
theorem dX7_readOne_41 : decode cX7_readOne 41 = .ok (.aload_n 0, 1) := by decide +kernel
theorem dX7_readOne_42 : decode cX7_readOne 42 = .ok (.getfield 45, 3) := by decide +kernel
theorem dX7_readOne_45 : decode cX7_readOne 45 = .ok (.sipush 256, 3) := by decide +kernel
theorem dX7_readOne_48 : decode cX7_readOne 48 = .ok (.isub, 1) := by decide +kernel
theorem dX7_readOne_49 : decode cX7_readOne 49 = .ok (.isub, 1) := by decide +kernel
theorem dX7_readOne_50 : decode cX7_readOne 50 = .ok (.invokevirtual 69, 3) := by decide +kernel
theorem dX7_readOne_53 : decode cX7_readOne 53 = .ok (.aload_n 0, 1) := by decide +kernel
theorem dX7_readOne_54 : decode cX7_readOne 54 = .ok (.invokevirtual 35, 3) := by decide +kernel
theorem dX7_readOne_57 : decode cX7_readOne 57 = .ok (.goto 85, 3) := by decide +kernel
theorem dX7_readOne_60 : decode cX7_readOne 60 = .ok (.aload_n 0, 1) := by decide +kernel
theorem dX7_readOne_61 : decode cX7_readOne 61 = .ok (.getfield 45, 3) := by decide +kernel
theorem dX7_readOne_64 : decode cX7_readOne 64 = .ok (.bipush 45, 2) := by decide +kernel
theorem dX7_readOne_66 : decode cX7_readOne 66 = .ok (.if_icmp .ne 33, 3) := by decide +kernel
theorem dX7_readOne_69 : decode cX7_readOne 69 = .ok (.aload_n 0, 1) := by decide +kernel
theorem dX7_readOne_70 : decode cX7_readOne 70 = .ok (.invokevirtual 75, 3) := by decide +kernel
theorem dX7_readOne_73 : decode cX7_readOne 73 = .ok (.ifCond .eq 69, 3) := by decide +kernel
theorem dX7_readOne_76 : decode cX7_readOne 76 = .ok (.aload_n 0, 1) := by decide +kernel
theorem dX7_readOne_77 : decode cX7_readOne 77 = .ok (.invokevirtual 85, 3) := by decide +kernel
theorem dX7_readOne_80 : decode cX7_readOne 80 = .ok (.aload_n 0, 1) := by decide +kernel
theorem dX7_readOne_81 : decode cX7_readOne 81 = .ok (.dup, 1) := by decide +kernel
theorem dX7_readOne_82 : decode cX7_readOne 82 = .ok (.getfield 29, 3) := by decide +kernel
theorem dX7_readOne_85 : decode cX7_readOne 85 = .ok (.iconst 1, 1) := by decide +kernel
theorem dX7_readOne_86 : decode cX7_readOne 86 = .ok (.isub, 1) := by decide +kernel
theorem dX7_readOne_87 : decode cX7_readOne 87 = .ok (.putfield 29, 3) := by decide +kernel
theorem dX7_readOne_90 : decode cX7_readOne 90 = .ok (.aload_n 0, 1) := by decide +kernel
theorem dX7_readOne_91 : decode cX7_readOne 91 = .ok (.bipush (-10), 2) := by decide +kernel
theorem dX7_readOne_93 : decode cX7_readOne 93 = .ok (.invokevirtual 69, 3) := by decide +kernel
theorem dX7_readOne_96 : decode cX7_readOne 96 = .ok (.goto 46, 3) := by decide +kernel
theorem dX7_readOne_99 : decode cX7_readOne 99 = .ok (.aload_n 0, 1) := by decide +kernel
theorem dX7_readOne_100 : decode cX7_readOne 100 = .ok (.getfield 45, 3) := by decide +kernel
theorem dX7_readOne_103 : decode cX7_readOne 103 = .ok (.bipush 40, 2) := by decide +kernel
theorem dX7_readOne_105 : decode cX7_readOne 105 = .ok (.if_icmp .ne 33, 3) := by decide +kernel
theorem dX7_readOne_108 : decode cX7_readOne 108 = .ok (.aload_n 0, 1) := by decide +kernel
theorem dX7_readOne_109 : decode cX7_readOne 109 = .ok (.invokevirtual 75, 3) := by decide +kernel
theorem dX7_readOne_112 : decode cX7_readOne 112 = .ok (.ifCond .eq 30, 3) := by decide +kernel
theorem dX7_readOne_115 : decode cX7_readOne 115 = .ok (.aload_n 0, 1) := by decide +kernel
theorem dX7_readOne_116 : decode cX7_readOne 116 = .ok (.invokevirtual 42, 3) := by decide +kernel
theorem dX7_readOne_119 : decode cX7_readOne 119 = .ok (.aload_n 0, 1) := by decide +kernel
theorem dX7_readOne_120 : decode cX7_readOne 120 = .ok (.bipush 41, 2) := by decide +kernel
theorem dX7_readOne_122 : decode cX7_readOne 122 = .ok (.invokevirtual 38, 3) := by decide +kernel
theorem dX7_readOne_125 : decode cX7_readOne 125 = .ok (.aload_n 0, 1) := by decide +kernel
theorem dX7_readOne_126 : decode cX7_readOne 126 = .ok (.dup, 1) := by decide +kernel
theorem dX7_readOne_127 : decode cX7_readOne 127 = .ok (.getfield 29, 3) := by decide +kernel
theorem dX7_readOne_130 : decode cX7_readOne 130 = .ok (.iconst 1, 1) := by decide +kernel
theorem dX7_readOne_131 : decode cX7_readOne 131 = .ok (.isub, 1) := by decide +kernel
theorem dX7_readOne_132 : decode cX7_readOne 132 = .ok (.putfield 29, 3) := by decide +kernel
theorem dX7_readOne_135 : decode cX7_readOne 135 = .ok (.goto 7, 3) := by decide +kernel
theorem dX7_readOne_138 : decode cX7_readOne 138 = .ok (.aload_n 0, 1) := by decide +kernel
theorem dX7_readOne_139 : decode cX7_readOne 139 = .ok (.invokevirtual 48, 3) := by decide +kernel
theorem dX7_readOne_142 : decode cX7_readOne 142 = .ok (.return_, 1) := by decide +kernel
theorem dX7_opened_0 : decode cX7_opened 0 = .ok (.aload_n 0, 1) := by decide +kernel
theorem dX7_opened_1 : decode cX7_opened 1 = .ok (.getfield 29, 3) := by decide +kernel
theorem dX7_opened_4 : decode cX7_opened 4 = .ok (.iconst 5, 1) := by decide +kernel
theorem dX7_opened_5 : decode cX7_opened 5 = .ok (.if_icmp .lt 9, 3) := by decide +kernel
theorem dX7_opened_8 : decode cX7_opened 8 = .ok (.aload_n 0, 1) := by decide +kernel
theorem dX7_opened_9 : decode cX7_opened 9 = .ok (.invokevirtual 48, 3) := by decide +kernel
theorem dX7_opened_12 : decode cX7_opened 12 = .ok (.iconst 0, 1) := by decide +kernel
theorem dX7_opened_13 : decode cX7_opened 13 = .ok (.ireturn, 1) := by decide +kernel
theorem dX7_opened_14 : decode cX7_opened 14 = .ok (.aload_n 0, 1) := by decide +kernel
theorem dX7_opened_15 : decode cX7_opened 15 = .ok (.dup, 1) := by decide +kernel
theorem dX7_opened_16 : decode cX7_opened 16 = .ok (.getfield 29, 3) := by decide +kernel
theorem dX7_opened_19 : decode cX7_opened 19 = .ok (.iconst 1, 1) := by decide +kernel
theorem dX7_opened_20 : decode cX7_opened 20 = .ok (.iadd, 1) := by decide +kernel
theorem dX7_opened_21 : decode cX7_opened 21 = .ok (.putfield 29, 3) := by decide +kernel
theorem dX7_opened_24 : decode cX7_opened 24 = .ok (.aload_n 0, 1) := by decide +kernel
theorem dX7_opened_25 : decode cX7_opened 25 = .ok (.invokevirtual 35, 3) := by decide +kernel
theorem dX7_opened_28 : decode cX7_opened 28 = .ok (.iconst 1, 1) := by decide +kernel
theorem dX7_opened_29 : decode cX7_opened 29 = .ok (.ireturn, 1) := by decide +kernel
theorem dX7_accept_0 : decode cX7_accept 0 = .ok (.aload_n 0, 1) := by decide +kernel
theorem dX7_accept_1 : decode cX7_accept 1 = .ok (.getfield 45, 3) := by decide +kernel
theorem dX7_accept_4 : decode cX7_accept 4 = .ok (.iload_n 1, 1) := by decide +kernel
theorem dX7_accept_5 : decode cX7_accept 5 = .ok (.if_icmp .eq 5, 3) := by decide +kernel
theorem dX7_accept_8 : decode cX7_accept 8 = .ok (.iconst 0, 1) := by decide +kernel
theorem dX7_accept_9 : decode cX7_accept 9 = .ok (.ireturn, 1) := by decide +kernel
theorem dX7_accept_10 : decode cX7_accept 10 = .ok (.aload_n 0, 1) := by decide +kernel
theorem dX7_accept_11 : decode cX7_accept 11 = .ok (.invokevirtual 35, 3) := by decide +kernel
theorem dX7_accept_14 : decode cX7_accept 14 = .ok (.iconst 1, 1) := by decide +kernel
theorem dX7_accept_15 : decode cX7_accept 15 = .ok (.ireturn, 1) := by decide +kernel
theorem dX7_need_0 : decode cX7_need 0 = .ok (.aload_n 0, 1) := by decide +kernel
theorem dX7_need_1 : decode cX7_need 1 = .ok (.iload_n 1, 1) := by decide +kernel
theorem dX7_need_2 : decode cX7_need 2 = .ok (.invokevirtual 65, 3) := by decide +kernel
theorem dX7_need_5 : decode cX7_need 5 = .ok (.ifCond .ne 7, 3) := by decide +kernel
theorem dX7_need_8 : decode cX7_need 8 = .ok (.aload_n 0, 1) := by decide +kernel
theorem dX7_need_9 : decode cX7_need 9 = .ok (.invokevirtual 48, 3) := by decide +kernel
theorem dX7_need_12 : decode cX7_need 12 = .ok (.return_, 1) := by decide +kernel
theorem dX7_fail_0 : decode cX7_fail 0 = .ok (.aload_n 0, 1) := by decide +kernel
theorem dX7_fail_1 : decode cX7_fail 1 = .ok (.getfield 23, 3) := by decide +kernel
theorem dX7_fail_4 : decode cX7_fail 4 = .ok (.iconst (-1), 1) := by decide +kernel
theorem dX7_fail_5 : decode cX7_fail 5 = .ok (.if_icmp .ne 11, 3) := by decide +kernel
theorem dX7_fail_8 : decode cX7_fail 8 = .ok (.aload_n 0, 1) := by decide +kernel
theorem dX7_fail_9 : decode cX7_fail 9 = .ok (.aload_n 0, 1) := by decide +kernel
theorem dX7_fail_10 : decode cX7_fail 10 = .ok (.getfield 95, 3) := by decide +kernel
theorem dX7_fail_13 : decode cX7_fail 13 = .ok (.putfield 23, 3) := by decide +kernel
theorem dX7_fail_16 : decode cX7_fail 16 = .ok (.aload_n 0, 1) := by decide +kernel
theorem dX7_fail_17 : decode cX7_fail 17 = .ok (.iconst 1, 1) := by decide +kernel
theorem dX7_fail_18 : decode cX7_fail 18 = .ok (.putfield 45, 3) := by decide +kernel
theorem dX7_fail_21 : decode cX7_fail 21 = .ok (.return_, 1) := by decide +kernel
theorem dX7_emit_0 : decode cX7_emit 0 = .ok (.aload_n 0, 1) := by decide +kernel
theorem dX7_emit_1 : decode cX7_emit 1 = .ok (.getfield 32, 3) := by decide +kernel
theorem dX7_emit_4 : decode cX7_emit 4 = .ok (.aload_n 0, 1) := by decide +kernel
theorem dX7_emit_5 : decode cX7_emit 5 = .ok (.getfield 15, 3) := by decide +kernel
theorem dX7_emit_8 : decode cX7_emit 8 = .ok (.arraylength, 1) := by decide +kernel
theorem dX7_emit_9 : decode cX7_emit 9 = .ok (.if_icmp .ge 23, 3) := by decide +kernel
theorem dX7_emit_12 : decode cX7_emit 12 = .ok (.aload_n 0, 1) := by decide +kernel
theorem dX7_emit_13 : decode cX7_emit 13 = .ok (.getfield 15, 3) := by decide +kernel
theorem dX7_emit_16 : decode cX7_emit 16 = .ok (.aload_n 0, 1) := by decide +kernel
theorem dX7_emit_17 : decode cX7_emit 17 = .ok (.getfield 32, 3) := by decide +kernel
theorem dX7_emit_20 : decode cX7_emit 20 = .ok (.iload_n 1, 1) := by decide +kernel
theorem dX7_emit_21 : decode cX7_emit 21 = .ok (.iastore, 1) := by decide +kernel
theorem dX7_emit_22 : decode cX7_emit 22 = .ok (.aload_n 0, 1) := by decide +kernel
theorem dX7_emit_23 : decode cX7_emit 23 = .ok (.dup, 1) := by decide +kernel
theorem dX7_emit_24 : decode cX7_emit 24 = .ok (.getfield 32, 3) := by decide +kernel
theorem dX7_emit_27 : decode cX7_emit 27 = .ok (.iconst 1, 1) := by decide +kernel
theorem dX7_emit_28 : decode cX7_emit 28 = .ok (.iadd, 1) := by decide +kernel
theorem dX7_emit_29 : decode cX7_emit 29 = .ok (.putfield 32, 3) := by decide +kernel
theorem dX7_emit_32 : decode cX7_emit 32 = .ok (.return_, 1) := by decide +kernel
theorem dX7_step_0 : decode cX7_step 0 = .ok (.aload_n 0, 1) := by decide +kernel
theorem dX7_step_1 : decode cX7_step 1 = .ok (.aload_n 0, 1) := by decide +kernel
theorem dX7_step_2 : decode cX7_step 2 = .ok (.getfield 26, 3) := by decide +kernel
theorem dX7_step_5 : decode cX7_step 5 = .ok (.putfield 95, 3) := by decide +kernel
theorem dX7_step_8 : decode cX7_step 8 = .ok (.aload_n 0, 1) := by decide +kernel
theorem dX7_step_9 : decode cX7_step 9 = .ok (.getfield 95, 3) := by decide +kernel
theorem dX7_step_12 : decode cX7_step 12 = .ok (.aload_n 0, 1) := by decide +kernel
theorem dX7_step_13 : decode cX7_step 13 = .ok (.getfield 19, 3) := by decide +kernel
theorem dX7_step_16 : decode cX7_step 16 = .ok (.if_icmp .ge 31, 3) := by decide +kernel
theorem dX7_step_19 : decode cX7_step 19 = .ok (.aload_n 0, 1) := by decide +kernel
theorem dX7_step_20 : decode cX7_step 20 = .ok (.getfield 11, 3) := by decide +kernel
theorem dX7_step_23 : decode cX7_step 23 = .ok (.aload_n 0, 1) := by decide +kernel
theorem dX7_step_24 : decode cX7_step 24 = .ok (.getfield 95, 3) := by decide +kernel
theorem dX7_step_27 : decode cX7_step 27 = .ok (.baload, 1) := by decide +kernel
theorem dX7_step_28 : decode cX7_step 28 = .ok (.invokestatic 98, 3) := by decide +kernel
theorem dX7_step_31 : decode cX7_step 31 = .ok (.ifCond .eq 16, 3) := by decide +kernel
theorem dX7_step_34 : decode cX7_step 34 = .ok (.aload_n 0, 1) := by decide +kernel
theorem dX7_step_35 : decode cX7_step 35 = .ok (.dup, 1) := by decide +kernel
theorem dX7_step_36 : decode cX7_step 36 = .ok (.getfield 95, 3) := by decide +kernel
theorem dX7_step_39 : decode cX7_step 39 = .ok (.iconst 1, 1) := by decide +kernel
theorem dX7_step_40 : decode cX7_step 40 = .ok (.iadd, 1) := by decide +kernel
theorem dX7_step_41 : decode cX7_step 41 = .ok (.putfield 95, 3) := by decide +kernel
theorem dX7_step_44 : decode cX7_step 44 = .ok (.goto (-36), 3) := by decide +kernel
theorem dX7_step_47 : decode cX7_step 47 = .ok (.aload_n 0, 1) := by decide +kernel
theorem dX7_step_48 : decode cX7_step 48 = .ok (.aload_n 0, 1) := by decide +kernel
theorem dX7_step_49 : decode cX7_step 49 = .ok (.getfield 95, 3) := by decide +kernel
theorem dX7_step_52 : decode cX7_step 52 = .ok (.iconst 1, 1) := by decide +kernel
theorem dX7_step_53 : decode cX7_step 53 = .ok (.iadd, 1) := by decide +kernel
theorem dX7_step_54 : decode cX7_step 54 = .ok (.putfield 26, 3) := by decide +kernel
theorem dX7_step_57 : decode cX7_step 57 = .ok (.aload_n 0, 1) := by decide +kernel
theorem dX7_step_58 : decode cX7_step 58 = .ok (.getfield 95, 3) := by decide +kernel
theorem dX7_step_61 : decode cX7_step 61 = .ok (.aload_n 0, 1) := by decide +kernel
theorem dX7_step_62 : decode cX7_step 62 = .ok (.getfield 19, 3) := by decide +kernel
theorem dX7_step_65 : decode cX7_step 65 = .ok (.if_icmp .lt 19, 3) := by decide +kernel
theorem dX7_step_68 : decode cX7_step 68 = .ok (.aload_n 0, 1) := by decide +kernel
theorem dX7_step_69 : decode cX7_step 69 = .ok (.iconst 0, 1) := by decide +kernel
theorem dX7_step_70 : decode cX7_step 70 = .ok (.putfield 45, 3) := by decide +kernel
theorem dX7_step_73 : decode cX7_step 73 = .ok (.aload_n 0, 1) := by decide +kernel
theorem dX7_step_74 : decode cX7_step 74 = .ok (.aload_n 0, 1) := by decide +kernel
theorem dX7_step_75 : decode cX7_step 75 = .ok (.getfield 19, 3) := by decide +kernel
theorem dX7_step_78 : decode cX7_step 78 = .ok (.putfield 26, 3) := by decide +kernel
theorem dX7_step_81 : decode cX7_step 81 = .ok (.goto 80, 3) := by decide +kernel
theorem dX7_step_84 : decode cX7_step 84 = .ok (.aload_n 0, 1) := by decide +kernel
theorem dX7_step_85 : decode cX7_step 85 = .ok (.getfield 11, 3) := by decide +kernel
theorem dX7_step_88 : decode cX7_step 88 = .ok (.aload_n 0, 1) := by decide +kernel
theorem dX7_step_89 : decode cX7_step 89 = .ok (.getfield 95, 3) := by decide +kernel
theorem dX7_step_92 : decode cX7_step 92 = .ok (.baload, 1) := by decide +kernel
theorem dX7_step_93 : decode cX7_step 93 = .ok (.invokestatic 101, 3) := by decide +kernel
theorem dX7_step_96 : decode cX7_step 96 = .ok (.ifCond .eq 10, 3) := by decide +kernel
theorem dX7_step_99 : decode cX7_step 99 = .ok (.aload_n 0, 1) := by decide +kernel
theorem dX7_step_100 : decode cX7_step 100 = .ok (.invokevirtual 104, 3) := by decide +kernel
theorem dX7_step_103 : decode cX7_step 103 = .ok (.goto 58, 3) := by decide +kernel
theorem dX7_step_106 : decode cX7_step 106 = .ok (.aload_n 0, 1) := by decide +kernel
theorem dX7_step_107 : decode cX7_step 107 = .ok (.getfield 11, 3) := by decide +kernel
theorem dX7_step_110 : decode cX7_step 110 = .ok (.aload_n 0, 1) := by decide +kernel
theorem dX7_step_111 : decode cX7_step 111 = .ok (.getfield 95, 3) := by decide +kernel
theorem dX7_step_114 : decode cX7_step 114 = .ok (.baload, 1) := by decide +kernel
theorem dX7_step_115 : decode cX7_step 115 = .ok (.invokestatic 107, 3) := by decide +kernel
theorem dX7_step_118 : decode cX7_step 118 = .ok (.ifCond .eq 10, 3) := by decide +kernel
theorem dX7_step_121 : decode cX7_step 121 = .ok (.aload_n 0, 1) := by decide +kernel
theorem dX7_step_122 : decode cX7_step 122 = .ok (.invokevirtual 110, 3) := by decide +kernel
theorem dX7_step_125 : decode cX7_step 125 = .ok (.goto 36, 3) := by decide +kernel
theorem dX7_step_128 : decode cX7_step 128 = .ok (.aload_n 0, 1) := by decide +kernel
theorem dX7_step_129 : decode cX7_step 129 = .ok (.getfield 11, 3) := by decide +kernel
theorem dX7_step_132 : decode cX7_step 132 = .ok (.aload_n 0, 1) := by decide +kernel
theorem dX7_step_133 : decode cX7_step 133 = .ok (.getfield 95, 3) := by decide +kernel
theorem dX7_step_136 : decode cX7_step 136 = .ok (.baload, 1) := by decide +kernel
theorem dX7_step_137 : decode cX7_step 137 = .ok (.sipush 255, 3) := by decide +kernel
theorem dX7_step_140 : decode cX7_step 140 = .ok (.iand, 1) := by decide +kernel
theorem dX7_step_141 : decode cX7_step 141 = .ok (.istore_n 1, 1) := by decide +kernel
theorem dX7_step_142 : decode cX7_step 142 = .ok (.aload_n 0, 1) := by decide +kernel
theorem dX7_step_143 : decode cX7_step 143 = .ok (.ldc 113, 2) := by decide +kernel
theorem dX7_step_145 : decode cX7_step 145 = .ok (.iload_n 1, 1) := by decide +kernel
theorem dX7_step_146 : decode cX7_step 146 = .ok (.i2c, 1) := by decide +kernel
theorem dX7_step_147 : decode cX7_step 147 = .ok (.invokevirtual 115, 3) := by decide +kernel
theorem dX7_step_150 : decode cX7_step 150 = .ok (.ifCond .lt 7, 3) := by decide +kernel
theorem dX7_step_153 : decode cX7_step 153 = .ok (.iload_n 1, 1) := by decide +kernel
theorem dX7_step_154 : decode cX7_step 154 = .ok (.goto 4, 3) := by decide +kernel
theorem dX7_step_157 : decode cX7_step 157 = .ok (.iconst 1, 1) := by decide +kernel
theorem dX7_step_158 : decode cX7_step 158 = .ok (.putfield 45, 3) := by decide +kernel
theorem dX7_step_161 : decode cX7_step 161 = .ok (.return_, 1) := by decide +kernel
theorem dX7_takeNumber_0 : decode cX7_takeNumber 0 = .ok (.aload_n 0, 1) := by decide +kernel
theorem dX7_takeNumber_1 : decode cX7_takeNumber 1 = .ok (.getfield 26, 3) := by decide +kernel
theorem dX7_takeNumber_4 : decode cX7_takeNumber 4 = .ok (.aload_n 0, 1) := by decide +kernel
theorem dX7_takeNumber_5 : decode cX7_takeNumber 5 = .ok (.getfield 19, 3) := by decide +kernel
theorem dX7_takeNumber_8 : decode cX7_takeNumber 8 = .ok (.if_icmp .ge 31, 3) := by decide +kernel
theorem dX7_takeNumber_11 : decode cX7_takeNumber 11 = .ok (.aload_n 0, 1) := by decide +kernel
theorem dX7_takeNumber_12 : decode cX7_takeNumber 12 = .ok (.getfield 11, 3) := by decide +kernel
theorem dX7_takeNumber_15 : decode cX7_takeNumber 15 = .ok (.aload_n 0, 1) := by decide +kernel
theorem dX7_takeNumber_16 : decode cX7_takeNumber 16 = .ok (.getfield 26, 3) := by decide +kernel
theorem dX7_takeNumber_19 : decode cX7_takeNumber 19 = .ok (.baload, 1) := by decide +kernel
theorem dX7_takeNumber_20 : decode cX7_takeNumber 20 = .ok (.invokestatic 101, 3) := by decide +kernel
theorem dX7_takeNumber_23 : decode cX7_takeNumber 23 = .ok (.ifCond .eq 16, 3) := by decide +kernel
theorem dX7_takeNumber_26 : decode cX7_takeNumber 26 = .ok (.aload_n 0, 1) := by decide +kernel
theorem dX7_takeNumber_27 : decode cX7_takeNumber 27 = .ok (.dup, 1) := by decide +kernel
theorem dX7_takeNumber_28 : decode cX7_takeNumber 28 = .ok (.getfield 26, 3) := by decide +kernel
theorem dX7_takeNumber_31 : decode cX7_takeNumber 31 = .ok (.iconst 1, 1) := by decide +kernel
theorem dX7_takeNumber_32 : decode cX7_takeNumber 32 = .ok (.iadd, 1) := by decide +kernel
theorem dX7_takeNumber_33 : decode cX7_takeNumber 33 = .ok (.putfield 26, 3) := by decide +kernel
theorem dX7_takeNumber_36 : decode cX7_takeNumber 36 = .ok (.goto (-36), 3) := by decide +kernel
theorem dX7_takeNumber_39 : decode cX7_takeNumber 39 = .ok (.aload_n 0, 1) := by decide +kernel
theorem dX7_takeNumber_40 : decode cX7_takeNumber 40 = .ok (.iconst 0, 1) := by decide +kernel
theorem dX7_takeNumber_41 : decode cX7_takeNumber 41 = .ok (.putfield 88, 3) := by decide +kernel
theorem dX7_takeNumber_44 : decode cX7_takeNumber 44 = .ok (.aload_n 0, 1) := by decide +kernel
theorem dX7_takeNumber_45 : decode cX7_takeNumber 45 = .ok (.getfield 95, 3) := by decide +kernel
theorem dX7_takeNumber_48 : decode cX7_takeNumber 48 = .ok (.istore_n 1, 1) := by decide +kernel
theorem dX7_takeNumber_49 : decode cX7_takeNumber 49 = .ok (.iload_n 1, 1) := by decide +kernel
theorem dX7_takeNumber_50 : decode cX7_takeNumber 50 = .ok (.aload_n 0, 1) := by decide +kernel
theorem dX7_takeNumber_51 : decode cX7_takeNumber 51 = .ok (.getfield 26, 3) := by decide +kernel
theorem dX7_takeNumber_54 : decode cX7_takeNumber 54 = .ok (.if_icmp .ge 30, 3) := by decide +kernel
theorem dX7_takeNumber_57 : decode cX7_takeNumber 57 = .ok (.aload_n 0, 1) := by decide +kernel
theorem dX7_takeNumber_58 : decode cX7_takeNumber 58 = .ok (.aload_n 0, 1) := by decide +kernel
theorem dX7_takeNumber_59 : decode cX7_takeNumber 59 = .ok (.getfield 88, 3) := by decide +kernel
theorem dX7_takeNumber_62 : decode cX7_takeNumber 62 = .ok (.bipush 10, 2) := by decide +kernel
theorem dX7_takeNumber_64 : decode cX7_takeNumber 64 = .ok (.imul, 1) := by decide +kernel
theorem dX7_takeNumber_65 : decode cX7_takeNumber 65 = .ok (.aload_n 0, 1) := by decide +kernel
theorem dX7_takeNumber_66 : decode cX7_takeNumber 66 = .ok (.getfield 11, 3) := by decide +kernel
theorem dX7_takeNumber_69 : decode cX7_takeNumber 69 = .ok (.iload_n 1, 1) := by decide +kernel
theorem dX7_takeNumber_70 : decode cX7_takeNumber 70 = .ok (.baload, 1) := by decide +kernel
theorem dX7_takeNumber_71 : decode cX7_takeNumber 71 = .ok (.iadd, 1) := by decide +kernel
theorem dX7_takeNumber_72 : decode cX7_takeNumber 72 = .ok (.bipush 48, 2) := by decide +kernel
theorem dX7_takeNumber_74 : decode cX7_takeNumber 74 = .ok (.isub, 1) := by decide +kernel
theorem dX7_takeNumber_75 : decode cX7_takeNumber 75 = .ok (.putfield 88, 3) := by decide +kernel
theorem dX7_takeNumber_78 : decode cX7_takeNumber 78 = .ok (.iinc 1 1, 3) := by decide +kernel
theorem dX7_takeNumber_81 : decode cX7_takeNumber 81 = .ok (.goto (-32), 3) := by decide +kernel
theorem dX7_takeNumber_84 : decode cX7_takeNumber 84 = .ok (.aload_n 0, 1) := by decide +kernel
theorem dX7_takeNumber_85 : decode cX7_takeNumber 85 = .ok (.aload_n 0, 1) := by decide +kernel
theorem dX7_takeNumber_86 : decode cX7_takeNumber 86 = .ok (.getfield 26, 3) := by decide +kernel
theorem dX7_takeNumber_89 : decode cX7_takeNumber 89 = .ok (.aload_n 0, 1) := by decide +kernel
theorem dX7_takeNumber_90 : decode cX7_takeNumber 90 = .ok (.getfield 95, 3) := by decide +kernel
theorem dX7_takeNumber_93 : decode cX7_takeNumber 93 = .ok (.isub, 1) := by decide +kernel
theorem dX7_takeNumber_94 : decode cX7_takeNumber 94 = .ok (.iconst 4, 1) := by decide +kernel
theorem dX7_takeNumber_95 : decode cX7_takeNumber 95 = .ok (.if_icmp .gt 7, 3) := by decide +kernel
theorem dX7_takeNumber_98 : decode cX7_takeNumber 98 = .ok (.iconst 2, 1) := by decide +kernel
theorem dX7_takeNumber_99 : decode cX7_takeNumber 99 = .ok (.goto 4, 3) := by decide +kernel
theorem dX7_takeNumber_102 : decode cX7_takeNumber 102 = .ok (.iconst 1, 1) := by decide +kernel
theorem dX7_takeNumber_103 : decode cX7_takeNumber 103 = .ok (.putfield 45, 3) := by decide +kernel
theorem dX7_takeNumber_106 : decode cX7_takeNumber 106 = .ok (.return_, 1) := by decide +kernel
theorem dX7_takeWord_0 : decode cX7_takeWord 0 = .ok (.aload_n 0, 1) := by decide +kernel
theorem dX7_takeWord_1 : decode cX7_takeWord 1 = .ok (.getfield 26, 3) := by decide +kernel
theorem dX7_takeWord_4 : decode cX7_takeWord 4 = .ok (.aload_n 0, 1) := by decide +kernel
theorem dX7_takeWord_5 : decode cX7_takeWord 5 = .ok (.getfield 19, 3) := by decide +kernel
theorem dX7_takeWord_8 : decode cX7_takeWord 8 = .ok (.if_icmp .ge 31, 3) := by decide +kernel
theorem dX7_takeWord_11 : decode cX7_takeWord 11 = .ok (.aload_n 0, 1) := by decide +kernel
theorem dX7_takeWord_12 : decode cX7_takeWord 12 = .ok (.getfield 11, 3) := by decide +kernel
theorem dX7_takeWord_15 : decode cX7_takeWord 15 = .ok (.aload_n 0, 1) := by decide +kernel
theorem dX7_takeWord_16 : decode cX7_takeWord 16 = .ok (.getfield 26, 3) := by decide +kernel
theorem dX7_takeWord_19 : decode cX7_takeWord 19 = .ok (.baload, 1) := by decide +kernel
theorem dX7_takeWord_20 : decode cX7_takeWord 20 = .ok (.invokestatic 107, 3) := by decide +kernel
theorem dX7_takeWord_23 : decode cX7_takeWord 23 = .ok (.ifCond .eq 16, 3) := by decide +kernel
theorem dX7_takeWord_26 : decode cX7_takeWord 26 = .ok (.aload_n 0, 1) := by decide +kernel
theorem dX7_takeWord_27 : decode cX7_takeWord 27 = .ok (.dup, 1) := by decide +kernel
theorem dX7_takeWord_28 : decode cX7_takeWord 28 = .ok (.getfield 26, 3) := by decide +kernel
theorem dX7_takeWord_31 : decode cX7_takeWord 31 = .ok (.iconst 1, 1) := by decide +kernel
theorem dX7_takeWord_32 : decode cX7_takeWord 32 = .ok (.iadd, 1) := by decide +kernel
theorem dX7_takeWord_33 : decode cX7_takeWord 33 = .ok (.putfield 26, 3) := by decide +kernel
theorem dX7_takeWord_36 : decode cX7_takeWord 36 = .ok (.goto (-36), 3) := by decide +kernel
theorem dX7_takeWord_39 : decode cX7_takeWord 39 = .ok (.aload_n 0, 1) := by decide +kernel
theorem dX7_takeWord_40 : decode cX7_takeWord 40 = .ok (.iconst 1, 1) := by decide +kernel
theorem dX7_takeWord_41 : decode cX7_takeWord 41 = .ok (.putfield 45, 3) := by decide +kernel
theorem dX7_takeWord_44 : decode cX7_takeWord 44 = .ok (.sipush 256, 3) := by decide +kernel
theorem dX7_takeWord_47 : decode cX7_takeWord 47 = .ok (.istore_n 1, 1) := by decide +kernel
theorem dX7_takeWord_48 : decode cX7_takeWord 48 = .ok (.iconst 0, 1) := by decide +kernel
theorem dX7_takeWord_49 : decode cX7_takeWord 49 = .ok (.istore_n 2, 1) := by decide +kernel
theorem dX7_takeWord_50 : decode cX7_takeWord 50 = .ok (.iconst 0, 1) := by decide +kernel
theorem dX7_takeWord_51 : decode cX7_takeWord 51 = .ok (.istore_n 3, 1) := by decide +kernel
theorem dX7_takeWord_52 : decode cX7_takeWord 52 = .ok (.iload_n 3, 1) := by decide +kernel
theorem dX7_takeWord_53 : decode cX7_takeWord 53 = .ok (.ldc 121, 2) := by decide +kernel
theorem dX7_takeWord_55 : decode cX7_takeWord 55 = .ok (.invokevirtual 123, 3) := by decide +kernel
theorem dX7_takeWord_58 : decode cX7_takeWord 58 = .ok (.if_icmp .ge 41, 3) := by decide +kernel
theorem dX7_takeWord_61 : decode cX7_takeWord 61 = .ok (.ldc 121, 2) := by decide +kernel
theorem dX7_takeWord_63 : decode cX7_takeWord 63 = .ok (.iload_n 3, 1) := by decide +kernel
theorem dX7_takeWord_64 : decode cX7_takeWord 64 = .ok (.invokevirtual 127, 3) := by decide +kernel
theorem dX7_takeWord_67 : decode cX7_takeWord 67 = .ok (.bipush 32, 2) := by decide +kernel
theorem dX7_takeWord_69 : decode cX7_takeWord 69 = .ok (.if_icmp .ne 24, 3) := by decide +kernel
theorem dX7_takeWord_72 : decode cX7_takeWord 72 = .ok (.aload_n 0, 1) := by decide +kernel
theorem dX7_takeWord_73 : decode cX7_takeWord 73 = .ok (.iload_n 2, 1) := by decide +kernel
theorem dX7_takeWord_74 : decode cX7_takeWord 74 = .ok (.iload_n 3, 1) := by decide +kernel
theorem dX7_takeWord_75 : decode cX7_takeWord 75 = .ok (.invokevirtual 131, 3) := by decide +kernel
theorem dX7_takeWord_78 : decode cX7_takeWord 78 = .ok (.ifCond .eq 8, 3) := by decide +kernel
theorem dX7_takeWord_81 : decode cX7_takeWord 81 = .ok (.aload_n 0, 1) := by decide +kernel
theorem dX7_takeWord_82 : decode cX7_takeWord 82 = .ok (.iload_n 1, 1) := by decide +kernel
theorem dX7_takeWord_83 : decode cX7_takeWord 83 = .ok (.putfield 45, 3) := by decide +kernel
theorem dX7_takeWord_86 : decode cX7_takeWord 86 = .ok (.iinc 1 1, 3) := by decide +kernel
theorem dX7_takeWord_89 : decode cX7_takeWord 89 = .ok (.iload_n 3, 1) := by decide +kernel
theorem dX7_takeWord_90 : decode cX7_takeWord 90 = .ok (.iconst 1, 1) := by decide +kernel
theorem dX7_takeWord_91 : decode cX7_takeWord 91 = .ok (.iadd, 1) := by decide +kernel
theorem dX7_takeWord_92 : decode cX7_takeWord 92 = .ok (.istore_n 2, 1) := by decide +kernel
theorem dX7_takeWord_93 : decode cX7_takeWord 93 = .ok (.iinc 3 1, 3) := by decide +kernel
theorem dX7_takeWord_96 : decode cX7_takeWord 96 = .ok (.goto (-44), 3) := by decide +kernel
theorem dX7_takeWord_99 : decode cX7_takeWord 99 = .ok (.return_, 1) := by decide +kernel
theorem dX7_isSpelled_0 : decode cX7_isSpelled 0 = .ok (.aload_n 0, 1) := by decide +kernel
theorem dX7_isSpelled_1 : decode cX7_isSpelled 1 = .ok (.getfield 26, 3) := by decide +kernel
theorem dX7_isSpelled_4 : decode cX7_isSpelled 4 = .ok (.aload_n 0, 1) := by decide +kernel
theorem dX7_isSpelled_5 : decode cX7_isSpelled 5 = .ok (.getfield 95, 3) := by decide +kernel
theorem dX7_isSpelled_8 : decode cX7_isSpelled 8 = .ok (.isub, 1) := by decide +kernel
theorem dX7_isSpelled_9 : decode cX7_isSpelled 9 = .ok (.iload_n 2, 1) := by decide +kernel
theorem dX7_isSpelled_10 : decode cX7_isSpelled 10 = .ok (.iload_n 1, 1) := by decide +kernel
theorem dX7_isSpelled_11 : decode cX7_isSpelled 11 = .ok (.isub, 1) := by decide +kernel
theorem dX7_isSpelled_12 : decode cX7_isSpelled 12 = .ok (.if_icmp .eq 5, 3) := by decide +kernel
theorem dX7_isSpelled_15 : decode cX7_isSpelled 15 = .ok (.iconst 0, 1) := by decide +kernel
theorem dX7_isSpelled_16 : decode cX7_isSpelled 16 = .ok (.ireturn, 1) := by decide +kernel
theorem dX7_isSpelled_17 : decode cX7_isSpelled 17 = .ok (.iload_n 1, 1) := by decide +kernel
theorem dX7_isSpelled_18 : decode cX7_isSpelled 18 = .ok (.istore_n 3, 1) := by decide +kernel
theorem dX7_isSpelled_19 : decode cX7_isSpelled 19 = .ok (.iload_n 3, 1) := by decide +kernel
theorem dX7_isSpelled_20 : decode cX7_isSpelled 20 = .ok (.iload_n 2, 1) := by decide +kernel
theorem dX7_isSpelled_21 : decode cX7_isSpelled 21 = .ok (.if_icmp .ge 33, 3) := by decide +kernel
theorem dX7_isSpelled_24 : decode cX7_isSpelled 24 = .ok (.ldc 121, 2) := by decide +kernel
theorem dX7_isSpelled_26 : decode cX7_isSpelled 26 = .ok (.iload_n 3, 1) := by decide +kernel
theorem dX7_isSpelled_27 : decode cX7_isSpelled 27 = .ok (.invokevirtual 127, 3) := by decide +kernel
theorem dX7_isSpelled_30 : decode cX7_isSpelled 30 = .ok (.aload_n 0, 1) := by decide +kernel
theorem dX7_isSpelled_31 : decode cX7_isSpelled 31 = .ok (.getfield 11, 3) := by decide +kernel
theorem dX7_isSpelled_34 : decode cX7_isSpelled 34 = .ok (.aload_n 0, 1) := by decide +kernel
theorem dX7_isSpelled_35 : decode cX7_isSpelled 35 = .ok (.getfield 95, 3) := by decide +kernel
theorem dX7_isSpelled_38 : decode cX7_isSpelled 38 = .ok (.iload_n 3, 1) := by decide +kernel
theorem dX7_isSpelled_39 : decode cX7_isSpelled 39 = .ok (.iadd, 1) := by decide +kernel
theorem dX7_isSpelled_40 : decode cX7_isSpelled 40 = .ok (.iload_n 1, 1) := by decide +kernel
theorem dX7_isSpelled_41 : decode cX7_isSpelled 41 = .ok (.isub, 1) := by decide +kernel
theorem dX7_isSpelled_42 : decode cX7_isSpelled 42 = .ok (.baload, 1) := by decide +kernel
theorem dX7_isSpelled_43 : decode cX7_isSpelled 43 = .ok (.if_icmp .eq 5, 3) := by decide +kernel
theorem dX7_isSpelled_46 : decode cX7_isSpelled 46 = .ok (.iconst 0, 1) := by decide +kernel
theorem dX7_isSpelled_47 : decode cX7_isSpelled 47 = .ok (.ireturn, 1) := by decide +kernel
theorem dX7_isSpelled_48 : decode cX7_isSpelled 48 = .ok (.iinc 3 1, 3) := by decide +kernel
theorem dX7_isSpelled_51 : decode cX7_isSpelled 51 = .ok (.goto (-32), 3) := by decide +kernel
theorem dX7_isSpelled_54 : decode cX7_isSpelled 54 = .ok (.iconst 1, 1) := by decide +kernel
theorem dX7_isSpelled_55 : decode cX7_isSpelled 55 = .ok (.ireturn, 1) := by decide +kernel
theorem dX7_isBlank_0 : decode cX7_isBlank 0 = .ok (.iload_n 0, 1) := by decide +kernel
theorem dX7_isBlank_1 : decode cX7_isBlank 1 = .ok (.bipush 32, 2) := by decide +kernel
theorem dX7_isBlank_3 : decode cX7_isBlank 3 = .ok (.if_icmp .eq 9, 3) := by decide +kernel
theorem dX7_isBlank_6 : decode cX7_isBlank 6 = .ok (.iload_n 0, 1) := by decide +kernel
theorem dX7_isBlank_7 : decode cX7_isBlank 7 = .ok (.bipush 10, 2) := by decide +kernel
theorem dX7_isBlank_9 : decode cX7_isBlank 9 = .ok (.if_icmp .ne 7, 3) := by decide +kernel
theorem dX7_isBlank_12 : decode cX7_isBlank 12 = .ok (.iconst 1, 1) := by decide +kernel
theorem dX7_isBlank_13 : decode cX7_isBlank 13 = .ok (.goto 4, 3) := by decide +kernel
theorem dX7_isBlank_16 : decode cX7_isBlank 16 = .ok (.iconst 0, 1) := by decide +kernel
theorem dX7_isBlank_17 : decode cX7_isBlank 17 = .ok (.ireturn, 1) := by decide +kernel
theorem dX7_isDigit_0 : decode cX7_isDigit 0 = .ok (.iload_n 0, 1) := by decide +kernel
theorem dX7_isDigit_1 : decode cX7_isDigit 1 = .ok (.bipush 48, 2) := by decide +kernel
theorem dX7_isDigit_3 : decode cX7_isDigit 3 = .ok (.if_icmp .lt 13, 3) := by decide +kernel
theorem dX7_isDigit_6 : decode cX7_isDigit 6 = .ok (.iload_n 0, 1) := by decide +kernel
theorem dX7_isDigit_7 : decode cX7_isDigit 7 = .ok (.bipush 57, 2) := by decide +kernel
theorem dX7_isDigit_9 : decode cX7_isDigit 9 = .ok (.if_icmp .gt 7, 3) := by decide +kernel
theorem dX7_isDigit_12 : decode cX7_isDigit 12 = .ok (.iconst 1, 1) := by decide +kernel
theorem dX7_isDigit_13 : decode cX7_isDigit 13 = .ok (.goto 4, 3) := by decide +kernel
theorem dX7_isDigit_16 : decode cX7_isDigit 16 = .ok (.iconst 0, 1) := by decide +kernel
theorem dX7_isDigit_17 : decode cX7_isDigit 17 = .ok (.ireturn, 1) := by decide +kernel
theorem dX7_isLetter_0 : decode cX7_isLetter 0 = .ok (.iload_n 0, 1) := by decide +kernel
theorem dX7_isLetter_1 : decode cX7_isLetter 1 = .ok (.bipush 97, 2) := by decide +kernel
theorem dX7_isLetter_3 : decode cX7_isLetter 3 = .ok (.if_icmp .lt 13, 3) := by decide +kernel
theorem dX7_isLetter_6 : decode cX7_isLetter 6 = .ok (.iload_n 0, 1) := by decide +kernel
theorem dX7_isLetter_7 : decode cX7_isLetter 7 = .ok (.bipush 122, 2) := by decide +kernel
theorem dX7_isLetter_9 : decode cX7_isLetter 9 = .ok (.if_icmp .gt 7, 3) := by decide +kernel
theorem dX7_isLetter_12 : decode cX7_isLetter 12 = .ok (.iconst 1, 1) := by decide +kernel
theorem dX7_isLetter_13 : decode cX7_isLetter 13 = .ok (.goto 4, 3) := by decide +kernel
theorem dX7_isLetter_16 : decode cX7_isLetter 16 = .ok (.iconst 0, 1) := by decide +kernel
theorem dX7_isLetter_17 : decode cX7_isLetter 17 = .ok (.ireturn, 1) := by decide +kernel
theorem dX8_init_0 : decode cX8_init 0 = .ok (.aload_n 0, 1) := by decide +kernel
theorem dX8_init_1 : decode cX8_init 1 = .ok (.iload_n 1, 1) := by decide +kernel
theorem dX8_init_2 : decode cX8_init 2 = .ok (.iload_n 2, 1) := by decide +kernel
theorem dX8_init_3 : decode cX8_init 3 = .ok (.iload_n 3, 1) := by decide +kernel
theorem dX8_init_4 : decode cX8_init 4 = .ok (.iload 4, 2) := by decide +kernel
theorem dX8_init_6 : decode cX8_init 6 = .ok (.invokespecial 1, 3) := by decide +kernel
theorem dX8_init_9 : decode cX8_init 9 = .ok (.return_, 1) := by decide +kernel
theorem dX8_bears_0 : decode cX8_bears 0 = .ok (.aload_n 0, 1) := by decide +kernel
theorem dX8_bears_1 : decode cX8_bears 1 = .ok (.iload_n 1, 1) := by decide +kernel
theorem dX8_bears_2 : decode cX8_bears 2 = .ok (.invokespecial 7, 3) := by decide +kernel
theorem dX8_bears_5 : decode cX8_bears 5 = .ok (.aload_n 0, 1) := by decide +kernel
theorem dX8_bears_6 : decode cX8_bears 6 = .ok (.getfield 11, 3) := by decide +kernel
theorem dX8_bears_9 : decode cX8_bears 9 = .ok (.iadd, 1) := by decide +kernel
theorem dX8_bears_10 : decode cX8_bears 10 = .ok (.ireturn, 1) := by decide +kernel
theorem dX8_brings_0 : decode cX8_brings 0 = .ok (.aload_n 0, 1) := by decide +kernel
theorem dX8_brings_1 : decode cX8_brings 1 = .ok (.invokespecial 17, 3) := by decide +kernel
theorem dX8_brings_4 : decode cX8_brings 4 = .ok (.aload_n 0, 1) := by decide +kernel
theorem dX8_brings_5 : decode cX8_brings 5 = .ok (.getfield 11, 3) := by decide +kernel
theorem dX8_brings_8 : decode cX8_brings 8 = .ok (.isub, 1) := by decide +kernel
theorem dX8_brings_9 : decode cX8_brings 9 = .ok (.ireturn, 1) := by decide +kernel
theorem dX9_init_0 : decode cX9_init 0 = .ok (.aload_n 0, 1) := by decide +kernel
theorem dX9_init_1 : decode cX9_init 1 = .ok (.invokespecial 3, 3) := by decide +kernel
theorem dX9_init_4 : decode cX9_init 4 = .ok (.aload_n 0, 1) := by decide +kernel
theorem dX9_init_5 : decode cX9_init 5 = .ok (.bipush 6, 2) := by decide +kernel
theorem dX9_init_7 : decode cX9_init 7 = .ok (.newarray .int, 2) := by decide +kernel
theorem dX9_init_9 : decode cX9_init 9 = .ok (.putfield 11, 3) := by decide +kernel
theorem dX9_init_12 : decode cX9_init 12 = .ok (.aload_n 0, 1) := by decide +kernel
theorem dX9_init_13 : decode cX9_init 13 = .ok (.aload_n 1, 1) := by decide +kernel
theorem dX9_init_14 : decode cX9_init 14 = .ok (.putfield 17, 3) := by decide +kernel
theorem dX9_init_17 : decode cX9_init 17 = .ok (.aload_n 0, 1) := by decide +kernel
theorem dX9_init_18 : decode cX9_init 18 = .ok (.aload_n 2, 1) := by decide +kernel
theorem dX9_init_19 : decode cX9_init 19 = .ok (.putfield 20, 3) := by decide +kernel
theorem dX9_init_22 : decode cX9_init 22 = .ok (.aload_n 0, 1) := by decide +kernel
theorem dX9_init_23 : decode cX9_init 23 = .ok (.aload_n 1, 1) := by decide +kernel
theorem dX9_init_24 : decode cX9_init 24 = .ok (.arraylength, 1) := by decide +kernel
theorem dX9_init_25 : decode cX9_init 25 = .ok (.newarray .int, 2) := by decide +kernel
theorem dX9_init_27 : decode cX9_init 27 = .ok (.putfield 23, 3) := by decide +kernel
theorem dX9_init_30 : decode cX9_init 30 = .ok (.return_, 1) := by decide +kernel
theorem dX9_firstRule_0 : decode cX9_firstRule 0 = .ok (.new 12, 3) := by decide +kernel
theorem dX9_firstRule_3 : decode cX9_firstRule 3 = .ok (.dup, 1) := by decide +kernel
theorem dX9_firstRule_4 : decode cX9_firstRule 4 = .ok (.iconst 3, 1) := by decide +kernel
theorem dX9_firstRule_5 : decode cX9_firstRule 5 = .ok (.newarray .int, 2) := by decide +kernel
theorem dX9_firstRule_7 : decode cX9_firstRule 7 = .ok (.dup, 1) := by decide +kernel
theorem dX9_firstRule_8 : decode cX9_firstRule 8 = .ok (.iconst 0, 1) := by decide +kernel
theorem dX9_firstRule_9 : decode cX9_firstRule 9 = .ok (.iconst 0, 1) := by decide +kernel
theorem dX9_firstRule_10 : decode cX9_firstRule 10 = .ok (.iastore, 1) := by decide +kernel
theorem dX9_firstRule_11 : decode cX9_firstRule 11 = .ok (.dup, 1) := by decide +kernel
theorem dX9_firstRule_12 : decode cX9_firstRule 12 = .ok (.iconst 1, 1) := by decide +kernel
theorem dX9_firstRule_13 : decode cX9_firstRule 13 = .ok (.bipush (-2), 2) := by decide +kernel
theorem dX9_firstRule_15 : decode cX9_firstRule 15 = .ok (.iastore, 1) := by decide +kernel
theorem dX9_firstRule_16 : decode cX9_firstRule 16 = .ok (.dup, 1) := by decide +kernel
theorem dX9_firstRule_17 : decode cX9_firstRule 17 = .ok (.iconst 2, 1) := by decide +kernel
theorem dX9_firstRule_18 : decode cX9_firstRule 18 = .ok (.bipush (-3), 2) := by decide +kernel
theorem dX9_firstRule_20 : decode cX9_firstRule 20 = .ok (.iastore, 1) := by decide +kernel
theorem dX9_firstRule_21 : decode cX9_firstRule 21 = .ok (.iconst 3, 1) := by decide +kernel
theorem dX9_firstRule_22 : decode cX9_firstRule 22 = .ok (.newarray .int, 2) := by decide +kernel
theorem dX9_firstRule_24 : decode cX9_firstRule 24 = .ok (.dup, 1) := by decide +kernel
theorem dX9_firstRule_25 : decode cX9_firstRule 25 = .ok (.iconst 0, 1) := by decide +kernel
theorem dX9_firstRule_26 : decode cX9_firstRule 26 = .ok (.iconst 1, 1) := by decide +kernel
theorem dX9_firstRule_27 : decode cX9_firstRule 27 = .ok (.iastore, 1) := by decide +kernel
theorem dX9_firstRule_28 : decode cX9_firstRule 28 = .ok (.dup, 1) := by decide +kernel
theorem dX9_firstRule_29 : decode cX9_firstRule 29 = .ok (.iconst 1, 1) := by decide +kernel
theorem dX9_firstRule_30 : decode cX9_firstRule 30 = .ok (.iconst 2, 1) := by decide +kernel
theorem dX9_firstRule_31 : decode cX9_firstRule 31 = .ok (.iastore, 1) := by decide +kernel
theorem dX9_firstRule_32 : decode cX9_firstRule 32 = .ok (.dup, 1) := by decide +kernel
theorem dX9_firstRule_33 : decode cX9_firstRule 33 = .ok (.iconst 2, 1) := by decide +kernel
theorem dX9_firstRule_34 : decode cX9_firstRule 34 = .ok (.iconst 3, 1) := by decide +kernel
theorem dX9_firstRule_35 : decode cX9_firstRule 35 = .ok (.iastore, 1) := by decide +kernel
theorem dX9_firstRule_36 : decode cX9_firstRule 36 = .ok (.invokespecial 26, 3) := by decide +kernel
theorem dX9_firstRule_39 : decode cX9_firstRule 39 = .ok (.areturn, 1) := by decide +kernel
theorem dX9_seenApart_0 : decode cX9_seenApart 0 = .ok (.aload_n 2, 1) := by decide +kernel
theorem dX9_seenApart_1 : decode cX9_seenApart 1 = .ok (.iload_n 3, 1) := by decide +kernel
theorem dX9_seenApart_2 : decode cX9_seenApart 2 = .ok (.iaload, 1) := by decide +kernel
theorem dX9_seenApart_3 : decode cX9_seenApart 3 = .ok (.aload_n 2, 1) := by decide +kernel
theorem dX9_seenApart_4 : decode cX9_seenApart 4 = .ok (.iload 4, 2) := by decide +kernel
theorem dX9_seenApart_6 : decode cX9_seenApart 6 = .ok (.iaload, 1) := by decide +kernel
theorem dX9_seenApart_7 : decode cX9_seenApart 7 = .ok (.iadd, 1) := by decide +kernel
theorem dX9_seenApart_8 : decode cX9_seenApart 8 = .ok (.istore 5, 2) := by decide +kernel
theorem dX9_seenApart_10 : decode cX9_seenApart 10 = .ok (.aload_n 1, 1) := by decide +kernel
theorem dX9_seenApart_11 : decode cX9_seenApart 11 = .ok (.iload_n 3, 1) := by decide +kernel
theorem dX9_seenApart_12 : decode cX9_seenApart 12 = .ok (.invokevirtual 29, 3) := by decide +kernel
theorem dX9_seenApart_15 : decode cX9_seenApart 15 = .ok (.aload_n 1, 1) := by decide +kernel
theorem dX9_seenApart_16 : decode cX9_seenApart 16 = .ok (.iload 4, 2) := by decide +kernel
theorem dX9_seenApart_18 : decode cX9_seenApart 18 = .ok (.invokevirtual 29, 3) := by decide +kernel
theorem dX9_seenApart_21 : decode cX9_seenApart 21 = .ok (.isub, 1) := by decide +kernel
theorem dX9_seenApart_22 : decode cX9_seenApart 22 = .ok (.invokestatic 35, 3) := by decide +kernel
theorem dX9_seenApart_25 : decode cX9_seenApart 25 = .ok (.istore 6, 2) := by decide +kernel
theorem dX9_seenApart_27 : decode cX9_seenApart 27 = .ok (.aload_n 1, 1) := by decide +kernel
theorem dX9_seenApart_28 : decode cX9_seenApart 28 = .ok (.getfield 40, 3) := by decide +kernel
theorem dX9_seenApart_31 : decode cX9_seenApart 31 = .ok (.iload_n 3, 1) := by decide +kernel
theorem dX9_seenApart_32 : decode cX9_seenApart 32 = .ok (.iaload, 1) := by decide +kernel
theorem dX9_seenApart_33 : decode cX9_seenApart 33 = .ok (.aload_n 1, 1) := by decide +kernel
theorem dX9_seenApart_34 : decode cX9_seenApart 34 = .ok (.getfield 40, 3) := by decide +kernel
theorem dX9_seenApart_37 : decode cX9_seenApart 37 = .ok (.iload 4, 2) := by decide +kernel
theorem dX9_seenApart_39 : decode cX9_seenApart 39 = .ok (.iaload, 1) := by decide +kernel
theorem dX9_seenApart_40 : decode cX9_seenApart 40 = .ok (.if_icmp .ne 7, 3) := by decide +kernel
theorem dX9_seenApart_43 : decode cX9_seenApart 43 = .ok (.iconst 0, 1) := by decide +kernel
theorem dX9_seenApart_44 : decode cX9_seenApart 44 = .ok (.goto 4, 3) := by decide +kernel
theorem dX9_seenApart_47 : decode cX9_seenApart 47 = .ok (.iconst 1, 1) := by decide +kernel
theorem dX9_seenApart_48 : decode cX9_seenApart 48 = .ok (.istore 7, 2) := by decide +kernel
theorem dX9_seenApart_50 : decode cX9_seenApart 50 = .ok (.aload_n 0, 1) := by decide +kernel
theorem dX9_seenApart_51 : decode cX9_seenApart 51 = .ok (.iload 5, 2) := by decide +kernel
theorem dX9_seenApart_53 : decode cX9_seenApart 53 = .ok (.iload 6, 2) := by decide +kernel
theorem dX9_seenApart_55 : decode cX9_seenApart 55 = .ok (.iconst 0, 1) := by decide +kernel
theorem dX9_seenApart_56 : decode cX9_seenApart 56 = .ok (.iconst 0, 1) := by decide +kernel
theorem dX9_seenApart_57 : decode cX9_seenApart 57 = .ok (.iload 7, 2) := by decide +kernel
theorem dX9_seenApart_59 : decode cX9_seenApart 59 = .ok (.aload_n 1, 1) := by decide +kernel
theorem dX9_seenApart_60 : decode cX9_seenApart 60 = .ok (.getfield 40, 3) := by decide +kernel
theorem dX9_seenApart_63 : decode cX9_seenApart 63 = .ok (.iload_n 3, 1) := by decide +kernel
theorem dX9_seenApart_64 : decode cX9_seenApart 64 = .ok (.iload 4, 2) := by decide +kernel
theorem dX9_seenApart_66 : decode cX9_seenApart 66 = .ok (.invokestatic 43, 3) := by decide +kernel
theorem dX9_seenApart_69 : decode cX9_seenApart 69 = .ok (.iaload, 1) := by decide +kernel
theorem dX9_seenApart_70 : decode cX9_seenApart 70 = .ok (.invokevirtual 47, 3) := by decide +kernel
theorem dX9_seenApart_73 : decode cX9_seenApart 73 = .ok (.aload_n 0, 1) := by decide +kernel
theorem dX9_seenApart_74 : decode cX9_seenApart 74 = .ok (.iconst 1, 1) := by decide +kernel
theorem dX9_seenApart_75 : decode cX9_seenApart 75 = .ok (.invokevirtual 51, 3) := by decide +kernel
theorem dX9_seenApart_78 : decode cX9_seenApart 78 = .ok (.sipush 999, 3) := by decide +kernel
theorem dX9_seenApart_81 : decode cX9_seenApart 81 = .ok (.invokestatic 54, 3) := by decide +kernel
theorem dX9_seenApart_84 : decode cX9_seenApart 84 = .ok (.ireturn, 1) := by decide +kernel
theorem dX9_bearsInAll_0 : decode cX9_bearsInAll 0 = .ok (.aload_n 1, 1) := by decide +kernel
theorem dX9_bearsInAll_1 : decode cX9_bearsInAll 1 = .ok (.getstatic 57, 3) := by decide +kernel
theorem dX9_bearsInAll_4 : decode cX9_bearsInAll 4 = .ok (.iload_n 2, 1) := by decide +kernel
theorem dX9_bearsInAll_5 : decode cX9_bearsInAll 5 = .ok (.iaload, 1) := by decide +kernel
theorem dX9_bearsInAll_6 : decode cX9_bearsInAll 6 = .ok (.invokevirtual 60, 3) := by decide +kernel
theorem dX9_bearsInAll_9 : decode cX9_bearsInAll 9 = .ok (.aload_n 1, 1) := by decide +kernel
theorem dX9_bearsInAll_10 : decode cX9_bearsInAll 10 = .ok (.getstatic 65, 3) := by decide +kernel
theorem dX9_bearsInAll_13 : decode cX9_bearsInAll 13 = .ok (.iload_n 2, 1) := by decide +kernel
theorem dX9_bearsInAll_14 : decode cX9_bearsInAll 14 = .ok (.iaload, 1) := by decide +kernel
theorem dX9_bearsInAll_15 : decode cX9_bearsInAll 15 = .ok (.invokevirtual 60, 3) := by decide +kernel
theorem dX9_bearsInAll_18 : decode cX9_bearsInAll 18 = .ok (.iadd, 1) := by decide +kernel
theorem dX9_bearsInAll_19 : decode cX9_bearsInAll 19 = .ok (.istore_n 3, 1) := by decide +kernel
theorem dX9_bearsInAll_20 : decode cX9_bearsInAll 20 = .ok (.aload_n 1, 1) := by decide +kernel
theorem dX9_bearsInAll_21 : decode cX9_bearsInAll 21 = .ok (.iload_n 2, 1) := by decide +kernel
theorem dX9_bearsInAll_22 : decode cX9_bearsInAll 22 = .ok (.invokevirtual 68, 3) := by decide +kernel
theorem dX9_bearsInAll_25 : decode cX9_bearsInAll 25 = .ok (.istore 4, 2) := by decide +kernel
theorem dX9_bearsInAll_27 : decode cX9_bearsInAll 27 = .ok (.aload_n 0, 1) := by decide +kernel
theorem dX9_bearsInAll_28 : decode cX9_bearsInAll 28 = .ok (.iload_n 3, 1) := by decide +kernel
theorem dX9_bearsInAll_29 : decode cX9_bearsInAll 29 = .ok (.iload 4, 2) := by decide +kernel
theorem dX9_bearsInAll_31 : decode cX9_bearsInAll 31 = .ok (.aload_n 1, 1) := by decide +kernel
theorem dX9_bearsInAll_32 : decode cX9_bearsInAll 32 = .ok (.getfield 71, 3) := by decide +kernel
theorem dX9_bearsInAll_35 : decode cX9_bearsInAll 35 = .ok (.aload_n 1, 1) := by decide +kernel
theorem dX9_bearsInAll_36 : decode cX9_bearsInAll 36 = .ok (.getfield 75, 3) := by decide +kernel
theorem dX9_bearsInAll_39 : decode cX9_bearsInAll 39 = .ok (.iconst 0, 1) := by decide +kernel
theorem dX9_bearsInAll_40 : decode cX9_bearsInAll 40 = .ok (.iload_n 2, 1) := by decide +kernel
theorem dX9_bearsInAll_41 : decode cX9_bearsInAll 41 = .ok (.invokevirtual 47, 3) := by decide +kernel
theorem dX9_bearsInAll_44 : decode cX9_bearsInAll 44 = .ok (.iload 4, 2) := by decide +kernel
theorem dX9_bearsInAll_46 : decode cX9_bearsInAll 46 = .ok (.aload_n 0, 1) := by decide +kernel
theorem dX9_bearsInAll_47 : decode cX9_bearsInAll 47 = .ok (.iconst 0, 1) := by decide +kernel
theorem dX9_bearsInAll_48 : decode cX9_bearsInAll 48 = .ok (.invokevirtual 51, 3) := by decide +kernel
theorem dX9_bearsInAll_51 : decode cX9_bearsInAll 51 = .ok (.bipush 99, 2) := by decide +kernel
theorem dX9_bearsInAll_53 : decode cX9_bearsInAll 53 = .ok (.invokestatic 54, 3) := by decide +kernel
theorem dX9_bearsInAll_56 : decode cX9_bearsInAll 56 = .ok (.iadd, 1) := by decide +kernel
theorem dX9_bearsInAll_57 : decode cX9_bearsInAll 57 = .ok (.ireturn, 1) := by decide +kernel
theorem dX9_keepBy_0 : decode cX9_keepBy 0 = .ok (.aload_n 0, 1) := by decide +kernel
theorem dX9_keepBy_1 : decode cX9_keepBy 1 = .ok (.aload_n 1, 1) := by decide +kernel
theorem dX9_keepBy_2 : decode cX9_keepBy 2 = .ok (.invokevirtual 78, 3) := by decide +kernel
theorem dX9_keepBy_5 : decode cX9_keepBy 5 = .ok (.iconst 0, 1) := by decide +kernel
theorem dX9_keepBy_6 : decode cX9_keepBy 6 = .ok (.aload_n 1, 1) := by decide +kernel
theorem dX9_keepBy_7 : decode cX9_keepBy 7 = .ok (.getfield 71, 3) := by decide +kernel
theorem dX9_keepBy_10 : decode cX9_keepBy 10 = .ok (.aload_n 1, 1) := by decide +kernel
theorem dX9_keepBy_11 : decode cX9_keepBy 11 = .ok (.getfield 75, 3) := by decide +kernel
theorem dX9_keepBy_14 : decode cX9_keepBy 14 = .ok (.iconst 0, 1) := by decide +kernel
theorem dX9_keepBy_15 : decode cX9_keepBy 15 = .ok (.iconst 0, 1) := by decide +kernel
theorem dX9_keepBy_16 : decode cX9_keepBy 16 = .ok (.invokevirtual 47, 3) := by decide +kernel
theorem dX9_keepBy_19 : decode cX9_keepBy 19 = .ok (.aload_n 0, 1) := by decide +kernel
theorem dX9_keepBy_20 : decode cX9_keepBy 20 = .ok (.iconst 2, 1) := by decide +kernel
theorem dX9_keepBy_21 : decode cX9_keepBy 21 = .ok (.invokevirtual 51, 3) := by decide +kernel
theorem dX9_keepBy_24 : decode cX9_keepBy 24 = .ok (.bipush 99, 2) := by decide +kernel
theorem dX9_keepBy_26 : decode cX9_keepBy 26 = .ok (.invokestatic 54, 3) := by decide +kernel
theorem dX9_keepBy_29 : decode cX9_keepBy 29 = .ok (.ireturn, 1) := by decide +kernel
theorem dX9_nameNumbers_0 : decode cX9_nameNumbers 0 = .ok (.aload_n 0, 1) := by decide +kernel
theorem dX9_nameNumbers_1 : decode cX9_nameNumbers 1 = .ok (.getfield 11, 3) := by decide +kernel
theorem dX9_nameNumbers_4 : decode cX9_nameNumbers 4 = .ok (.iconst 0, 1) := by decide +kernel
theorem dX9_nameNumbers_5 : decode cX9_nameNumbers 5 = .ok (.iload_n 1, 1) := by decide +kernel
theorem dX9_nameNumbers_6 : decode cX9_nameNumbers 6 = .ok (.iastore, 1) := by decide +kernel
theorem dX9_nameNumbers_7 : decode cX9_nameNumbers 7 = .ok (.aload_n 0, 1) := by decide +kernel
theorem dX9_nameNumbers_8 : decode cX9_nameNumbers 8 = .ok (.getfield 11, 3) := by decide +kernel
theorem dX9_nameNumbers_11 : decode cX9_nameNumbers 11 = .ok (.iconst 1, 1) := by decide +kernel
theorem dX9_nameNumbers_12 : decode cX9_nameNumbers 12 = .ok (.iload_n 2, 1) := by decide +kernel
theorem dX9_nameNumbers_13 : decode cX9_nameNumbers 13 = .ok (.iastore, 1) := by decide +kernel
theorem dX9_nameNumbers_14 : decode cX9_nameNumbers 14 = .ok (.aload_n 0, 1) := by decide +kernel
theorem dX9_nameNumbers_15 : decode cX9_nameNumbers 15 = .ok (.getfield 11, 3) := by decide +kernel
theorem dX9_nameNumbers_18 : decode cX9_nameNumbers 18 = .ok (.iconst 2, 1) := by decide +kernel
theorem dX9_nameNumbers_19 : decode cX9_nameNumbers 19 = .ok (.iload_n 3, 1) := by decide +kernel
theorem dX9_nameNumbers_20 : decode cX9_nameNumbers 20 = .ok (.iastore, 1) := by decide +kernel
theorem dX9_nameNumbers_21 : decode cX9_nameNumbers 21 = .ok (.aload_n 0, 1) := by decide +kernel
theorem dX9_nameNumbers_22 : decode cX9_nameNumbers 22 = .ok (.getfield 11, 3) := by decide +kernel
theorem dX9_nameNumbers_25 : decode cX9_nameNumbers 25 = .ok (.iconst 3, 1) := by decide +kernel
theorem dX9_nameNumbers_26 : decode cX9_nameNumbers 26 = .ok (.iload 4, 2) := by decide +kernel
theorem dX9_nameNumbers_28 : decode cX9_nameNumbers 28 = .ok (.iastore, 1) := by decide +kernel
theorem dX9_nameNumbers_29 : decode cX9_nameNumbers 29 = .ok (.aload_n 0, 1) := by decide +kernel
theorem dX9_nameNumbers_30 : decode cX9_nameNumbers 30 = .ok (.getfield 11, 3) := by decide +kernel
theorem dX9_nameNumbers_33 : decode cX9_nameNumbers 33 = .ok (.iconst 4, 1) := by decide +kernel
theorem dX9_nameNumbers_34 : decode cX9_nameNumbers 34 = .ok (.iload 5, 2) := by decide +kernel
theorem dX9_nameNumbers_36 : decode cX9_nameNumbers 36 = .ok (.iastore, 1) := by decide +kernel
theorem dX9_nameNumbers_37 : decode cX9_nameNumbers 37 = .ok (.aload_n 0, 1) := by decide +kernel
theorem dX9_nameNumbers_38 : decode cX9_nameNumbers 38 = .ok (.getfield 11, 3) := by decide +kernel
theorem dX9_nameNumbers_41 : decode cX9_nameNumbers 41 = .ok (.iconst 5, 1) := by decide +kernel
theorem dX9_nameNumbers_42 : decode cX9_nameNumbers 42 = .ok (.iload 6, 2) := by decide +kernel
theorem dX9_nameNumbers_44 : decode cX9_nameNumbers 44 = .ok (.iastore, 1) := by decide +kernel
theorem dX9_nameNumbers_45 : decode cX9_nameNumbers 45 = .ok (.return_, 1) := by decide +kernel
theorem dX9_valueOf_0 : decode cX9_valueOf 0 = .ok (.iconst 0, 1) := by decide +kernel
theorem dX9_valueOf_1 : decode cX9_valueOf 1 = .ok (.istore_n 2, 1) := by decide +kernel
theorem dX9_valueOf_2 : decode cX9_valueOf 2 = .ok (.iload_n 1, 1) := by decide +kernel
theorem dX9_valueOf_3 : decode cX9_valueOf 3 = .ok (.ifCond .ne 7, 3) := by decide +kernel
theorem dX9_valueOf_6 : decode cX9_valueOf 6 = .ok (.iconst 0, 1) := by decide +kernel
theorem dX9_valueOf_7 : decode cX9_valueOf 7 = .ok (.goto 11, 3) := by decide +kernel
theorem dX9_valueOf_10 : decode cX9_valueOf 10 = .ok (.aload_n 0, 1) := by decide +kernel
theorem dX9_valueOf_11 : decode cX9_valueOf 11 = .ok (.getfield 20, 3) := by decide +kernel
theorem dX9_valueOf_14 : decode cX9_valueOf 14 = .ok (.iload_n 1, 1) := by decide +kernel
theorem dX9_valueOf_15 : decode cX9_valueOf 15 = .ok (.iconst 1, 1) := by decide +kernel
theorem dX9_valueOf_16 : decode cX9_valueOf 16 = .ok (.isub, 1) := by decide +kernel
theorem dX9_valueOf_17 : decode cX9_valueOf 17 = .ok (.iaload, 1) := by decide +kernel
theorem dX9_valueOf_18 : decode cX9_valueOf 18 = .ok (.istore_n 3, 1) := by decide +kernel
theorem dX9_valueOf_19 : decode cX9_valueOf 19 = .ok (.iload_n 3, 1) := by decide +kernel
theorem dX9_valueOf_20 : decode cX9_valueOf 20 = .ok (.aload_n 0, 1) := by decide +kernel
theorem dX9_valueOf_21 : decode cX9_valueOf 21 = .ok (.getfield 20, 3) := by decide +kernel
theorem dX9_valueOf_24 : decode cX9_valueOf 24 = .ok (.iload_n 1, 1) := by decide +kernel
theorem dX9_valueOf_25 : decode cX9_valueOf 25 = .ok (.iaload, 1) := by decide +kernel
theorem dX9_valueOf_26 : decode cX9_valueOf 26 = .ok (.if_icmp .ge 135, 3) := by decide +kernel
theorem dX9_valueOf_29 : decode cX9_valueOf 29 = .ok (.aload_n 0, 1) := by decide +kernel
theorem dX9_valueOf_30 : decode cX9_valueOf 30 = .ok (.getfield 17, 3) := by decide +kernel
theorem dX9_valueOf_33 : decode cX9_valueOf 33 = .ok (.iload_n 3, 1) := by decide +kernel
theorem dX9_valueOf_34 : decode cX9_valueOf 34 = .ok (.iaload, 1) := by decide +kernel
theorem dX9_valueOf_35 : decode cX9_valueOf 35 = .ok (.istore 4, 2) := by decide +kernel
theorem dX9_valueOf_37 : decode cX9_valueOf 37 = .ok (.iload 4, 2) := by decide +kernel
theorem dX9_valueOf_39 : decode cX9_valueOf 39 = .ok (.bipush (-6), 2) := by decide +kernel
theorem dX9_valueOf_41 : decode cX9_valueOf 41 = .ok (.if_icmp .lt 43, 3) := by decide +kernel
theorem dX9_valueOf_44 : decode cX9_valueOf 44 = .ok (.iload_n 2, 1) := by decide +kernel
theorem dX9_valueOf_45 : decode cX9_valueOf 45 = .ok (.aload_n 0, 1) := by decide +kernel
theorem dX9_valueOf_46 : decode cX9_valueOf 46 = .ok (.getfield 23, 3) := by decide +kernel
theorem dX9_valueOf_49 : decode cX9_valueOf 49 = .ok (.arraylength, 1) := by decide +kernel
theorem dX9_valueOf_50 : decode cX9_valueOf 50 = .ok (.if_icmp .ge 34, 3) := by decide +kernel
theorem dX9_valueOf_53 : decode cX9_valueOf 53 = .ok (.aload_n 0, 1) := by decide +kernel
theorem dX9_valueOf_54 : decode cX9_valueOf 54 = .ok (.getfield 23, 3) := by decide +kernel
theorem dX9_valueOf_57 : decode cX9_valueOf 57 = .ok (.iload_n 2, 1) := by decide +kernel
theorem dX9_valueOf_58 : decode cX9_valueOf 58 = .ok (.iload 4, 2) := by decide +kernel
theorem dX9_valueOf_60 : decode cX9_valueOf 60 = .ok (.ifCond .lt 8, 3) := by decide +kernel
theorem dX9_valueOf_63 : decode cX9_valueOf 63 = .ok (.iload 4, 2) := by decide +kernel
theorem dX9_valueOf_65 : decode cX9_valueOf 65 = .ok (.goto 12, 3) := by decide +kernel
theorem dX9_valueOf_68 : decode cX9_valueOf 68 = .ok (.aload_n 0, 1) := by decide +kernel
theorem dX9_valueOf_69 : decode cX9_valueOf 69 = .ok (.getfield 11, 3) := by decide +kernel
theorem dX9_valueOf_72 : decode cX9_valueOf 72 = .ok (.iconst (-1), 1) := by decide +kernel
theorem dX9_valueOf_73 : decode cX9_valueOf 73 = .ok (.iload 4, 2) := by decide +kernel
theorem dX9_valueOf_75 : decode cX9_valueOf 75 = .ok (.isub, 1) := by decide +kernel
theorem dX9_valueOf_76 : decode cX9_valueOf 76 = .ok (.iaload, 1) := by decide +kernel
theorem dX9_valueOf_77 : decode cX9_valueOf 77 = .ok (.iastore, 1) := by decide +kernel
theorem dX9_valueOf_78 : decode cX9_valueOf 78 = .ok (.iinc 2 1, 3) := by decide +kernel
theorem dX9_valueOf_81 : decode cX9_valueOf 81 = .ok (.goto 74, 3) := by decide +kernel
theorem dX9_valueOf_84 : decode cX9_valueOf 84 = .ok (.iload 4, 2) := by decide +kernel
theorem dX9_valueOf_86 : decode cX9_valueOf 86 = .ok (.bipush (-11), 2) := by decide +kernel
theorem dX9_valueOf_88 : decode cX9_valueOf 88 = .ok (.if_icmp .lt 32, 3) := by decide +kernel
theorem dX9_valueOf_91 : decode cX9_valueOf 91 = .ok (.iload_n 2, 1) := by decide +kernel
theorem dX9_valueOf_92 : decode cX9_valueOf 92 = .ok (.iconst 1, 1) := by decide +kernel
theorem dX9_valueOf_93 : decode cX9_valueOf 93 = .ok (.if_icmp .lt 27, 3) := by decide +kernel
theorem dX9_valueOf_96 : decode cX9_valueOf 96 = .ok (.aload_n 0, 1) := by decide +kernel
theorem dX9_valueOf_97 : decode cX9_valueOf 97 = .ok (.getfield 23, 3) := by decide +kernel
theorem dX9_valueOf_100 : decode cX9_valueOf 100 = .ok (.iload_n 2, 1) := by decide +kernel
theorem dX9_valueOf_101 : decode cX9_valueOf 101 = .ok (.iconst 1, 1) := by decide +kernel
theorem dX9_valueOf_102 : decode cX9_valueOf 102 = .ok (.isub, 1) := by decide +kernel
theorem dX9_valueOf_103 : decode cX9_valueOf 103 = .ok (.iload 4, 2) := by decide +kernel
theorem dX9_valueOf_105 : decode cX9_valueOf 105 = .ok (.aload_n 0, 1) := by decide +kernel
theorem dX9_valueOf_106 : decode cX9_valueOf 106 = .ok (.getfield 23, 3) := by decide +kernel
theorem dX9_valueOf_109 : decode cX9_valueOf 109 = .ok (.iload_n 2, 1) := by decide +kernel
theorem dX9_valueOf_110 : decode cX9_valueOf 110 = .ok (.iconst 1, 1) := by decide +kernel
theorem dX9_valueOf_111 : decode cX9_valueOf 111 = .ok (.isub, 1) := by decide +kernel
theorem dX9_valueOf_112 : decode cX9_valueOf 112 = .ok (.iaload, 1) := by decide +kernel
theorem dX9_valueOf_113 : decode cX9_valueOf 113 = .ok (.invokestatic 82, 3) := by decide +kernel
theorem dX9_valueOf_116 : decode cX9_valueOf 116 = .ok (.iastore, 1) := by decide +kernel
theorem dX9_valueOf_117 : decode cX9_valueOf 117 = .ok (.goto 38, 3) := by decide +kernel
theorem dX9_valueOf_120 : decode cX9_valueOf 120 = .ok (.iload_n 2, 1) := by decide +kernel
theorem dX9_valueOf_121 : decode cX9_valueOf 121 = .ok (.iconst 2, 1) := by decide +kernel
theorem dX9_valueOf_122 : decode cX9_valueOf 122 = .ok (.if_icmp .lt 33, 3) := by decide +kernel
theorem dX9_valueOf_125 : decode cX9_valueOf 125 = .ok (.iinc 2 (-1), 3) := by decide +kernel
theorem dX9_valueOf_128 : decode cX9_valueOf 128 = .ok (.aload_n 0, 1) := by decide +kernel
theorem dX9_valueOf_129 : decode cX9_valueOf 129 = .ok (.getfield 23, 3) := by decide +kernel
theorem dX9_valueOf_132 : decode cX9_valueOf 132 = .ok (.iload_n 2, 1) := by decide +kernel
theorem dX9_valueOf_133 : decode cX9_valueOf 133 = .ok (.iconst 1, 1) := by decide +kernel
theorem dX9_valueOf_134 : decode cX9_valueOf 134 = .ok (.isub, 1) := by decide +kernel
theorem dX9_valueOf_135 : decode cX9_valueOf 135 = .ok (.iload 4, 2) := by decide +kernel
theorem dX9_valueOf_137 : decode cX9_valueOf 137 = .ok (.aload_n 0, 1) := by decide +kernel
theorem dX9_valueOf_138 : decode cX9_valueOf 138 = .ok (.getfield 23, 3) := by decide +kernel
theorem dX9_valueOf_141 : decode cX9_valueOf 141 = .ok (.iload_n 2, 1) := by decide +kernel
theorem dX9_valueOf_142 : decode cX9_valueOf 142 = .ok (.iconst 1, 1) := by decide +kernel
theorem dX9_valueOf_143 : decode cX9_valueOf 143 = .ok (.isub, 1) := by decide +kernel
theorem dX9_valueOf_144 : decode cX9_valueOf 144 = .ok (.iaload, 1) := by decide +kernel
theorem dX9_valueOf_145 : decode cX9_valueOf 145 = .ok (.aload_n 0, 1) := by decide +kernel
theorem dX9_valueOf_146 : decode cX9_valueOf 146 = .ok (.getfield 23, 3) := by decide +kernel
theorem dX9_valueOf_149 : decode cX9_valueOf 149 = .ok (.iload_n 2, 1) := by decide +kernel
theorem dX9_valueOf_150 : decode cX9_valueOf 150 = .ok (.iaload, 1) := by decide +kernel
theorem dX9_valueOf_151 : decode cX9_valueOf 151 = .ok (.invokestatic 85, 3) := by decide +kernel
theorem dX9_valueOf_154 : decode cX9_valueOf 154 = .ok (.iastore, 1) := by decide +kernel
theorem dX9_valueOf_155 : decode cX9_valueOf 155 = .ok (.iinc 3 1, 3) := by decide +kernel
theorem dX9_valueOf_158 : decode cX9_valueOf 158 = .ok (.goto (-139), 3) := by decide +kernel
theorem dX9_valueOf_161 : decode cX9_valueOf 161 = .ok (.iload_n 2, 1) := by decide +kernel
theorem dX9_valueOf_162 : decode cX9_valueOf 162 = .ok (.iconst 1, 1) := by decide +kernel
theorem dX9_valueOf_163 : decode cX9_valueOf 163 = .ok (.if_icmp .lt 14, 3) := by decide +kernel
theorem dX9_valueOf_166 : decode cX9_valueOf 166 = .ok (.aload_n 0, 1) := by decide +kernel
theorem dX9_valueOf_167 : decode cX9_valueOf 167 = .ok (.getfield 23, 3) := by decide +kernel
theorem dX9_valueOf_170 : decode cX9_valueOf 170 = .ok (.iload_n 2, 1) := by decide +kernel
theorem dX9_valueOf_171 : decode cX9_valueOf 171 = .ok (.iconst 1, 1) := by decide +kernel
theorem dX9_valueOf_172 : decode cX9_valueOf 172 = .ok (.isub, 1) := by decide +kernel
theorem dX9_valueOf_173 : decode cX9_valueOf 173 = .ok (.iaload, 1) := by decide +kernel
theorem dX9_valueOf_174 : decode cX9_valueOf 174 = .ok (.goto 4, 3) := by decide +kernel
theorem dX9_valueOf_177 : decode cX9_valueOf 177 = .ok (.iconst 0, 1) := by decide +kernel
theorem dX9_valueOf_178 : decode cX9_valueOf 178 = .ok (.ireturn, 1) := by decide +kernel
theorem dX9_ofOne_0 : decode cX9_ofOne 0 = .ok (.iload_n 0, 1) := by decide +kernel
theorem dX9_ofOne_1 : decode cX9_ofOne 1 = .ok (.bipush (-10), 2) := by decide +kernel
theorem dX9_ofOne_3 : decode cX9_ofOne 3 = .ok (.if_icmp .ne 6, 3) := by decide +kernel
theorem dX9_ofOne_6 : decode cX9_ofOne 6 = .ok (.iload_n 1, 1) := by decide +kernel
theorem dX9_ofOne_7 : decode cX9_ofOne 7 = .ok (.ineg, 1) := by decide +kernel
theorem dX9_ofOne_8 : decode cX9_ofOne 8 = .ok (.ireturn, 1) := by decide +kernel
theorem dX9_ofOne_9 : decode cX9_ofOne 9 = .ok (.iload_n 1, 1) := by decide +kernel
theorem dX9_ofOne_10 : decode cX9_ofOne 10 = .ok (.ifCond .ne 7, 3) := by decide +kernel
theorem dX9_ofOne_13 : decode cX9_ofOne 13 = .ok (.iconst 1, 1) := by decide +kernel
theorem dX9_ofOne_14 : decode cX9_ofOne 14 = .ok (.goto 4, 3) := by decide +kernel
theorem dX9_ofOne_17 : decode cX9_ofOne 17 = .ok (.iconst 0, 1) := by decide +kernel
theorem dX9_ofOne_18 : decode cX9_ofOne 18 = .ok (.ireturn, 1) := by decide +kernel
theorem dX9_ofTwo_0 : decode cX9_ofTwo 0 = .ok (.iload_n 0, 1) := by decide +kernel
theorem dX9_ofTwo_1 : decode cX9_ofTwo 1 = .ok (.tableswitch 87 (-17) (-12) #[73, 62, 51, 47, 43, 39], 39) := by decide +kernel
theorem dX9_ofTwo_40 : decode cX9_ofTwo 40 = .ok (.iload_n 1, 1) := by decide +kernel
theorem dX9_ofTwo_41 : decode cX9_ofTwo 41 = .ok (.iload_n 2, 1) := by decide +kernel
theorem dX9_ofTwo_42 : decode cX9_ofTwo 42 = .ok (.imul, 1) := by decide +kernel
theorem dX9_ofTwo_43 : decode cX9_ofTwo 43 = .ok (.ireturn, 1) := by decide +kernel
theorem dX9_ofTwo_44 : decode cX9_ofTwo 44 = .ok (.iload_n 1, 1) := by decide +kernel
theorem dX9_ofTwo_45 : decode cX9_ofTwo 45 = .ok (.iload_n 2, 1) := by decide +kernel
theorem dX9_ofTwo_46 : decode cX9_ofTwo 46 = .ok (.iadd, 1) := by decide +kernel
theorem dX9_ofTwo_47 : decode cX9_ofTwo 47 = .ok (.ireturn, 1) := by decide +kernel
theorem dX9_ofTwo_48 : decode cX9_ofTwo 48 = .ok (.iload_n 1, 1) := by decide +kernel
theorem dX9_ofTwo_49 : decode cX9_ofTwo 49 = .ok (.iload_n 2, 1) := by decide +kernel
theorem dX9_ofTwo_50 : decode cX9_ofTwo 50 = .ok (.isub, 1) := by decide +kernel
theorem dX9_ofTwo_51 : decode cX9_ofTwo 51 = .ok (.ireturn, 1) := by decide +kernel
theorem dX9_ofTwo_52 : decode cX9_ofTwo 52 = .ok (.iload_n 1, 1) := by decide +kernel
theorem dX9_ofTwo_53 : decode cX9_ofTwo 53 = .ok (.iload_n 2, 1) := by decide +kernel
theorem dX9_ofTwo_54 : decode cX9_ofTwo 54 = .ok (.if_icmp .ge 7, 3) := by decide +kernel
theorem dX9_ofTwo_57 : decode cX9_ofTwo 57 = .ok (.iconst 1, 1) := by decide +kernel
theorem dX9_ofTwo_58 : decode cX9_ofTwo 58 = .ok (.goto 4, 3) := by decide +kernel
theorem dX9_ofTwo_61 : decode cX9_ofTwo 61 = .ok (.iconst 0, 1) := by decide +kernel
theorem dX9_ofTwo_62 : decode cX9_ofTwo 62 = .ok (.ireturn, 1) := by decide +kernel
theorem dX9_ofTwo_63 : decode cX9_ofTwo 63 = .ok (.iload_n 1, 1) := by decide +kernel
theorem dX9_ofTwo_64 : decode cX9_ofTwo 64 = .ok (.iload_n 2, 1) := by decide +kernel
theorem dX9_ofTwo_65 : decode cX9_ofTwo 65 = .ok (.if_icmp .ne 7, 3) := by decide +kernel
theorem dX9_ofTwo_68 : decode cX9_ofTwo 68 = .ok (.iconst 1, 1) := by decide +kernel
theorem dX9_ofTwo_69 : decode cX9_ofTwo 69 = .ok (.goto 4, 3) := by decide +kernel
theorem dX9_ofTwo_72 : decode cX9_ofTwo 72 = .ok (.iconst 0, 1) := by decide +kernel
theorem dX9_ofTwo_73 : decode cX9_ofTwo 73 = .ok (.ireturn, 1) := by decide +kernel
theorem dX9_ofTwo_74 : decode cX9_ofTwo 74 = .ok (.iload_n 1, 1) := by decide +kernel
theorem dX9_ofTwo_75 : decode cX9_ofTwo 75 = .ok (.ifCond .eq 11, 3) := by decide +kernel
theorem dX9_ofTwo_78 : decode cX9_ofTwo 78 = .ok (.iload_n 2, 1) := by decide +kernel
theorem dX9_ofTwo_79 : decode cX9_ofTwo 79 = .ok (.ifCond .eq 7, 3) := by decide +kernel
theorem dX9_ofTwo_82 : decode cX9_ofTwo 82 = .ok (.iconst 1, 1) := by decide +kernel
theorem dX9_ofTwo_83 : decode cX9_ofTwo 83 = .ok (.goto 4, 3) := by decide +kernel
theorem dX9_ofTwo_86 : decode cX9_ofTwo 86 = .ok (.iconst 0, 1) := by decide +kernel
theorem dX9_ofTwo_87 : decode cX9_ofTwo 87 = .ok (.ireturn, 1) := by decide +kernel
theorem dX9_ofTwo_88 : decode cX9_ofTwo 88 = .ok (.iload_n 1, 1) := by decide +kernel
theorem dX9_ofTwo_89 : decode cX9_ofTwo 89 = .ok (.ifCond .ne 7, 3) := by decide +kernel
theorem dX9_ofTwo_92 : decode cX9_ofTwo 92 = .ok (.iload_n 2, 1) := by decide +kernel
theorem dX9_ofTwo_93 : decode cX9_ofTwo 93 = .ok (.ifCond .eq 7, 3) := by decide +kernel
theorem dX9_ofTwo_96 : decode cX9_ofTwo 96 = .ok (.iconst 1, 1) := by decide +kernel
theorem dX9_ofTwo_97 : decode cX9_ofTwo 97 = .ok (.goto 4, 3) := by decide +kernel
theorem dX9_ofTwo_100 : decode cX9_ofTwo 100 = .ok (.iconst 0, 1) := by decide +kernel
theorem dX9_ofTwo_101 : decode cX9_ofTwo 101 = .ok (.ireturn, 1) := by decide +kernel
theorem dX10_init_0 : decode cX10_init 0 = .ok (.aload_n 0, 1) := by decide +kernel
theorem dX10_init_1 : decode cX10_init 1 = .ok (.invokespecial 3, 3) := by decide +kernel
theorem dX10_init_4 : decode cX10_init 4 = .ok (.aload_n 0, 1) := by decide +kernel
theorem dX10_init_5 : decode cX10_init 5 = .ok (.bipush 6, 2) := by decide +kernel
theorem dX10_init_7 : decode cX10_init 7 = .ok (.newarray .int, 2) := by decide +kernel
theorem dX10_init_9 : decode cX10_init 9 = .ok (.putfield 9, 3) := by decide +kernel
theorem dX10_init_12 : decode cX10_init 12 = .ok (.aload_n 0, 1) := by decide +kernel
theorem dX10_init_13 : decode cX10_init 13 = .ok (.bipush 6, 2) := by decide +kernel
theorem dX10_init_15 : decode cX10_init 15 = .ok (.newarray .int, 2) := by decide +kernel
theorem dX10_init_17 : decode cX10_init 17 = .ok (.putfield 15, 3) := by decide +kernel
theorem dX10_init_20 : decode cX10_init 20 = .ok (.aload_n 0, 1) := by decide +kernel
theorem dX10_init_21 : decode cX10_init 21 = .ok (.bipush 6, 2) := by decide +kernel
theorem dX10_init_23 : decode cX10_init 23 = .ok (.newarray .int, 2) := by decide +kernel
theorem dX10_init_25 : decode cX10_init 25 = .ok (.putfield 18, 3) := by decide +kernel
theorem dX10_init_28 : decode cX10_init 28 = .ok (.aload_n 0, 1) := by decide +kernel
theorem dX10_init_29 : decode cX10_init 29 = .ok (.bipush 9, 2) := by decide +kernel
theorem dX10_init_31 : decode cX10_init 31 = .ok (.newarray .int, 2) := by decide +kernel
theorem dX10_init_33 : decode cX10_init 33 = .ok (.putfield 21, 3) := by decide +kernel
theorem dX10_init_36 : decode cX10_init 36 = .ok (.aload_n 0, 1) := by decide +kernel
theorem dX10_init_37 : decode cX10_init 37 = .ok (.bipush 6, 2) := by decide +kernel
theorem dX10_init_39 : decode cX10_init 39 = .ok (.newarray .int, 2) := by decide +kernel
theorem dX10_init_41 : decode cX10_init 41 = .ok (.putfield 24, 3) := by decide +kernel
theorem dX10_init_44 : decode cX10_init 44 = .ok (.aload_n 0, 1) := by decide +kernel
theorem dX10_init_45 : decode cX10_init 45 = .ok (.bipush 9, 2) := by decide +kernel
theorem dX10_init_47 : decode cX10_init 47 = .ok (.newarray .int, 2) := by decide +kernel
theorem dX10_init_49 : decode cX10_init 49 = .ok (.putfield 27, 3) := by decide +kernel
theorem dX10_init_52 : decode cX10_init 52 = .ok (.return_, 1) := by decide +kernel
theorem dX10_has_0 : decode cX10_has 0 = .ok (.iload_n 1, 1) := by decide +kernel
theorem dX10_has_1 : decode cX10_has 1 = .ok (.iconst 0, 1) := by decide +kernel
theorem dX10_has_2 : decode cX10_has 2 = .ok (.aload_n 0, 1) := by decide +kernel
theorem dX10_has_3 : decode cX10_has 3 = .ok (.getfield 30, 3) := by decide +kernel
theorem dX10_has_6 : decode cX10_has 6 = .ok (.iconst 1, 1) := by decide +kernel
theorem dX10_has_7 : decode cX10_has 7 = .ok (.isub, 1) := by decide +kernel
theorem dX10_has_8 : decode cX10_has 8 = .ok (.invokestatic 34, 3) := by decide +kernel
theorem dX10_has_11 : decode cX10_has 11 = .ok (.ireturn, 1) := by decide +kernel
theorem dX10_addHank_0 : decode cX10_addHank 0 = .ok (.iload_n 1, 1) := by decide +kernel
theorem dX10_addHank_1 : decode cX10_addHank 1 = .ok (.iconst 0, 1) := by decide +kernel
theorem dX10_addHank_2 : decode cX10_addHank 2 = .ok (.bipush 99, 2) := by decide +kernel
theorem dX10_addHank_4 : decode cX10_addHank 4 = .ok (.invokestatic 34, 3) := by decide +kernel
theorem dX10_addHank_7 : decode cX10_addHank 7 = .ok (.ifCond .eq 23, 3) := by decide +kernel
theorem dX10_addHank_10 : decode cX10_addHank 10 = .ok (.iload_n 2, 1) := by decide +kernel
theorem dX10_addHank_11 : decode cX10_addHank 11 = .ok (.iconst 0, 1) := by decide +kernel
theorem dX10_addHank_12 : decode cX10_addHank 12 = .ok (.bipush 99, 2) := by decide +kernel
theorem dX10_addHank_14 : decode cX10_addHank 14 = .ok (.invokestatic 34, 3) := by decide +kernel
theorem dX10_addHank_17 : decode cX10_addHank 17 = .ok (.ifCond .eq 13, 3) := by decide +kernel
theorem dX10_addHank_20 : decode cX10_addHank 20 = .ok (.iload_n 3, 1) := by decide +kernel
theorem dX10_addHank_21 : decode cX10_addHank 21 = .ok (.iconst 0, 1) := by decide +kernel
theorem dX10_addHank_22 : decode cX10_addHank 22 = .ok (.bipush 8, 2) := by decide +kernel
theorem dX10_addHank_24 : decode cX10_addHank 24 = .ok (.invokestatic 34, 3) := by decide +kernel
theorem dX10_addHank_27 : decode cX10_addHank 27 = .ok (.ifCond .ne 6, 3) := by decide +kernel
theorem dX10_addHank_30 : decode cX10_addHank 30 = .ok (.bipush (-2), 2) := by decide +kernel
theorem dX10_addHank_32 : decode cX10_addHank 32 = .ok (.ireturn, 1) := by decide +kernel
theorem dX10_addHank_33 : decode cX10_addHank 33 = .ok (.aload_n 0, 1) := by decide +kernel
theorem dX10_addHank_34 : decode cX10_addHank 34 = .ok (.getfield 30, 3) := by decide +kernel
theorem dX10_addHank_37 : decode cX10_addHank 37 = .ok (.bipush 6, 2) := by decide +kernel
theorem dX10_addHank_39 : decode cX10_addHank 39 = .ok (.if_icmp .lt 6, 3) := by decide +kernel
theorem dX10_addHank_42 : decode cX10_addHank 42 = .ok (.bipush (-4), 2) := by decide +kernel
theorem dX10_addHank_44 : decode cX10_addHank 44 = .ok (.ireturn, 1) := by decide +kernel
theorem dX10_addHank_45 : decode cX10_addHank 45 = .ok (.aload_n 0, 1) := by decide +kernel
theorem dX10_addHank_46 : decode cX10_addHank 46 = .ok (.getfield 9, 3) := by decide +kernel
theorem dX10_addHank_49 : decode cX10_addHank 49 = .ok (.aload_n 0, 1) := by decide +kernel
theorem dX10_addHank_50 : decode cX10_addHank 50 = .ok (.getfield 30, 3) := by decide +kernel
theorem dX10_addHank_53 : decode cX10_addHank 53 = .ok (.iload_n 1, 1) := by decide +kernel
theorem dX10_addHank_54 : decode cX10_addHank 54 = .ok (.iastore, 1) := by decide +kernel
theorem dX10_addHank_55 : decode cX10_addHank 55 = .ok (.aload_n 0, 1) := by decide +kernel
theorem dX10_addHank_56 : decode cX10_addHank 56 = .ok (.getfield 15, 3) := by decide +kernel
theorem dX10_addHank_59 : decode cX10_addHank 59 = .ok (.aload_n 0, 1) := by decide +kernel
theorem dX10_addHank_60 : decode cX10_addHank 60 = .ok (.getfield 30, 3) := by decide +kernel
theorem dX10_addHank_63 : decode cX10_addHank 63 = .ok (.iload_n 2, 1) := by decide +kernel
theorem dX10_addHank_64 : decode cX10_addHank 64 = .ok (.iastore, 1) := by decide +kernel
theorem dX10_addHank_65 : decode cX10_addHank 65 = .ok (.aload_n 0, 1) := by decide +kernel
theorem dX10_addHank_66 : decode cX10_addHank 66 = .ok (.getfield 18, 3) := by decide +kernel
theorem dX10_addHank_69 : decode cX10_addHank 69 = .ok (.aload_n 0, 1) := by decide +kernel
theorem dX10_addHank_70 : decode cX10_addHank 70 = .ok (.getfield 30, 3) := by decide +kernel
theorem dX10_addHank_73 : decode cX10_addHank 73 = .ok (.iload_n 3, 1) := by decide +kernel
theorem dX10_addHank_74 : decode cX10_addHank 74 = .ok (.iastore, 1) := by decide +kernel
theorem dX10_addHank_75 : decode cX10_addHank 75 = .ok (.aload_n 0, 1) := by decide +kernel
theorem dX10_addHank_76 : decode cX10_addHank 76 = .ok (.dup, 1) := by decide +kernel
theorem dX10_addHank_77 : decode cX10_addHank 77 = .ok (.getfield 30, 3) := by decide +kernel
theorem dX10_addHank_80 : decode cX10_addHank 80 = .ok (.iconst 1, 1) := by decide +kernel
theorem dX10_addHank_81 : decode cX10_addHank 81 = .ok (.iadd, 1) := by decide +kernel
theorem dX10_addHank_82 : decode cX10_addHank 82 = .ok (.putfield 30, 3) := by decide +kernel
theorem dX10_addHank_85 : decode cX10_addHank 85 = .ok (.aload_n 0, 1) := by decide +kernel
theorem dX10_addHank_86 : decode cX10_addHank 86 = .ok (.getfield 30, 3) := by decide +kernel
theorem dX10_addHank_89 : decode cX10_addHank 89 = .ok (.iconst 1, 1) := by decide +kernel
theorem dX10_addHank_90 : decode cX10_addHank 90 = .ok (.isub, 1) := by decide +kernel
theorem dX10_addHank_91 : decode cX10_addHank 91 = .ok (.ireturn, 1) := by decide +kernel
theorem dX10_fadedShade_0 : decode cX10_fadedShade 0 = .ok (.aload_n 0, 1) := by decide +kernel
theorem dX10_fadedShade_1 : decode cX10_fadedShade 1 = .ok (.getfield 15, 3) := by decide +kernel
theorem dX10_fadedShade_4 : decode cX10_fadedShade 4 = .ok (.iload_n 1, 1) := by decide +kernel
theorem dX10_fadedShade_5 : decode cX10_fadedShade 5 = .ok (.iaload, 1) := by decide +kernel
theorem dX10_fadedShade_6 : decode cX10_fadedShade 6 = .ok (.aload_n 0, 1) := by decide +kernel
theorem dX10_fadedShade_7 : decode cX10_fadedShade 7 = .ok (.getfield 21, 3) := by decide +kernel
theorem dX10_fadedShade_10 : decode cX10_fadedShade 10 = .ok (.aload_n 0, 1) := by decide +kernel
theorem dX10_fadedShade_11 : decode cX10_fadedShade 11 = .ok (.getfield 18, 3) := by decide +kernel
theorem dX10_fadedShade_14 : decode cX10_fadedShade 14 = .ok (.iload_n 1, 1) := by decide +kernel
theorem dX10_fadedShade_15 : decode cX10_fadedShade 15 = .ok (.iaload, 1) := by decide +kernel
theorem dX10_fadedShade_16 : decode cX10_fadedShade 16 = .ok (.iaload, 1) := by decide +kernel
theorem dX10_fadedShade_17 : decode cX10_fadedShade 17 = .ok (.isub, 1) := by decide +kernel
theorem dX10_fadedShade_18 : decode cX10_fadedShade 18 = .ok (.iconst 0, 1) := by decide +kernel
theorem dX10_fadedShade_19 : decode cX10_fadedShade 19 = .ok (.invokestatic 38, 3) := by decide +kernel
theorem dX10_fadedShade_22 : decode cX10_fadedShade 22 = .ok (.ireturn, 1) := by decide +kernel
theorem dX10_ouncesInAll_0 : decode cX10_ouncesInAll 0 = .ok (.iconst 0, 1) := by decide +kernel
theorem dX10_ouncesInAll_1 : decode cX10_ouncesInAll 1 = .ok (.istore_n 1, 1) := by decide +kernel
theorem dX10_ouncesInAll_2 : decode cX10_ouncesInAll 2 = .ok (.iconst 0, 1) := by decide +kernel
theorem dX10_ouncesInAll_3 : decode cX10_ouncesInAll 3 = .ok (.istore_n 2, 1) := by decide +kernel
theorem dX10_ouncesInAll_4 : decode cX10_ouncesInAll 4 = .ok (.iload_n 2, 1) := by decide +kernel
theorem dX10_ouncesInAll_5 : decode cX10_ouncesInAll 5 = .ok (.aload_n 0, 1) := by decide +kernel
theorem dX10_ouncesInAll_6 : decode cX10_ouncesInAll 6 = .ok (.getfield 30, 3) := by decide +kernel
theorem dX10_ouncesInAll_9 : decode cX10_ouncesInAll 9 = .ok (.if_icmp .ge 18, 3) := by decide +kernel
theorem dX10_ouncesInAll_12 : decode cX10_ouncesInAll 12 = .ok (.iload_n 1, 1) := by decide +kernel
theorem dX10_ouncesInAll_13 : decode cX10_ouncesInAll 13 = .ok (.aload_n 0, 1) := by decide +kernel
theorem dX10_ouncesInAll_14 : decode cX10_ouncesInAll 14 = .ok (.getfield 9, 3) := by decide +kernel
theorem dX10_ouncesInAll_17 : decode cX10_ouncesInAll 17 = .ok (.iload_n 2, 1) := by decide +kernel
theorem dX10_ouncesInAll_18 : decode cX10_ouncesInAll 18 = .ok (.iaload, 1) := by decide +kernel
theorem dX10_ouncesInAll_19 : decode cX10_ouncesInAll 19 = .ok (.iadd, 1) := by decide +kernel
theorem dX10_ouncesInAll_20 : decode cX10_ouncesInAll 20 = .ok (.istore_n 1, 1) := by decide +kernel
theorem dX10_ouncesInAll_21 : decode cX10_ouncesInAll 21 = .ok (.iinc 2 1, 3) := by decide +kernel
theorem dX10_ouncesInAll_24 : decode cX10_ouncesInAll 24 = .ok (.goto (-20), 3) := by decide +kernel
theorem dX10_ouncesInAll_27 : decode cX10_ouncesInAll 27 = .ok (.iload_n 1, 1) := by decide +kernel
theorem dX10_ouncesInAll_28 : decode cX10_ouncesInAll 28 = .ok (.ireturn, 1) := by decide +kernel
theorem dX10_hanksInBits_0 : decode cX10_hanksInBits 0 = .ok (.iconst 0, 1) := by decide +kernel
theorem dX10_hanksInBits_1 : decode cX10_hanksInBits 1 = .ok (.istore_n 1, 1) := by decide +kernel
theorem dX10_hanksInBits_2 : decode cX10_hanksInBits 2 = .ok (.iconst 0, 1) := by decide +kernel
theorem dX10_hanksInBits_3 : decode cX10_hanksInBits 3 = .ok (.istore_n 2, 1) := by decide +kernel
theorem dX10_hanksInBits_4 : decode cX10_hanksInBits 4 = .ok (.iload_n 2, 1) := by decide +kernel
theorem dX10_hanksInBits_5 : decode cX10_hanksInBits 5 = .ok (.aload_n 0, 1) := by decide +kernel
theorem dX10_hanksInBits_6 : decode cX10_hanksInBits 6 = .ok (.getfield 30, 3) := by decide +kernel
theorem dX10_hanksInBits_9 : decode cX10_hanksInBits 9 = .ok (.if_icmp .ge 29, 3) := by decide +kernel
theorem dX10_hanksInBits_12 : decode cX10_hanksInBits 12 = .ok (.aload_n 0, 1) := by decide +kernel
theorem dX10_hanksInBits_13 : decode cX10_hanksInBits 13 = .ok (.getfield 9, 3) := by decide +kernel
theorem dX10_hanksInBits_16 : decode cX10_hanksInBits 16 = .ok (.iload_n 2, 1) := by decide +kernel
theorem dX10_hanksInBits_17 : decode cX10_hanksInBits 17 = .ok (.iaload, 1) := by decide +kernel
theorem dX10_hanksInBits_18 : decode cX10_hanksInBits 18 = .ok (.iconst 1, 1) := by decide +kernel
theorem dX10_hanksInBits_19 : decode cX10_hanksInBits 19 = .ok (.iconst 2, 1) := by decide +kernel
theorem dX10_hanksInBits_20 : decode cX10_hanksInBits 20 = .ok (.invokestatic 34, 3) := by decide +kernel
theorem dX10_hanksInBits_23 : decode cX10_hanksInBits 23 = .ok (.ifCond .eq 9, 3) := by decide +kernel
theorem dX10_hanksInBits_26 : decode cX10_hanksInBits 26 = .ok (.iload_n 1, 1) := by decide +kernel
theorem dX10_hanksInBits_27 : decode cX10_hanksInBits 27 = .ok (.iconst 1, 1) := by decide +kernel
theorem dX10_hanksInBits_28 : decode cX10_hanksInBits 28 = .ok (.iload_n 2, 1) := by decide +kernel
theorem dX10_hanksInBits_29 : decode cX10_hanksInBits 29 = .ok (.ishl, 1) := by decide +kernel
theorem dX10_hanksInBits_30 : decode cX10_hanksInBits 30 = .ok (.ior, 1) := by decide +kernel
theorem dX10_hanksInBits_31 : decode cX10_hanksInBits 31 = .ok (.istore_n 1, 1) := by decide +kernel
theorem dX10_hanksInBits_32 : decode cX10_hanksInBits 32 = .ok (.iinc 2 1, 3) := by decide +kernel
theorem dX10_hanksInBits_35 : decode cX10_hanksInBits 35 = .ok (.goto (-31), 3) := by decide +kernel
theorem dX10_hanksInBits_38 : decode cX10_hanksInBits 38 = .ok (.iload_n 1, 1) := by decide +kernel
theorem dX10_hanksInBits_39 : decode cX10_hanksInBits 39 = .ok (.ireturn, 1) := by decide +kernel
theorem dX10_keepImage_0 : decode cX10_keepImage 0 = .ok (.aload_n 0, 1) := by decide +kernel
theorem dX10_keepImage_1 : decode cX10_keepImage 1 = .ok (.aload_n 0, 1) := by decide +kernel
theorem dX10_keepImage_2 : decode cX10_keepImage 2 = .ok (.getfield 30, 3) := by decide +kernel
theorem dX10_keepImage_5 : decode cX10_keepImage 5 = .ok (.putfield 44, 3) := by decide +kernel
theorem dX10_keepImage_8 : decode cX10_keepImage 8 = .ok (.aload_n 0, 1) := by decide +kernel
theorem dX10_keepImage_9 : decode cX10_keepImage 9 = .ok (.getfield 9, 3) := by decide +kernel
theorem dX10_keepImage_12 : decode cX10_keepImage 12 = .ok (.iconst 0, 1) := by decide +kernel
theorem dX10_keepImage_13 : decode cX10_keepImage 13 = .ok (.aload_n 0, 1) := by decide +kernel
theorem dX10_keepImage_14 : decode cX10_keepImage 14 = .ok (.getfield 24, 3) := by decide +kernel
theorem dX10_keepImage_17 : decode cX10_keepImage 17 = .ok (.iconst 0, 1) := by decide +kernel
theorem dX10_keepImage_18 : decode cX10_keepImage 18 = .ok (.bipush 6, 2) := by decide +kernel
theorem dX10_keepImage_20 : decode cX10_keepImage 20 = .ok (.invokestatic 47, 3) := by decide +kernel
theorem dX10_keepImage_23 : decode cX10_keepImage 23 = .ok (.aload_n 0, 1) := by decide +kernel
theorem dX10_keepImage_24 : decode cX10_keepImage 24 = .ok (.getfield 21, 3) := by decide +kernel
theorem dX10_keepImage_27 : decode cX10_keepImage 27 = .ok (.iconst 0, 1) := by decide +kernel
theorem dX10_keepImage_28 : decode cX10_keepImage 28 = .ok (.aload_n 0, 1) := by decide +kernel
theorem dX10_keepImage_29 : decode cX10_keepImage 29 = .ok (.getfield 27, 3) := by decide +kernel
theorem dX10_keepImage_32 : decode cX10_keepImage 32 = .ok (.iconst 0, 1) := by decide +kernel
theorem dX10_keepImage_33 : decode cX10_keepImage 33 = .ok (.bipush 9, 2) := by decide +kernel
theorem dX10_keepImage_35 : decode cX10_keepImage 35 = .ok (.invokestatic 47, 3) := by decide +kernel
theorem dX10_keepImage_38 : decode cX10_keepImage 38 = .ok (.return_, 1) := by decide +kernel
theorem dX10_layBack_0 : decode cX10_layBack 0 = .ok (.aload_n 0, 1) := by decide +kernel
theorem dX10_layBack_1 : decode cX10_layBack 1 = .ok (.getfield 24, 3) := by decide +kernel
theorem dX10_layBack_4 : decode cX10_layBack 4 = .ok (.iconst 0, 1) := by decide +kernel
theorem dX10_layBack_5 : decode cX10_layBack 5 = .ok (.aload_n 0, 1) := by decide +kernel
theorem dX10_layBack_6 : decode cX10_layBack 6 = .ok (.getfield 9, 3) := by decide +kernel
theorem dX10_layBack_9 : decode cX10_layBack 9 = .ok (.iconst 0, 1) := by decide +kernel
theorem dX10_layBack_10 : decode cX10_layBack 10 = .ok (.aload_n 0, 1) := by decide +kernel
theorem dX10_layBack_11 : decode cX10_layBack 11 = .ok (.getfield 44, 3) := by decide +kernel
theorem dX10_layBack_14 : decode cX10_layBack 14 = .ok (.invokestatic 47, 3) := by decide +kernel
theorem dX10_layBack_17 : decode cX10_layBack 17 = .ok (.aload_n 0, 1) := by decide +kernel
theorem dX10_layBack_18 : decode cX10_layBack 18 = .ok (.getfield 27, 3) := by decide +kernel
theorem dX10_layBack_21 : decode cX10_layBack 21 = .ok (.iconst 0, 1) := by decide +kernel
theorem dX10_layBack_22 : decode cX10_layBack 22 = .ok (.aload_n 0, 1) := by decide +kernel
theorem dX10_layBack_23 : decode cX10_layBack 23 = .ok (.getfield 21, 3) := by decide +kernel
theorem dX10_layBack_26 : decode cX10_layBack 26 = .ok (.iconst 0, 1) := by decide +kernel
theorem dX10_layBack_27 : decode cX10_layBack 27 = .ok (.bipush 9, 2) := by decide +kernel
theorem dX10_layBack_29 : decode cX10_layBack 29 = .ok (.invokestatic 47, 3) := by decide +kernel
theorem dX10_layBack_32 : decode cX10_layBack 32 = .ok (.return_, 1) := by decide +kernel
theorem dX11_init_0 : decode cX11_init 0 = .ok (.aload_n 0, 1) := by decide +kernel
theorem dX11_init_1 : decode cX11_init 1 = .ok (.invokespecial 1, 3) := by decide +kernel
theorem dX11_init_4 : decode cX11_init 4 = .ok (.aload_n 0, 1) := by decide +kernel
theorem dX11_init_5 : decode cX11_init 5 = .ok (.new 7, 3) := by decide +kernel
theorem dX11_init_8 : decode cX11_init 8 = .ok (.dup, 1) := by decide +kernel
theorem dX11_init_9 : decode cX11_init 9 = .ok (.invokespecial 9, 3) := by decide +kernel
theorem dX11_init_12 : decode cX11_init 12 = .ok (.putfield 10, 3) := by decide +kernel
theorem dX11_init_15 : decode cX11_init 15 = .ok (.aload_n 0, 1) := by decide +kernel
theorem dX11_init_16 : decode cX11_init 16 = .ok (.bipush 8, 2) := by decide +kernel
theorem dX11_init_18 : decode cX11_init 18 = .ok (.anewarray 16, 3) := by decide +kernel
theorem dX11_init_21 : decode cX11_init 21 = .ok (.putfield 18, 3) := by decide +kernel
theorem dX11_init_24 : decode cX11_init 24 = .ok (.aload_n 0, 1) := by decide +kernel
theorem dX11_init_25 : decode cX11_init 25 = .ok (.new 22, 3) := by decide +kernel
theorem dX11_init_28 : decode cX11_init 28 = .ok (.dup, 1) := by decide +kernel
theorem dX11_init_29 : decode cX11_init 29 = .ok (.invokespecial 24, 3) := by decide +kernel
theorem dX11_init_32 : decode cX11_init 32 = .ok (.putfield 25, 3) := by decide +kernel
theorem dX11_init_35 : decode cX11_init 35 = .ok (.aload_n 0, 1) := by decide +kernel
theorem dX11_init_36 : decode cX11_init 36 = .ok (.bipush 6, 2) := by decide +kernel
theorem dX11_init_38 : decode cX11_init 38 = .ok (.anewarray 29, 3) := by decide +kernel
theorem dX11_init_41 : decode cX11_init 41 = .ok (.putfield 31, 3) := by decide +kernel
theorem dX11_init_44 : decode cX11_init 44 = .ok (.aload_n 0, 1) := by decide +kernel
theorem dX11_init_45 : decode cX11_init 45 = .ok (.new 35, 3) := by decide +kernel
theorem dX11_init_48 : decode cX11_init 48 = .ok (.dup, 1) := by decide +kernel
theorem dX11_init_49 : decode cX11_init 49 = .ok (.invokespecial 37, 3) := by decide +kernel
theorem dX11_init_52 : decode cX11_init 52 = .ok (.putfield 38, 3) := by decide +kernel
theorem dX11_init_55 : decode cX11_init 55 = .ok (.aload_n 0, 1) := by decide +kernel
theorem dX11_init_56 : decode cX11_init 56 = .ok (.new 42, 3) := by decide +kernel
theorem dX11_init_59 : decode cX11_init 59 = .ok (.dup, 1) := by decide +kernel
theorem dX11_init_60 : decode cX11_init 60 = .ok (.invokespecial 44, 3) := by decide +kernel
theorem dX11_init_63 : decode cX11_init 63 = .ok (.putfield 45, 3) := by decide +kernel
theorem dX11_init_66 : decode cX11_init 66 = .ok (.aload_n 0, 1) := by decide +kernel
theorem dX11_init_67 : decode cX11_init 67 = .ok (.iconst 4, 1) := by decide +kernel
theorem dX11_init_68 : decode cX11_init 68 = .ok (.bipush 40, 2) := by decide +kernel
theorem dX11_init_70 : decode cX11_init 70 = .ok (.multianewarray 49 2, 4) := by decide +kernel
theorem dX11_init_74 : decode cX11_init 74 = .ok (.putfield 51, 3) := by decide +kernel
theorem dX11_init_77 : decode cX11_init 77 = .ok (.aload_n 0, 1) := by decide +kernel
theorem dX11_init_78 : decode cX11_init 78 = .ok (.iconst 4, 1) := by decide +kernel
theorem dX11_init_79 : decode cX11_init 79 = .ok (.newarray .int, 2) := by decide +kernel
theorem dX11_init_81 : decode cX11_init 81 = .ok (.dup, 1) := by decide +kernel
theorem dX11_init_82 : decode cX11_init 82 = .ok (.iconst 0, 1) := by decide +kernel
theorem dX11_init_83 : decode cX11_init 83 = .ok (.iconst (-1), 1) := by decide +kernel
theorem dX11_init_84 : decode cX11_init 84 = .ok (.iastore, 1) := by decide +kernel
theorem dX11_init_85 : decode cX11_init 85 = .ok (.dup, 1) := by decide +kernel
theorem dX11_init_86 : decode cX11_init 86 = .ok (.iconst 1, 1) := by decide +kernel
theorem dX11_init_87 : decode cX11_init 87 = .ok (.iconst (-1), 1) := by decide +kernel
theorem dX11_init_88 : decode cX11_init 88 = .ok (.iastore, 1) := by decide +kernel
theorem dX11_init_89 : decode cX11_init 89 = .ok (.dup, 1) := by decide +kernel
theorem dX11_init_90 : decode cX11_init 90 = .ok (.iconst 2, 1) := by decide +kernel
theorem dX11_init_91 : decode cX11_init 91 = .ok (.iconst (-1), 1) := by decide +kernel
theorem dX11_init_92 : decode cX11_init 92 = .ok (.iastore, 1) := by decide +kernel
theorem dX11_init_93 : decode cX11_init 93 = .ok (.dup, 1) := by decide +kernel
theorem dX11_init_94 : decode cX11_init 94 = .ok (.iconst 3, 1) := by decide +kernel
theorem dX11_init_95 : decode cX11_init 95 = .ok (.iconst (-1), 1) := by decide +kernel
theorem dX11_init_96 : decode cX11_init 96 = .ok (.iastore, 1) := by decide +kernel
theorem dX11_init_97 : decode cX11_init 97 = .ok (.putfield 54, 3) := by decide +kernel
theorem dX11_init_100 : decode cX11_init 100 = .ok (.aload_n 0, 1) := by decide +kernel
theorem dX11_init_101 : decode cX11_init 101 = .ok (.iconst 4, 1) := by decide +kernel
theorem dX11_init_102 : decode cX11_init 102 = .ok (.newarray .int, 2) := by decide +kernel
theorem dX11_init_104 : decode cX11_init 104 = .ok (.putfield 58, 3) := by decide +kernel
theorem dX11_init_107 : decode cX11_init 107 = .ok (.aload_n 0, 1) := by decide +kernel
theorem dX11_init_108 : decode cX11_init 108 = .ok (.invokestatic 61, 3) := by decide +kernel
theorem dX11_init_111 : decode cX11_init 111 = .ok (.putfield 65, 3) := by decide +kernel
theorem dX11_init_114 : decode cX11_init 114 = .ok (.aload_n 0, 1) := by decide +kernel
theorem dX11_init_115 : decode cX11_init 115 = .ok (.getfield 31, 3) := by decide +kernel
theorem dX11_init_118 : decode cX11_init 118 = .ok (.iconst 0, 1) := by decide +kernel
theorem dX11_init_119 : decode cX11_init 119 = .ok (.aload_n 0, 1) := by decide +kernel
theorem dX11_init_120 : decode cX11_init 120 = .ok (.getfield 65, 3) := by decide +kernel
theorem dX11_init_123 : decode cX11_init 123 = .ok (.aastore, 1) := by decide +kernel
theorem dX11_init_124 : decode cX11_init 124 = .ok (.aload_n 0, 1) := by decide +kernel
theorem dX11_init_125 : decode cX11_init 125 = .ok (.iconst 1, 1) := by decide +kernel
theorem dX11_init_126 : decode cX11_init 126 = .ok (.putfield 69, 3) := by decide +kernel
theorem dX11_init_129 : decode cX11_init 129 = .ok (.return_, 1) := by decide +kernel
theorem dX11_hank_0 : decode cX11_hank 0 = .ok (.aload_n 0, 1) := by decide +kernel
theorem dX11_hank_1 : decode cX11_hank 1 = .ok (.getfield 10, 3) := by decide +kernel
theorem dX11_hank_4 : decode cX11_hank 4 = .ok (.iload_n 1, 1) := by decide +kernel
theorem dX11_hank_5 : decode cX11_hank 5 = .ok (.iload_n 2, 1) := by decide +kernel
theorem dX11_hank_6 : decode cX11_hank 6 = .ok (.iload_n 3, 1) := by decide +kernel
theorem dX11_hank_7 : decode cX11_hank 7 = .ok (.invokevirtual 73, 3) := by decide +kernel
theorem dX11_hank_10 : decode cX11_hank 10 = .ok (.ireturn, 1) := by decide +kernel
theorem dX11_ounces_0 : decode cX11_ounces 0 = .ok (.aload_n 0, 1) := by decide +kernel
theorem dX11_ounces_1 : decode cX11_ounces 1 = .ok (.getfield 10, 3) := by decide +kernel
theorem dX11_ounces_4 : decode cX11_ounces 4 = .ok (.iload_n 1, 1) := by decide +kernel
theorem dX11_ounces_5 : decode cX11_ounces 5 = .ok (.invokevirtual 77, 3) := by decide +kernel
theorem dX11_ounces_8 : decode cX11_ounces 8 = .ok (.ifCond .eq 13, 3) := by decide +kernel
theorem dX11_ounces_11 : decode cX11_ounces 11 = .ok (.iload_n 2, 1) := by decide +kernel
theorem dX11_ounces_12 : decode cX11_ounces 12 = .ok (.iconst 0, 1) := by decide +kernel
theorem dX11_ounces_13 : decode cX11_ounces 13 = .ok (.bipush 99, 2) := by decide +kernel
theorem dX11_ounces_15 : decode cX11_ounces 15 = .ok (.invokestatic 81, 3) := by decide +kernel
theorem dX11_ounces_18 : decode cX11_ounces 18 = .ok (.ifCond .ne 6, 3) := by decide +kernel
theorem dX11_ounces_21 : decode cX11_ounces 21 = .ok (.bipush (-2), 2) := by decide +kernel
theorem dX11_ounces_23 : decode cX11_ounces 23 = .ok (.ireturn, 1) := by decide +kernel
theorem dX11_ounces_24 : decode cX11_ounces 24 = .ok (.aload_n 0, 1) := by decide +kernel
theorem dX11_ounces_25 : decode cX11_ounces 25 = .ok (.getfield 10, 3) := by decide +kernel
theorem dX11_ounces_28 : decode cX11_ounces 28 = .ok (.getfield 85, 3) := by decide +kernel
theorem dX11_ounces_31 : decode cX11_ounces 31 = .ok (.iload_n 1, 1) := by decide +kernel
theorem dX11_ounces_32 : decode cX11_ounces 32 = .ok (.iaload, 1) := by decide +kernel
theorem dX11_ounces_33 : decode cX11_ounces 33 = .ok (.istore_n 3, 1) := by decide +kernel
theorem dX11_ounces_34 : decode cX11_ounces 34 = .ok (.aload_n 0, 1) := by decide +kernel
theorem dX11_ounces_35 : decode cX11_ounces 35 = .ok (.getfield 10, 3) := by decide +kernel
theorem dX11_ounces_38 : decode cX11_ounces 38 = .ok (.getfield 85, 3) := by decide +kernel
theorem dX11_ounces_41 : decode cX11_ounces 41 = .ok (.iload_n 1, 1) := by decide +kernel
theorem dX11_ounces_42 : decode cX11_ounces 42 = .ok (.iload_n 2, 1) := by decide +kernel
theorem dX11_ounces_43 : decode cX11_ounces 43 = .ok (.iastore, 1) := by decide +kernel
theorem dX11_ounces_44 : decode cX11_ounces 44 = .ok (.iload_n 3, 1) := by decide +kernel
theorem dX11_ounces_45 : decode cX11_ounces 45 = .ok (.ireturn, 1) := by decide +kernel
theorem dX11_fade_0 : decode cX11_fade 0 = .ok (.iload_n 1, 1) := by decide +kernel
theorem dX11_fade_1 : decode cX11_fade 1 = .ok (.iconst 0, 1) := by decide +kernel
theorem dX11_fade_2 : decode cX11_fade 2 = .ok (.bipush 8, 2) := by decide +kernel
theorem dX11_fade_4 : decode cX11_fade 4 = .ok (.invokestatic 81, 3) := by decide +kernel
theorem dX11_fade_7 : decode cX11_fade 7 = .ok (.ifCond .eq 13, 3) := by decide +kernel
theorem dX11_fade_10 : decode cX11_fade 10 = .ok (.iload_n 2, 1) := by decide +kernel
theorem dX11_fade_11 : decode cX11_fade 11 = .ok (.iconst 0, 1) := by decide +kernel
theorem dX11_fade_12 : decode cX11_fade 12 = .ok (.bipush 50, 2) := by decide +kernel
theorem dX11_fade_14 : decode cX11_fade 14 = .ok (.invokestatic 81, 3) := by decide +kernel
theorem dX11_fade_17 : decode cX11_fade 17 = .ok (.ifCond .ne 6, 3) := by decide +kernel
theorem dX11_fade_20 : decode cX11_fade 20 = .ok (.bipush (-2), 2) := by decide +kernel
theorem dX11_fade_22 : decode cX11_fade 22 = .ok (.ireturn, 1) := by decide +kernel
theorem dX11_fade_23 : decode cX11_fade 23 = .ok (.aload_n 0, 1) := by decide +kernel
theorem dX11_fade_24 : decode cX11_fade 24 = .ok (.getfield 10, 3) := by decide +kernel
theorem dX11_fade_27 : decode cX11_fade 27 = .ok (.getfield 88, 3) := by decide +kernel
theorem dX11_fade_30 : decode cX11_fade 30 = .ok (.iload_n 1, 1) := by decide +kernel
theorem dX11_fade_31 : decode cX11_fade 31 = .ok (.iaload, 1) := by decide +kernel
theorem dX11_fade_32 : decode cX11_fade 32 = .ok (.istore_n 3, 1) := by decide +kernel
theorem dX11_fade_33 : decode cX11_fade 33 = .ok (.aload_n 0, 1) := by decide +kernel
theorem dX11_fade_34 : decode cX11_fade 34 = .ok (.getfield 10, 3) := by decide +kernel
theorem dX11_fade_37 : decode cX11_fade 37 = .ok (.getfield 88, 3) := by decide +kernel
theorem dX11_fade_40 : decode cX11_fade 40 = .ok (.iload_n 1, 1) := by decide +kernel
theorem dX11_fade_41 : decode cX11_fade 41 = .ok (.iload_n 2, 1) := by decide +kernel
theorem dX11_fade_42 : decode cX11_fade 42 = .ok (.iastore, 1) := by decide +kernel
theorem dX11_fade_43 : decode cX11_fade 43 = .ok (.iload_n 3, 1) := by decide +kernel
theorem dX11_fade_44 : decode cX11_fade 44 = .ok (.ireturn, 1) := by decide +kernel
theorem dX11_coat_0 : decode cX11_coat 0 = .ok (.iload_n 1, 1) := by decide +kernel
theorem dX11_coat_1 : decode cX11_coat 1 = .ok (.iconst 0, 1) := by decide +kernel
theorem dX11_coat_2 : decode cX11_coat 2 = .ok (.iconst 5, 1) := by decide +kernel
theorem dX11_coat_3 : decode cX11_coat 3 = .ok (.invokestatic 81, 3) := by decide +kernel
theorem dX11_coat_6 : decode cX11_coat 6 = .ok (.ifCond .eq 24, 3) := by decide +kernel
theorem dX11_coat_9 : decode cX11_coat 9 = .ok (.iload_n 2, 1) := by decide +kernel
theorem dX11_coat_10 : decode cX11_coat 10 = .ok (.iconst 1, 1) := by decide +kernel
theorem dX11_coat_11 : decode cX11_coat 11 = .ok (.bipush 9, 2) := by decide +kernel
theorem dX11_coat_13 : decode cX11_coat 13 = .ok (.invokestatic 81, 3) := by decide +kernel
theorem dX11_coat_16 : decode cX11_coat 16 = .ok (.ifCond .eq 14, 3) := by decide +kernel
theorem dX11_coat_19 : decode cX11_coat 19 = .ok (.iload_n 3, 1) := by decide +kernel
theorem dX11_coat_20 : decode cX11_coat 20 = .ok (.iconst 0, 1) := by decide +kernel
theorem dX11_coat_21 : decode cX11_coat 21 = .ok (.sipush 20999, 3) := by decide +kernel
theorem dX11_coat_24 : decode cX11_coat 24 = .ok (.invokestatic 81, 3) := by decide +kernel
theorem dX11_coat_27 : decode cX11_coat 27 = .ok (.ifCond .ne 6, 3) := by decide +kernel
theorem dX11_coat_30 : decode cX11_coat 30 = .ok (.bipush (-2), 2) := by decide +kernel
theorem dX11_coat_32 : decode cX11_coat 32 = .ok (.ireturn, 1) := by decide +kernel
theorem dX11_coat_33 : decode cX11_coat 33 = .ok (.aload_n 0, 1) := by decide +kernel
theorem dX11_coat_34 : decode cX11_coat 34 = .ok (.getfield 91, 3) := by decide +kernel
theorem dX11_coat_37 : decode cX11_coat 37 = .ok (.bipush 8, 2) := by decide +kernel
theorem dX11_coat_39 : decode cX11_coat 39 = .ok (.if_icmp .lt 6, 3) := by decide +kernel
theorem dX11_coat_42 : decode cX11_coat 42 = .ok (.bipush (-4), 2) := by decide +kernel
theorem dX11_coat_44 : decode cX11_coat 44 = .ok (.ireturn, 1) := by decide +kernel
theorem dX11_coat_45 : decode cX11_coat 45 = .ok (.aload_n 0, 1) := by decide +kernel
theorem dX11_coat_46 : decode cX11_coat 46 = .ok (.getfield 18, 3) := by decide +kernel
theorem dX11_coat_49 : decode cX11_coat 49 = .ok (.aload_n 0, 1) := by decide +kernel
theorem dX11_coat_50 : decode cX11_coat 50 = .ok (.getfield 91, 3) := by decide +kernel
theorem dX11_coat_53 : decode cX11_coat 53 = .ok (.iload_n 1, 1) := by decide +kernel
theorem dX11_coat_54 : decode cX11_coat 54 = .ok (.iload_n 2, 1) := by decide +kernel
theorem dX11_coat_55 : decode cX11_coat 55 = .ok (.iload_n 3, 1) := by decide +kernel
theorem dX11_coat_56 : decode cX11_coat 56 = .ok (.invokestatic 94, 3) := by decide +kernel
theorem dX11_coat_59 : decode cX11_coat 59 = .ok (.aastore, 1) := by decide +kernel
theorem dX11_coat_60 : decode cX11_coat 60 = .ok (.aload_n 0, 1) := by decide +kernel
theorem dX11_coat_61 : decode cX11_coat 61 = .ok (.dup, 1) := by decide +kernel
theorem dX11_coat_62 : decode cX11_coat 62 = .ok (.getfield 91, 3) := by decide +kernel
theorem dX11_coat_65 : decode cX11_coat 65 = .ok (.iconst 1, 1) := by decide +kernel
theorem dX11_coat_66 : decode cX11_coat 66 = .ok (.iadd, 1) := by decide +kernel
theorem dX11_coat_67 : decode cX11_coat 67 = .ok (.putfield 91, 3) := by decide +kernel
theorem dX11_coat_70 : decode cX11_coat 70 = .ok (.aload_n 0, 1) := by decide +kernel
theorem dX11_coat_71 : decode cX11_coat 71 = .ok (.getfield 91, 3) := by decide +kernel
theorem dX11_coat_74 : decode cX11_coat 74 = .ok (.iconst 1, 1) := by decide +kernel
theorem dX11_coat_75 : decode cX11_coat 75 = .ok (.isub, 1) := by decide +kernel
theorem dX11_coat_76 : decode cX11_coat 76 = .ok (.ireturn, 1) := by decide +kernel
theorem dX11_told_0 : decode cX11_told 0 = .ok (.aload_n 0, 1) := by decide +kernel
theorem dX11_told_1 : decode cX11_told 1 = .ok (.iload_n 1, 1) := by decide +kernel
theorem dX11_told_2 : decode cX11_told 2 = .ok (.invokevirtual 98, 3) := by decide +kernel
theorem dX11_told_5 : decode cX11_told 5 = .ok (.astore_n 3, 1) := by decide +kernel
theorem dX11_told_6 : decode cX11_told 6 = .ok (.aload_n 3, 1) := by decide +kernel
theorem dX11_told_7 : decode cX11_told 7 = .ok (.ifnonnull 6, 3) := by decide +kernel
theorem dX11_told_10 : decode cX11_told 10 = .ok (.bipush (-5), 2) := by decide +kernel
theorem dX11_told_12 : decode cX11_told 12 = .ok (.ireturn, 1) := by decide +kernel
theorem dX11_told_13 : decode cX11_told 13 = .ok (.iload_n 2, 1) := by decide +kernel
theorem dX11_told_14 : decode cX11_told 14 = .ok (.bipush 10, 2) := by decide +kernel
theorem dX11_told_16 : decode cX11_told 16 = .ok (.bipush 14, 2) := by decide +kernel
theorem dX11_told_18 : decode cX11_told 18 = .ok (.invokestatic 81, 3) := by decide +kernel
theorem dX11_told_21 : decode cX11_told 21 = .ok (.ifCond .eq 12, 3) := by decide +kernel
theorem dX11_told_24 : decode cX11_told 24 = .ok (.aload_n 3, 1) := by decide +kernel
theorem dX11_told_25 : decode cX11_told 25 = .ok (.iload_n 2, 1) := by decide +kernel
theorem dX11_told_26 : decode cX11_told 26 = .ok (.bipush 10, 2) := by decide +kernel
theorem dX11_told_28 : decode cX11_told 28 = .ok (.isub, 1) := by decide +kernel
theorem dX11_told_29 : decode cX11_told 29 = .ok (.invokevirtual 102, 3) := by decide +kernel
theorem dX11_told_32 : decode cX11_told 32 = .ok (.ireturn, 1) := by decide +kernel
theorem dX11_told_33 : decode cX11_told 33 = .ok (.iload_n 2, 1) := by decide +kernel
theorem dX11_told_34 : decode cX11_told 34 = .ok (.bipush 20, 2) := by decide +kernel
theorem dX11_told_36 : decode cX11_told 36 = .ok (.bipush 25, 2) := by decide +kernel
theorem dX11_told_38 : decode cX11_told 38 = .ok (.invokestatic 81, 3) := by decide +kernel
theorem dX11_told_41 : decode cX11_told 41 = .ok (.ifCond .eq 16, 3) := by decide +kernel
theorem dX11_told_44 : decode cX11_told 44 = .ok (.aload_n 0, 1) := by decide +kernel
theorem dX11_told_45 : decode cX11_told 45 = .ok (.getfield 65, 3) := by decide +kernel
theorem dX11_told_48 : decode cX11_told 48 = .ok (.aload_n 3, 1) := by decide +kernel
theorem dX11_told_49 : decode cX11_told 49 = .ok (.iload_n 2, 1) := by decide +kernel
theorem dX11_told_50 : decode cX11_told 50 = .ok (.bipush 20, 2) := by decide +kernel
theorem dX11_told_52 : decode cX11_told 52 = .ok (.isub, 1) := by decide +kernel
theorem dX11_told_53 : decode cX11_told 53 = .ok (.invokevirtual 106, 3) := by decide +kernel
theorem dX11_told_56 : decode cX11_told 56 = .ok (.ireturn, 1) := by decide +kernel
theorem dX11_told_57 : decode cX11_told 57 = .ok (.iload_n 2, 1) := by decide +kernel
theorem dX11_told_58 : decode cX11_told 58 = .ok (.tableswitch 89 0 6 #[42, 47, 52, 57, 62, 67, 76], 42) := by decide +kernel
theorem dX11_told_100 : decode cX11_told 100 = .ok (.aload_n 3, 1) := by decide +kernel
theorem dX11_told_101 : decode cX11_told 101 = .ok (.getfield 110, 3) := by decide +kernel
theorem dX11_told_104 : decode cX11_told 104 = .ok (.ireturn, 1) := by decide +kernel
theorem dX11_told_105 : decode cX11_told 105 = .ok (.aload_n 3, 1) := by decide +kernel
theorem dX11_told_106 : decode cX11_told 106 = .ok (.getfield 113, 3) := by decide +kernel
theorem dX11_told_109 : decode cX11_told 109 = .ok (.ireturn, 1) := by decide +kernel
theorem dX11_told_110 : decode cX11_told 110 = .ok (.aload_n 3, 1) := by decide +kernel
theorem dX11_told_111 : decode cX11_told 111 = .ok (.getfield 116, 3) := by decide +kernel
theorem dX11_told_114 : decode cX11_told 114 = .ok (.ireturn, 1) := by decide +kernel
theorem dX11_told_115 : decode cX11_told 115 = .ok (.aload_n 3, 1) := by decide +kernel
theorem dX11_told_116 : decode cX11_told 116 = .ok (.invokevirtual 119, 3) := by decide +kernel
theorem dX11_told_119 : decode cX11_told 119 = .ok (.ireturn, 1) := by decide +kernel
theorem dX11_told_120 : decode cX11_told 120 = .ok (.aload_n 3, 1) := by decide +kernel
theorem dX11_told_121 : decode cX11_told 121 = .ok (.invokevirtual 123, 3) := by decide +kernel
theorem dX11_told_124 : decode cX11_told 124 = .ok (.ireturn, 1) := by decide +kernel
theorem dX11_told_125 : decode cX11_told 125 = .ok (.aload_n 0, 1) := by decide +kernel
theorem dX11_told_126 : decode cX11_told 126 = .ok (.getfield 65, 3) := by decide +kernel
theorem dX11_told_129 : decode cX11_told 129 = .ok (.aload_n 3, 1) := by decide +kernel
theorem dX11_told_130 : decode cX11_told 130 = .ok (.invokevirtual 126, 3) := by decide +kernel
theorem dX11_told_133 : decode cX11_told 133 = .ok (.ireturn, 1) := by decide +kernel
theorem dX11_told_134 : decode cX11_told 134 = .ok (.aload_n 3, 1) := by decide +kernel
theorem dX11_told_135 : decode cX11_told 135 = .ok (.getfield 130, 3) := by decide +kernel
theorem dX11_told_138 : decode cX11_told 138 = .ok (.ifCond .eq 7, 3) := by decide +kernel
theorem dX11_told_141 : decode cX11_told 141 = .ok (.iconst 1, 1) := by decide +kernel
theorem dX11_told_142 : decode cX11_told 142 = .ok (.goto 4, 3) := by decide +kernel
theorem dX11_told_145 : decode cX11_told 145 = .ok (.iconst 0, 1) := by decide +kernel
theorem dX11_told_146 : decode cX11_told 146 = .ok (.ireturn, 1) := by decide +kernel
theorem dX11_told_147 : decode cX11_told 147 = .ok (.bipush (-5), 2) := by decide +kernel
theorem dX11_told_149 : decode cX11_told 149 = .ok (.ireturn, 1) := by decide +kernel
theorem dX11_hankTold_0 : decode cX11_hankTold 0 = .ok (.aload_n 0, 1) := by decide +kernel
theorem dX11_hankTold_1 : decode cX11_hankTold 1 = .ok (.getfield 10, 3) := by decide +kernel
theorem dX11_hankTold_4 : decode cX11_hankTold 4 = .ok (.iload_n 1, 1) := by decide +kernel
theorem dX11_hankTold_5 : decode cX11_hankTold 5 = .ok (.invokevirtual 77, 3) := by decide +kernel
theorem dX11_hankTold_8 : decode cX11_hankTold 8 = .ok (.ifCond .ne 6, 3) := by decide +kernel
theorem dX11_hankTold_11 : decode cX11_hankTold 11 = .ok (.bipush (-5), 2) := by decide +kernel
theorem dX11_hankTold_13 : decode cX11_hankTold 13 = .ok (.ireturn, 1) := by decide +kernel
theorem dX11_hankTold_14 : decode cX11_hankTold 14 = .ok (.iload_n 2, 1) := by decide +kernel
theorem dX11_hankTold_15 : decode cX11_hankTold 15 = .ok (.tableswitch 54 0 2 #[25, 35, 44], 25) := by decide +kernel
theorem dX11_hankTold_40 : decode cX11_hankTold 40 = .ok (.aload_n 0, 1) := by decide +kernel
theorem dX11_hankTold_41 : decode cX11_hankTold 41 = .ok (.getfield 10, 3) := by decide +kernel
theorem dX11_hankTold_44 : decode cX11_hankTold 44 = .ok (.getfield 85, 3) := by decide +kernel
theorem dX11_hankTold_47 : decode cX11_hankTold 47 = .ok (.iload_n 1, 1) := by decide +kernel
theorem dX11_hankTold_48 : decode cX11_hankTold 48 = .ok (.iaload, 1) := by decide +kernel
theorem dX11_hankTold_49 : decode cX11_hankTold 49 = .ok (.ireturn, 1) := by decide +kernel
theorem dX11_hankTold_50 : decode cX11_hankTold 50 = .ok (.aload_n 0, 1) := by decide +kernel
theorem dX11_hankTold_51 : decode cX11_hankTold 51 = .ok (.getfield 10, 3) := by decide +kernel
theorem dX11_hankTold_54 : decode cX11_hankTold 54 = .ok (.iload_n 1, 1) := by decide +kernel
theorem dX11_hankTold_55 : decode cX11_hankTold 55 = .ok (.invokevirtual 134, 3) := by decide +kernel
theorem dX11_hankTold_58 : decode cX11_hankTold 58 = .ok (.ireturn, 1) := by decide +kernel
theorem dX11_hankTold_59 : decode cX11_hankTold 59 = .ok (.aload_n 0, 1) := by decide +kernel
theorem dX11_hankTold_60 : decode cX11_hankTold 60 = .ok (.getfield 10, 3) := by decide +kernel
theorem dX11_hankTold_63 : decode cX11_hankTold 63 = .ok (.getfield 137, 3) := by decide +kernel
theorem dX11_hankTold_66 : decode cX11_hankTold 66 = .ok (.iload_n 1, 1) := by decide +kernel
theorem dX11_hankTold_67 : decode cX11_hankTold 67 = .ok (.iaload, 1) := by decide +kernel
theorem dX11_hankTold_68 : decode cX11_hankTold 68 = .ok (.ireturn, 1) := by decide +kernel
theorem dX11_hankTold_69 : decode cX11_hankTold 69 = .ok (.bipush (-5), 2) := by decide +kernel
theorem dX11_hankTold_71 : decode cX11_hankTold 71 = .ok (.ireturn, 1) := by decide +kernel
theorem dX11_feed_0 : decode cX11_feed 0 = .ok (.iload_n 1, 1) := by decide +kernel
theorem dX11_feed_1 : decode cX11_feed 1 = .ok (.iconst 1, 1) := by decide +kernel
theorem dX11_feed_2 : decode cX11_feed 2 = .ok (.bipush 8, 2) := by decide +kernel
theorem dX11_feed_4 : decode cX11_feed 4 = .ok (.invokestatic 81, 3) := by decide +kernel
theorem dX11_feed_7 : decode cX11_feed 7 = .ok (.ifCond .ne 6, 3) := by decide +kernel
theorem dX11_feed_10 : decode cX11_feed 10 = .ok (.bipush (-2), 2) := by decide +kernel
theorem dX11_feed_12 : decode cX11_feed 12 = .ok (.ireturn, 1) := by decide +kernel
theorem dX11_feed_13 : decode cX11_feed 13 = .ok (.aload_n 0, 1) := by decide +kernel
theorem dX11_feed_14 : decode cX11_feed 14 = .ok (.getfield 25, 3) := by decide +kernel
theorem dX11_feed_17 : decode cX11_feed 17 = .ok (.getfield 140, 3) := by decide +kernel
theorem dX11_feed_20 : decode cX11_feed 20 = .ok (.iload_n 1, 1) := by decide +kernel
theorem dX11_feed_21 : decode cX11_feed 21 = .ok (.iadd, 1) := by decide +kernel
theorem dX11_feed_22 : decode cX11_feed 22 = .ok (.sipush 160, 3) := by decide +kernel
theorem dX11_feed_25 : decode cX11_feed 25 = .ok (.if_icmp .le 6, 3) := by decide +kernel
theorem dX11_feed_28 : decode cX11_feed 28 = .ok (.bipush (-4), 2) := by decide +kernel
theorem dX11_feed_30 : decode cX11_feed 30 = .ok (.ireturn, 1) := by decide +kernel
theorem dX11_feed_31 : decode cX11_feed 31 = .ok (.iconst 0, 1) := by decide +kernel
theorem dX11_feed_32 : decode cX11_feed 32 = .ok (.istore 4, 2) := by decide +kernel
theorem dX11_feed_34 : decode cX11_feed 34 = .ok (.iload 4, 2) := by decide +kernel
theorem dX11_feed_36 : decode cX11_feed 36 = .ok (.iload_n 1, 1) := by decide +kernel
theorem dX11_feed_37 : decode cX11_feed 37 = .ok (.if_icmp .ge 25, 3) := by decide +kernel
theorem dX11_feed_40 : decode cX11_feed 40 = .ok (.aload_n 0, 1) := by decide +kernel
theorem dX11_feed_41 : decode cX11_feed 41 = .ok (.getfield 25, 3) := by decide +kernel
theorem dX11_feed_44 : decode cX11_feed 44 = .ok (.lload_n 2, 1) := by decide +kernel
theorem dX11_feed_45 : decode cX11_feed 45 = .ok (.bipush 8, 2) := by decide +kernel
theorem dX11_feed_47 : decode cX11_feed 47 = .ok (.iload 4, 2) := by decide +kernel
theorem dX11_feed_49 : decode cX11_feed 49 = .ok (.imul, 1) := by decide +kernel
theorem dX11_feed_50 : decode cX11_feed 50 = .ok (.lushr, 1) := by decide +kernel
theorem dX11_feed_51 : decode cX11_feed 51 = .ok (.l2i, 1) := by decide +kernel
theorem dX11_feed_52 : decode cX11_feed 52 = .ok (.i2b, 1) := by decide +kernel
theorem dX11_feed_53 : decode cX11_feed 53 = .ok (.invokevirtual 143, 3) := by decide +kernel
theorem dX11_feed_56 : decode cX11_feed 56 = .ok (.iinc 4 1, 3) := by decide +kernel
theorem dX11_feed_59 : decode cX11_feed 59 = .ok (.goto (-25), 3) := by decide +kernel
theorem dX11_feed_62 : decode cX11_feed 62 = .ok (.aload_n 0, 1) := by decide +kernel
theorem dX11_feed_63 : decode cX11_feed 63 = .ok (.getfield 25, 3) := by decide +kernel
theorem dX11_feed_66 : decode cX11_feed 66 = .ok (.getfield 140, 3) := by decide +kernel
theorem dX11_feed_69 : decode cX11_feed 69 = .ok (.ireturn, 1) := by decide +kernel
theorem dX11_text_0 : decode cX11_text 0 = .ok (.aload_n 0, 1) := by decide +kernel
theorem dX11_text_1 : decode cX11_text 1 = .ok (.getfield 69, 3) := by decide +kernel
theorem dX11_text_4 : decode cX11_text 4 = .ok (.bipush 6, 2) := by decide +kernel
theorem dX11_text_6 : decode cX11_text 6 = .ok (.if_icmp .lt 6, 3) := by decide +kernel
theorem dX11_text_9 : decode cX11_text 9 = .ok (.bipush (-4), 2) := by decide +kernel
theorem dX11_text_11 : decode cX11_text 11 = .ok (.ireturn, 1) := by decide +kernel
theorem dX11_text_12 : decode cX11_text 12 = .ok (.aload_n 0, 1) := by decide +kernel
theorem dX11_text_13 : decode cX11_text 13 = .ok (.getfield 25, 3) := by decide +kernel
theorem dX11_text_16 : decode cX11_text 16 = .ok (.invokevirtual 147, 3) := by decide +kernel
theorem dX11_text_19 : decode cX11_text 19 = .ok (.astore_n 1, 1) := by decide +kernel
theorem dX11_text_20 : decode cX11_text 20 = .ok (.aload_n 1, 1) := by decide +kernel
theorem dX11_text_21 : decode cX11_text 21 = .ok (.ifnonnull 14, 3) := by decide +kernel
theorem dX11_text_24 : decode cX11_text 24 = .ok (.bipush (-100), 2) := by decide +kernel
theorem dX11_text_26 : decode cX11_text 26 = .ok (.aload_n 0, 1) := by decide +kernel
theorem dX11_text_27 : decode cX11_text 27 = .ok (.getfield 25, 3) := by decide +kernel
theorem dX11_text_30 : decode cX11_text 30 = .ok (.getfield 150, 3) := by decide +kernel
theorem dX11_text_33 : decode cX11_text 33 = .ok (.isub, 1) := by decide +kernel
theorem dX11_text_34 : decode cX11_text 34 = .ok (.ireturn, 1) := by decide +kernel
theorem dX11_text_35 : decode cX11_text 35 = .ok (.aload_n 0, 1) := by decide +kernel
theorem dX11_text_36 : decode cX11_text 36 = .ok (.getfield 31, 3) := by decide +kernel
theorem dX11_text_39 : decode cX11_text 39 = .ok (.aload_n 0, 1) := by decide +kernel
theorem dX11_text_40 : decode cX11_text 40 = .ok (.getfield 69, 3) := by decide +kernel
theorem dX11_text_43 : decode cX11_text 43 = .ok (.aload_n 1, 1) := by decide +kernel
theorem dX11_text_44 : decode cX11_text 44 = .ok (.aastore, 1) := by decide +kernel
theorem dX11_text_45 : decode cX11_text 45 = .ok (.aload_n 0, 1) := by decide +kernel
theorem dX11_text_46 : decode cX11_text 46 = .ok (.dup, 1) := by decide +kernel
theorem dX11_text_47 : decode cX11_text 47 = .ok (.getfield 69, 3) := by decide +kernel
theorem dX11_text_50 : decode cX11_text 50 = .ok (.iconst 1, 1) := by decide +kernel
theorem dX11_text_51 : decode cX11_text 51 = .ok (.iadd, 1) := by decide +kernel
theorem dX11_text_52 : decode cX11_text 52 = .ok (.putfield 69, 3) := by decide +kernel
theorem dX11_text_55 : decode cX11_text 55 = .ok (.aload_n 0, 1) := by decide +kernel
theorem dX11_text_56 : decode cX11_text 56 = .ok (.getfield 69, 3) := by decide +kernel
theorem dX11_text_59 : decode cX11_text 59 = .ok (.iconst 1, 1) := by decide +kernel
theorem dX11_text_60 : decode cX11_text 60 = .ok (.isub, 1) := by decide +kernel
theorem dX11_text_61 : decode cX11_text 61 = .ok (.ireturn, 1) := by decide +kernel
theorem dX11_force_0 : decode cX11_force 0 = .ok (.iload_n 1, 1) := by decide +kernel
theorem dX11_force_1 : decode cX11_force 1 = .ok (.iconst 0, 1) := by decide +kernel
theorem dX11_force_2 : decode cX11_force 2 = .ok (.aload_n 0, 1) := by decide +kernel
theorem dX11_force_3 : decode cX11_force 3 = .ok (.getfield 69, 3) := by decide +kernel
theorem dX11_force_6 : decode cX11_force 6 = .ok (.iconst 1, 1) := by decide +kernel
theorem dX11_force_7 : decode cX11_force 7 = .ok (.isub, 1) := by decide +kernel
theorem dX11_force_8 : decode cX11_force 8 = .ok (.invokestatic 81, 3) := by decide +kernel
theorem dX11_force_11 : decode cX11_force 11 = .ok (.ifCond .ne 6, 3) := by decide +kernel
theorem dX11_force_14 : decode cX11_force 14 = .ok (.bipush (-2), 2) := by decide +kernel
theorem dX11_force_16 : decode cX11_force 16 = .ok (.ireturn, 1) := by decide +kernel
theorem dX11_force_17 : decode cX11_force 17 = .ok (.aload_n 0, 1) := by decide +kernel
theorem dX11_force_18 : decode cX11_force 18 = .ok (.getfield 153, 3) := by decide +kernel
theorem dX11_force_21 : decode cX11_force 21 = .ok (.istore_n 2, 1) := by decide +kernel
theorem dX11_force_22 : decode cX11_force 22 = .ok (.aload_n 0, 1) := by decide +kernel
theorem dX11_force_23 : decode cX11_force 23 = .ok (.iload_n 1, 1) := by decide +kernel
theorem dX11_force_24 : decode cX11_force 24 = .ok (.invokevirtual 156, 3) := by decide +kernel
theorem dX11_force_27 : decode cX11_force 27 = .ok (.iload_n 2, 1) := by decide +kernel
theorem dX11_force_28 : decode cX11_force 28 = .ok (.ireturn, 1) := by decide +kernel
theorem dX11_seen_0 : decode cX11_seen 0 = .ok (.aload_n 0, 1) := by decide +kernel
theorem dX11_seen_1 : decode cX11_seen 1 = .ok (.getfield 10, 3) := by decide +kernel
theorem dX11_seen_4 : decode cX11_seen 4 = .ok (.iload_n 1, 1) := by decide +kernel
theorem dX11_seen_5 : decode cX11_seen 5 = .ok (.invokevirtual 77, 3) := by decide +kernel
theorem dX11_seen_8 : decode cX11_seen 8 = .ok (.ifCond .eq 19, 3) := by decide +kernel
theorem dX11_seen_11 : decode cX11_seen 11 = .ok (.aload_n 0, 1) := by decide +kernel
theorem dX11_seen_12 : decode cX11_seen 12 = .ok (.getfield 10, 3) := by decide +kernel
theorem dX11_seen_15 : decode cX11_seen 15 = .ok (.iload_n 2, 1) := by decide +kernel
theorem dX11_seen_16 : decode cX11_seen 16 = .ok (.invokevirtual 77, 3) := by decide +kernel
theorem dX11_seen_19 : decode cX11_seen 19 = .ok (.ifCond .eq 8, 3) := by decide +kernel
theorem dX11_seen_22 : decode cX11_seen 22 = .ok (.iload_n 1, 1) := by decide +kernel
theorem dX11_seen_23 : decode cX11_seen 23 = .ok (.iload_n 2, 1) := by decide +kernel
theorem dX11_seen_24 : decode cX11_seen 24 = .ok (.if_icmp .ne 6, 3) := by decide +kernel
theorem dX11_seen_27 : decode cX11_seen 27 = .ok (.bipush (-5), 2) := by decide +kernel
theorem dX11_seen_29 : decode cX11_seen 29 = .ok (.ireturn, 1) := by decide +kernel
theorem dX11_seen_30 : decode cX11_seen 30 = .ok (.aload_n 0, 1) := by decide +kernel
theorem dX11_seen_31 : decode cX11_seen 31 = .ok (.getfield 65, 3) := by decide +kernel
theorem dX11_seen_34 : decode cX11_seen 34 = .ok (.aload_n 0, 1) := by decide +kernel
theorem dX11_seen_35 : decode cX11_seen 35 = .ok (.getfield 10, 3) := by decide +kernel
theorem dX11_seen_38 : decode cX11_seen 38 = .ok (.aload_n 0, 1) := by decide +kernel
theorem dX11_seen_39 : decode cX11_seen 39 = .ok (.getfield 10, 3) := by decide +kernel
theorem dX11_seen_42 : decode cX11_seen 42 = .ok (.getfield 85, 3) := by decide +kernel
theorem dX11_seen_45 : decode cX11_seen 45 = .ok (.iload_n 1, 1) := by decide +kernel
theorem dX11_seen_46 : decode cX11_seen 46 = .ok (.iload_n 2, 1) := by decide +kernel
theorem dX11_seen_47 : decode cX11_seen 47 = .ok (.invokevirtual 160, 3) := by decide +kernel
theorem dX11_seen_50 : decode cX11_seen 50 = .ok (.ireturn, 1) := by decide +kernel
theorem dX11_mayMeet_0 : decode cX11_mayMeet 0 = .ok (.aload_n 0, 1) := by decide +kernel
theorem dX11_mayMeet_1 : decode cX11_mayMeet 1 = .ok (.iload_n 1, 1) := by decide +kernel
theorem dX11_mayMeet_2 : decode cX11_mayMeet 2 = .ok (.invokevirtual 98, 3) := by decide +kernel
theorem dX11_mayMeet_5 : decode cX11_mayMeet 5 = .ok (.astore 4, 2) := by decide +kernel
theorem dX11_mayMeet_7 : decode cX11_mayMeet 7 = .ok (.aload 4, 2) := by decide +kernel
theorem dX11_mayMeet_9 : decode cX11_mayMeet 9 = .ok (.ifnull 16, 3) := by decide +kernel
theorem dX11_mayMeet_12 : decode cX11_mayMeet 12 = .ok (.iload_n 2, 1) := by decide +kernel
theorem dX11_mayMeet_13 : decode cX11_mayMeet 13 = .ok (.iconst 0, 1) := by decide +kernel
theorem dX11_mayMeet_14 : decode cX11_mayMeet 14 = .ok (.iconst 5, 1) := by decide +kernel
theorem dX11_mayMeet_15 : decode cX11_mayMeet 15 = .ok (.invokestatic 81, 3) := by decide +kernel
theorem dX11_mayMeet_18 : decode cX11_mayMeet 18 = .ok (.ifCond .eq 7, 3) := by decide +kernel
theorem dX11_mayMeet_21 : decode cX11_mayMeet 21 = .ok (.iload_n 3, 1) := by decide +kernel
theorem dX11_mayMeet_22 : decode cX11_mayMeet 22 = .ok (.ifCond .ge 6, 3) := by decide +kernel
theorem dX11_mayMeet_25 : decode cX11_mayMeet 25 = .ok (.bipush (-2), 2) := by decide +kernel
theorem dX11_mayMeet_27 : decode cX11_mayMeet 27 = .ok (.ireturn, 1) := by decide +kernel
theorem dX11_mayMeet_28 : decode cX11_mayMeet 28 = .ok (.iload_n 3, 1) := by decide +kernel
theorem dX11_mayMeet_29 : decode cX11_mayMeet 29 = .ok (.bipush 100, 2) := by decide +kernel
theorem dX11_mayMeet_31 : decode cX11_mayMeet 31 = .ok (.idiv, 1) := by decide +kernel
theorem dX11_mayMeet_32 : decode cX11_mayMeet 32 = .ok (.istore 5, 2) := by decide +kernel
theorem dX11_mayMeet_34 : decode cX11_mayMeet 34 = .ok (.iload_n 3, 1) := by decide +kernel
theorem dX11_mayMeet_35 : decode cX11_mayMeet 35 = .ok (.bipush 100, 2) := by decide +kernel
theorem dX11_mayMeet_37 : decode cX11_mayMeet 37 = .ok (.irem, 1) := by decide +kernel
theorem dX11_mayMeet_38 : decode cX11_mayMeet 38 = .ok (.istore 6, 2) := by decide +kernel
theorem dX11_mayMeet_40 : decode cX11_mayMeet 40 = .ok (.aload_n 0, 1) := by decide +kernel
theorem dX11_mayMeet_41 : decode cX11_mayMeet 41 = .ok (.getfield 10, 3) := by decide +kernel
theorem dX11_mayMeet_44 : decode cX11_mayMeet 44 = .ok (.iload 5, 2) := by decide +kernel
theorem dX11_mayMeet_46 : decode cX11_mayMeet 46 = .ok (.invokevirtual 77, 3) := by decide +kernel
theorem dX11_mayMeet_49 : decode cX11_mayMeet 49 = .ok (.ifCond .eq 15, 3) := by decide +kernel
theorem dX11_mayMeet_52 : decode cX11_mayMeet 52 = .ok (.aload_n 0, 1) := by decide +kernel
theorem dX11_mayMeet_53 : decode cX11_mayMeet 53 = .ok (.getfield 10, 3) := by decide +kernel
theorem dX11_mayMeet_56 : decode cX11_mayMeet 56 = .ok (.iload 6, 2) := by decide +kernel
theorem dX11_mayMeet_58 : decode cX11_mayMeet 58 = .ok (.invokevirtual 77, 3) := by decide +kernel
theorem dX11_mayMeet_61 : decode cX11_mayMeet 61 = .ok (.ifCond .ne 6, 3) := by decide +kernel
theorem dX11_mayMeet_64 : decode cX11_mayMeet 64 = .ok (.bipush (-2), 2) := by decide +kernel
theorem dX11_mayMeet_66 : decode cX11_mayMeet 66 = .ok (.ireturn, 1) := by decide +kernel
theorem dX11_mayMeet_67 : decode cX11_mayMeet 67 = .ok (.aload_n 0, 1) := by decide +kernel
theorem dX11_mayMeet_68 : decode cX11_mayMeet 68 = .ok (.getfield 38, 3) := by decide +kernel
theorem dX11_mayMeet_71 : decode cX11_mayMeet 71 = .ok (.aload 4, 2) := by decide +kernel
theorem dX11_mayMeet_73 : decode cX11_mayMeet 73 = .ok (.aload_n 0, 1) := by decide +kernel
theorem dX11_mayMeet_74 : decode cX11_mayMeet 74 = .ok (.getfield 65, 3) := by decide +kernel
theorem dX11_mayMeet_77 : decode cX11_mayMeet 77 = .ok (.aload_n 0, 1) := by decide +kernel
theorem dX11_mayMeet_78 : decode cX11_mayMeet 78 = .ok (.getfield 10, 3) := by decide +kernel
theorem dX11_mayMeet_81 : decode cX11_mayMeet 81 = .ok (.aload_n 0, 1) := by decide +kernel
theorem dX11_mayMeet_82 : decode cX11_mayMeet 82 = .ok (.getfield 10, 3) := by decide +kernel
theorem dX11_mayMeet_85 : decode cX11_mayMeet 85 = .ok (.getfield 85, 3) := by decide +kernel
theorem dX11_mayMeet_88 : decode cX11_mayMeet 88 = .ok (.invokevirtual 164, 3) := by decide +kernel
theorem dX11_mayMeet_91 : decode cX11_mayMeet 91 = .ok (.aload_n 0, 1) := by decide +kernel
theorem dX11_mayMeet_92 : decode cX11_mayMeet 92 = .ok (.getfield 38, 3) := by decide +kernel
theorem dX11_mayMeet_95 : decode cX11_mayMeet 95 = .ok (.iload_n 2, 1) := by decide +kernel
theorem dX11_mayMeet_96 : decode cX11_mayMeet 96 = .ok (.iload 5, 2) := by decide +kernel
theorem dX11_mayMeet_98 : decode cX11_mayMeet 98 = .ok (.iload 6, 2) := by decide +kernel
theorem dX11_mayMeet_100 : decode cX11_mayMeet 100 = .ok (.invokevirtual 168, 3) := by decide +kernel
theorem dX11_mayMeet_103 : decode cX11_mayMeet 103 = .ok (.ifCond .eq 7, 3) := by decide +kernel
theorem dX11_mayMeet_106 : decode cX11_mayMeet 106 = .ok (.iconst 1, 1) := by decide +kernel
theorem dX11_mayMeet_107 : decode cX11_mayMeet 107 = .ok (.goto 4, 3) := by decide +kernel
theorem dX11_mayMeet_110 : decode cX11_mayMeet 110 = .ok (.iconst 0, 1) := by decide +kernel
theorem dX11_mayMeet_111 : decode cX11_mayMeet 111 = .ok (.ireturn, 1) := by decide +kernel
theorem dX11_between_0 : decode cX11_between 0 = .ok (.aload_n 0, 1) := by decide +kernel
theorem dX11_between_1 : decode cX11_between 1 = .ok (.getfield 10, 3) := by decide +kernel
theorem dX11_between_4 : decode cX11_between 4 = .ok (.iload_n 1, 1) := by decide +kernel
theorem dX11_between_5 : decode cX11_between 5 = .ok (.invokevirtual 77, 3) := by decide +kernel
theorem dX11_between_8 : decode cX11_between 8 = .ok (.ifCond .eq 29, 3) := by decide +kernel
theorem dX11_between_11 : decode cX11_between 11 = .ok (.aload_n 0, 1) := by decide +kernel
theorem dX11_between_12 : decode cX11_between 12 = .ok (.getfield 10, 3) := by decide +kernel
theorem dX11_between_15 : decode cX11_between 15 = .ok (.iload_n 2, 1) := by decide +kernel
theorem dX11_between_16 : decode cX11_between 16 = .ok (.invokevirtual 77, 3) := by decide +kernel
theorem dX11_between_19 : decode cX11_between 19 = .ok (.ifCond .eq 18, 3) := by decide +kernel
theorem dX11_between_22 : decode cX11_between 22 = .ok (.iload_n 1, 1) := by decide +kernel
theorem dX11_between_23 : decode cX11_between 23 = .ok (.iload_n 2, 1) := by decide +kernel
theorem dX11_between_24 : decode cX11_between 24 = .ok (.if_icmp .eq 13, 3) := by decide +kernel
theorem dX11_between_27 : decode cX11_between 27 = .ok (.iload_n 3, 1) := by decide +kernel
theorem dX11_between_28 : decode cX11_between 28 = .ok (.iconst 1, 1) := by decide +kernel
theorem dX11_between_29 : decode cX11_between 29 = .ok (.bipush 9, 2) := by decide +kernel
theorem dX11_between_31 : decode cX11_between 31 = .ok (.invokestatic 81, 3) := by decide +kernel
theorem dX11_between_34 : decode cX11_between 34 = .ok (.ifCond .ne 6, 3) := by decide +kernel
theorem dX11_between_37 : decode cX11_between 37 = .ok (.bipush (-2), 2) := by decide +kernel
theorem dX11_between_39 : decode cX11_between 39 = .ok (.ireturn, 1) := by decide +kernel
theorem dX11_between_40 : decode cX11_between 40 = .ok (.iload_n 3, 1) := by decide +kernel
theorem dX11_between_41 : decode cX11_between 41 = .ok (.aload_n 0, 1) := by decide +kernel
theorem dX11_between_42 : decode cX11_between 42 = .ok (.getfield 10, 3) := by decide +kernel
theorem dX11_between_45 : decode cX11_between 45 = .ok (.iload_n 1, 1) := by decide +kernel
theorem dX11_between_46 : decode cX11_between 46 = .ok (.invokevirtual 134, 3) := by decide +kernel
theorem dX11_between_49 : decode cX11_between 49 = .ok (.imul, 1) := by decide +kernel
theorem dX11_between_50 : decode cX11_between 50 = .ok (.aload_n 0, 1) := by decide +kernel
theorem dX11_between_51 : decode cX11_between 51 = .ok (.getfield 10, 3) := by decide +kernel
theorem dX11_between_54 : decode cX11_between 54 = .ok (.iload_n 2, 1) := by decide +kernel
theorem dX11_between_55 : decode cX11_between 55 = .ok (.invokevirtual 134, 3) := by decide +kernel
theorem dX11_between_58 : decode cX11_between 58 = .ok (.iadd, 1) := by decide +kernel
theorem dX11_between_59 : decode cX11_between 59 = .ok (.iload_n 3, 1) := by decide +kernel
theorem dX11_between_60 : decode cX11_between 60 = .ok (.iconst 1, 1) := by decide +kernel
theorem dX11_between_61 : decode cX11_between 61 = .ok (.iadd, 1) := by decide +kernel
theorem dX11_between_62 : decode cX11_between 62 = .ok (.idiv, 1) := by decide +kernel
theorem dX11_between_63 : decode cX11_between 63 = .ok (.ireturn, 1) := by decide +kernel
theorem dX11_range_0 : decode cX11_range 0 = .ok (.iload_n 1, 1) := by decide +kernel
theorem dX11_range_1 : decode cX11_range 1 = .ok (.iconst 0, 1) := by decide +kernel
theorem dX11_range_2 : decode cX11_range 2 = .ok (.iconst 1, 1) := by decide +kernel
theorem dX11_range_3 : decode cX11_range 3 = .ok (.aload_n 0, 1) := by decide +kernel
theorem dX11_range_4 : decode cX11_range 4 = .ok (.getfield 10, 3) := by decide +kernel
theorem dX11_range_7 : decode cX11_range 7 = .ok (.getfield 171, 3) := by decide +kernel
theorem dX11_range_10 : decode cX11_range 10 = .ok (.ishl, 1) := by decide +kernel
theorem dX11_range_11 : decode cX11_range 11 = .ok (.iconst 1, 1) := by decide +kernel
theorem dX11_range_12 : decode cX11_range 12 = .ok (.isub, 1) := by decide +kernel
theorem dX11_range_13 : decode cX11_range 13 = .ok (.invokestatic 81, 3) := by decide +kernel
theorem dX11_range_16 : decode cX11_range 16 = .ok (.ifCond .ne 6, 3) := by decide +kernel
theorem dX11_range_19 : decode cX11_range 19 = .ok (.bipush (-2), 2) := by decide +kernel
theorem dX11_range_21 : decode cX11_range 21 = .ok (.ireturn, 1) := by decide +kernel
theorem dX11_range_22 : decode cX11_range 22 = .ok (.iconst (-1), 1) := by decide +kernel
theorem dX11_range_23 : decode cX11_range 23 = .ok (.istore_n 2, 1) := by decide +kernel
theorem dX11_range_24 : decode cX11_range 24 = .ok (.iconst 0, 1) := by decide +kernel
theorem dX11_range_25 : decode cX11_range 25 = .ok (.istore_n 3, 1) := by decide +kernel
theorem dX11_range_26 : decode cX11_range 26 = .ok (.iload_n 3, 1) := by decide +kernel
theorem dX11_range_27 : decode cX11_range 27 = .ok (.aload_n 0, 1) := by decide +kernel
theorem dX11_range_28 : decode cX11_range 28 = .ok (.getfield 10, 3) := by decide +kernel
theorem dX11_range_31 : decode cX11_range 31 = .ok (.getfield 171, 3) := by decide +kernel
theorem dX11_range_34 : decode cX11_range 34 = .ok (.if_icmp .ge 75, 3) := by decide +kernel
theorem dX11_range_37 : decode cX11_range 37 = .ok (.iload_n 3, 1) := by decide +kernel
theorem dX11_range_38 : decode cX11_range 38 = .ok (.iconst 1, 1) := by decide +kernel
theorem dX11_range_39 : decode cX11_range 39 = .ok (.iadd, 1) := by decide +kernel
theorem dX11_range_40 : decode cX11_range 40 = .ok (.istore 4, 2) := by decide +kernel
theorem dX11_range_42 : decode cX11_range 42 = .ok (.iload 4, 2) := by decide +kernel
theorem dX11_range_44 : decode cX11_range 44 = .ok (.aload_n 0, 1) := by decide +kernel
theorem dX11_range_45 : decode cX11_range 45 = .ok (.getfield 10, 3) := by decide +kernel
theorem dX11_range_48 : decode cX11_range 48 = .ok (.getfield 171, 3) := by decide +kernel
theorem dX11_range_51 : decode cX11_range 51 = .ok (.if_icmp .ge 52, 3) := by decide +kernel
theorem dX11_range_54 : decode cX11_range 54 = .ok (.iload_n 1, 1) := by decide +kernel
theorem dX11_range_55 : decode cX11_range 55 = .ok (.iload_n 3, 1) := by decide +kernel
theorem dX11_range_56 : decode cX11_range 56 = .ok (.invokestatic 172, 3) := by decide +kernel
theorem dX11_range_59 : decode cX11_range 59 = .ok (.ifCond .eq 38, 3) := by decide +kernel
theorem dX11_range_62 : decode cX11_range 62 = .ok (.iload_n 1, 1) := by decide +kernel
theorem dX11_range_63 : decode cX11_range 63 = .ok (.iload 4, 2) := by decide +kernel
theorem dX11_range_65 : decode cX11_range 65 = .ok (.invokestatic 172, 3) := by decide +kernel
theorem dX11_range_68 : decode cX11_range 68 = .ok (.ifCond .eq 29, 3) := by decide +kernel
theorem dX11_range_71 : decode cX11_range 71 = .ok (.iload_n 2, 1) := by decide +kernel
theorem dX11_range_72 : decode cX11_range 72 = .ok (.aload_n 0, 1) := by decide +kernel
theorem dX11_range_73 : decode cX11_range 73 = .ok (.getfield 65, 3) := by decide +kernel
theorem dX11_range_76 : decode cX11_range 76 = .ok (.aload_n 0, 1) := by decide +kernel
theorem dX11_range_77 : decode cX11_range 77 = .ok (.getfield 10, 3) := by decide +kernel
theorem dX11_range_80 : decode cX11_range 80 = .ok (.aload_n 0, 1) := by decide +kernel
theorem dX11_range_81 : decode cX11_range 81 = .ok (.getfield 10, 3) := by decide +kernel
theorem dX11_range_84 : decode cX11_range 84 = .ok (.getfield 85, 3) := by decide +kernel
theorem dX11_range_87 : decode cX11_range 87 = .ok (.iload_n 3, 1) := by decide +kernel
theorem dX11_range_88 : decode cX11_range 88 = .ok (.iload 4, 2) := by decide +kernel
theorem dX11_range_90 : decode cX11_range 90 = .ok (.invokevirtual 160, 3) := by decide +kernel
theorem dX11_range_93 : decode cX11_range 93 = .ok (.invokestatic 176, 3) := by decide +kernel
theorem dX11_range_96 : decode cX11_range 96 = .ok (.istore_n 2, 1) := by decide +kernel
theorem dX11_range_97 : decode cX11_range 97 = .ok (.iinc 4 1, 3) := by decide +kernel
theorem dX11_range_100 : decode cX11_range 100 = .ok (.goto (-58), 3) := by decide +kernel
theorem dX11_range_103 : decode cX11_range 103 = .ok (.iinc 3 1, 3) := by decide +kernel
theorem dX11_range_106 : decode cX11_range 106 = .ok (.goto (-80), 3) := by decide +kernel
theorem dX11_range_109 : decode cX11_range 109 = .ok (.iload_n 2, 1) := by decide +kernel
theorem dX11_range_110 : decode cX11_range 110 = .ok (.ireturn, 1) := by decide +kernel
theorem dX11_judge_0 : decode cX11_judge 0 = .ok (.aload_n 0, 1) := by decide +kernel
theorem dX11_judge_1 : decode cX11_judge 1 = .ok (.iload_n 1, 1) := by decide +kernel
theorem dX11_judge_2 : decode cX11_judge 2 = .ok (.invokevirtual 98, 3) := by decide +kernel
theorem dX11_judge_5 : decode cX11_judge 5 = .ok (.astore_n 3, 1) := by decide +kernel
theorem dX11_judge_6 : decode cX11_judge 6 = .ok (.aload_n 3, 1) := by decide +kernel
theorem dX11_judge_7 : decode cX11_judge 7 = .ok (.ifnull 14, 3) := by decide +kernel
theorem dX11_judge_10 : decode cX11_judge 10 = .ok (.iload_n 2, 1) := by decide +kernel
theorem dX11_judge_11 : decode cX11_judge 11 = .ok (.iconst 0, 1) := by decide +kernel
theorem dX11_judge_12 : decode cX11_judge 12 = .ok (.sipush 7775, 3) := by decide +kernel
theorem dX11_judge_15 : decode cX11_judge 15 = .ok (.invokestatic 81, 3) := by decide +kernel
theorem dX11_judge_18 : decode cX11_judge 18 = .ok (.ifCond .ne 6, 3) := by decide +kernel
theorem dX11_judge_21 : decode cX11_judge 21 = .ok (.bipush (-2), 2) := by decide +kernel
theorem dX11_judge_23 : decode cX11_judge 23 = .ok (.ireturn, 1) := by decide +kernel
theorem dX11_judge_24 : decode cX11_judge 24 = .ok (.aload_n 0, 1) := by decide +kernel
theorem dX11_judge_25 : decode cX11_judge 25 = .ok (.getfield 38, 3) := by decide +kernel
theorem dX11_judge_28 : decode cX11_judge 28 = .ok (.aload_n 3, 1) := by decide +kernel
theorem dX11_judge_29 : decode cX11_judge 29 = .ok (.aload_n 0, 1) := by decide +kernel
theorem dX11_judge_30 : decode cX11_judge 30 = .ok (.getfield 65, 3) := by decide +kernel
theorem dX11_judge_33 : decode cX11_judge 33 = .ok (.aload_n 0, 1) := by decide +kernel
theorem dX11_judge_34 : decode cX11_judge 34 = .ok (.getfield 10, 3) := by decide +kernel
theorem dX11_judge_37 : decode cX11_judge 37 = .ok (.aload_n 0, 1) := by decide +kernel
theorem dX11_judge_38 : decode cX11_judge 38 = .ok (.getfield 10, 3) := by decide +kernel
theorem dX11_judge_41 : decode cX11_judge 41 = .ok (.getfield 85, 3) := by decide +kernel
theorem dX11_judge_44 : decode cX11_judge 44 = .ok (.invokevirtual 164, 3) := by decide +kernel
theorem dX11_judge_47 : decode cX11_judge 47 = .ok (.aload_n 0, 1) := by decide +kernel
theorem dX11_judge_48 : decode cX11_judge 48 = .ok (.getfield 38, 3) := by decide +kernel
theorem dX11_judge_51 : decode cX11_judge 51 = .ok (.iload_n 2, 1) := by decide +kernel
theorem dX11_judge_52 : decode cX11_judge 52 = .ok (.invokevirtual 182, 3) := by decide +kernel
theorem dX11_judge_55 : decode cX11_judge 55 = .ok (.ireturn, 1) := by decide +kernel
theorem dX11_can_0 : decode cX11_can 0 = .ok (.aload_n 0, 1) := by decide +kernel
theorem dX11_can_1 : decode cX11_can 1 = .ok (.iload_n 1, 1) := by decide +kernel
theorem dX11_can_2 : decode cX11_can 2 = .ok (.invokevirtual 98, 3) := by decide +kernel
theorem dX11_can_5 : decode cX11_can 5 = .ok (.astore_n 3, 1) := by decide +kernel
theorem dX11_can_6 : decode cX11_can 6 = .ok (.aload_n 3, 1) := by decide +kernel
theorem dX11_can_7 : decode cX11_can 7 = .ok (.ifnull 12, 3) := by decide +kernel
theorem dX11_can_10 : decode cX11_can 10 = .ok (.iload_n 2, 1) := by decide +kernel
theorem dX11_can_11 : decode cX11_can 11 = .ok (.iconst 0, 1) := by decide +kernel
theorem dX11_can_12 : decode cX11_can 12 = .ok (.iconst 2, 1) := by decide +kernel
theorem dX11_can_13 : decode cX11_can 13 = .ok (.invokestatic 81, 3) := by decide +kernel
theorem dX11_can_16 : decode cX11_can 16 = .ok (.ifCond .ne 6, 3) := by decide +kernel
theorem dX11_can_19 : decode cX11_can 19 = .ok (.bipush (-2), 2) := by decide +kernel
theorem dX11_can_21 : decode cX11_can 21 = .ok (.ireturn, 1) := by decide +kernel
theorem dX11_can_22 : decode cX11_can 22 = .ok (.aload_n 0, 1) := by decide +kernel
theorem dX11_can_23 : decode cX11_can 23 = .ok (.getfield 38, 3) := by decide +kernel
theorem dX11_can_26 : decode cX11_can 26 = .ok (.aload_n 3, 1) := by decide +kernel
theorem dX11_can_27 : decode cX11_can 27 = .ok (.aload_n 0, 1) := by decide +kernel
theorem dX11_can_28 : decode cX11_can 28 = .ok (.getfield 65, 3) := by decide +kernel
theorem dX11_can_31 : decode cX11_can 31 = .ok (.aload_n 0, 1) := by decide +kernel
theorem dX11_can_32 : decode cX11_can 32 = .ok (.getfield 10, 3) := by decide +kernel
theorem dX11_can_35 : decode cX11_can 35 = .ok (.aload_n 0, 1) := by decide +kernel
theorem dX11_can_36 : decode cX11_can 36 = .ok (.getfield 10, 3) := by decide +kernel
theorem dX11_can_39 : decode cX11_can 39 = .ok (.getfield 85, 3) := by decide +kernel
theorem dX11_can_42 : decode cX11_can 42 = .ok (.invokevirtual 164, 3) := by decide +kernel
theorem dX11_can_45 : decode cX11_can 45 = .ok (.aload_n 0, 1) := by decide +kernel
theorem dX11_can_46 : decode cX11_can 46 = .ok (.getfield 38, 3) := by decide +kernel
theorem dX11_can_49 : decode cX11_can 49 = .ok (.iconst 1, 1) := by decide +kernel
theorem dX11_can_50 : decode cX11_can 50 = .ok (.invokevirtual 185, 3) := by decide +kernel
theorem dX11_can_53 : decode cX11_can 53 = .ok (.iload_n 2, 1) := by decide +kernel
theorem dX11_can_54 : decode cX11_can 54 = .ok (.lookupswitch 42 #[(0, 26), (1, 34)], 26) := by decide +kernel
theorem dX11_can_80 : decode cX11_can 80 = .ok (.aload_n 0, 1) := by decide +kernel
theorem dX11_can_81 : decode cX11_can 81 = .ok (.getfield 38, 3) := by decide +kernel
theorem dX11_can_84 : decode cX11_can 84 = .ok (.getfield 189, 3) := by decide +kernel
theorem dX11_can_87 : decode cX11_can 87 = .ok (.ireturn, 1) := by decide +kernel
theorem dX11_can_88 : decode cX11_can 88 = .ok (.aload_n 0, 1) := by decide +kernel
theorem dX11_can_89 : decode cX11_can 89 = .ok (.getfield 38, 3) := by decide +kernel
theorem dX11_can_92 : decode cX11_can 92 = .ok (.getfield 192, 3) := by decide +kernel
theorem dX11_can_95 : decode cX11_can 95 = .ok (.ireturn, 1) := by decide +kernel
theorem dX11_can_96 : decode cX11_can 96 = .ok (.aload_n 0, 1) := by decide +kernel
theorem dX11_can_97 : decode cX11_can 97 = .ok (.getfield 38, 3) := by decide +kernel
theorem dX11_can_100 : decode cX11_can 100 = .ok (.getfield 195, 3) := by decide +kernel
theorem dX11_can_103 : decode cX11_can 103 = .ok (.ireturn, 1) := by decide +kernel
theorem dX11_knit_0 : decode cX11_knit 0 = .ok (.aload_n 0, 1) := by decide +kernel
theorem dX11_knit_1 : decode cX11_knit 1 = .ok (.iload_n 1, 1) := by decide +kernel
theorem dX11_knit_2 : decode cX11_knit 2 = .ok (.invokevirtual 98, 3) := by decide +kernel
theorem dX11_knit_5 : decode cX11_knit 5 = .ok (.astore 4, 2) := by decide +kernel
theorem dX11_knit_7 : decode cX11_knit 7 = .ok (.aload 4, 2) := by decide +kernel
theorem dX11_knit_9 : decode cX11_knit 9 = .ok (.ifnull 27, 3) := by decide +kernel
theorem dX11_knit_12 : decode cX11_knit 12 = .ok (.iload_n 2, 1) := by decide +kernel
theorem dX11_knit_13 : decode cX11_knit 13 = .ok (.iconst 0, 1) := by decide +kernel
theorem dX11_knit_14 : decode cX11_knit 14 = .ok (.sipush 7775, 3) := by decide +kernel
theorem dX11_knit_17 : decode cX11_knit 17 = .ok (.invokestatic 81, 3) := by decide +kernel
theorem dX11_knit_20 : decode cX11_knit 20 = .ok (.ifCond .eq 16, 3) := by decide +kernel
theorem dX11_knit_23 : decode cX11_knit 23 = .ok (.iload_n 3, 1) := by decide +kernel
theorem dX11_knit_24 : decode cX11_knit 24 = .ok (.aload_n 0, 1) := by decide +kernel
theorem dX11_knit_25 : decode cX11_knit 25 = .ok (.invokevirtual 198, 3) := by decide +kernel
theorem dX11_knit_28 : decode cX11_knit 28 = .ok (.bipush 99, 2) := by decide +kernel
theorem dX11_knit_30 : decode cX11_knit 30 = .ok (.invokestatic 81, 3) := by decide +kernel
theorem dX11_knit_33 : decode cX11_knit 33 = .ok (.ifCond .ne 6, 3) := by decide +kernel
theorem dX11_knit_36 : decode cX11_knit 36 = .ok (.bipush (-2), 2) := by decide +kernel
theorem dX11_knit_38 : decode cX11_knit 38 = .ok (.ireturn, 1) := by decide +kernel
theorem dX11_knit_39 : decode cX11_knit 39 = .ok (.aload 4, 2) := by decide +kernel
theorem dX11_knit_41 : decode cX11_knit 41 = .ok (.getfield 130, 3) := by decide +kernel
theorem dX11_knit_44 : decode cX11_knit 44 = .ok (.ifCond .eq 6, 3) := by decide +kernel
theorem dX11_knit_47 : decode cX11_knit 47 = .ok (.bipush (-3), 2) := by decide +kernel
theorem dX11_knit_49 : decode cX11_knit 49 = .ok (.ireturn, 1) := by decide +kernel
theorem dX11_knit_50 : decode cX11_knit 50 = .ok (.aload_n 0, 1) := by decide +kernel
theorem dX11_knit_51 : decode cX11_knit 51 = .ok (.getfield 38, 3) := by decide +kernel
theorem dX11_knit_54 : decode cX11_knit 54 = .ok (.aload 4, 2) := by decide +kernel
theorem dX11_knit_56 : decode cX11_knit 56 = .ok (.aload_n 0, 1) := by decide +kernel
theorem dX11_knit_57 : decode cX11_knit 57 = .ok (.getfield 65, 3) := by decide +kernel
theorem dX11_knit_60 : decode cX11_knit 60 = .ok (.aload_n 0, 1) := by decide +kernel
theorem dX11_knit_61 : decode cX11_knit 61 = .ok (.getfield 10, 3) := by decide +kernel
theorem dX11_knit_64 : decode cX11_knit 64 = .ok (.aload_n 0, 1) := by decide +kernel
theorem dX11_knit_65 : decode cX11_knit 65 = .ok (.getfield 10, 3) := by decide +kernel
theorem dX11_knit_68 : decode cX11_knit 68 = .ok (.getfield 85, 3) := by decide +kernel
theorem dX11_knit_71 : decode cX11_knit 71 = .ok (.invokevirtual 164, 3) := by decide +kernel
theorem dX11_knit_74 : decode cX11_knit 74 = .ok (.aload_n 0, 1) := by decide +kernel
theorem dX11_knit_75 : decode cX11_knit 75 = .ok (.getfield 38, 3) := by decide +kernel
theorem dX11_knit_78 : decode cX11_knit 78 = .ok (.iload_n 2, 1) := by decide +kernel
theorem dX11_knit_79 : decode cX11_knit 79 = .ok (.invokevirtual 182, 3) := by decide +kernel
theorem dX11_knit_82 : decode cX11_knit 82 = .ok (.istore 5, 2) := by decide +kernel
theorem dX11_knit_84 : decode cX11_knit 84 = .ok (.iload 5, 2) := by decide +kernel
theorem dX11_knit_86 : decode cX11_knit 86 = .ok (.iconst (-1), 1) := by decide +kernel
theorem dX11_knit_87 : decode cX11_knit 87 = .ok (.if_icmp .ne 25, 3) := by decide +kernel
theorem dX11_knit_90 : decode cX11_knit 90 = .ok (.aload_n 0, 1) := by decide +kernel
theorem dX11_knit_91 : decode cX11_knit 91 = .ok (.getfield 38, 3) := by decide +kernel
theorem dX11_knit_94 : decode cX11_knit 94 = .ok (.iload_n 2, 1) := by decide +kernel
theorem dX11_knit_95 : decode cX11_knit 95 = .ok (.aload_n 0, 1) := by decide +kernel
theorem dX11_knit_96 : decode cX11_knit 96 = .ok (.getfield 10, 3) := by decide +kernel
theorem dX11_knit_99 : decode cX11_knit 99 = .ok (.getfield 85, 3) := by decide +kernel
theorem dX11_knit_102 : decode cX11_knit 102 = .ok (.invokevirtual 201, 3) := by decide +kernel
theorem dX11_knit_105 : decode cX11_knit 105 = .ok (.aload 4, 2) := by decide +kernel
theorem dX11_knit_107 : decode cX11_knit 107 = .ok (.iload_n 2, 1) := by decide +kernel
theorem dX11_knit_108 : decode cX11_knit 108 = .ok (.iload_n 3, 1) := by decide +kernel
theorem dX11_knit_109 : decode cX11_knit 109 = .ok (.invokevirtual 205, 3) := by decide +kernel
theorem dX11_knit_112 : decode cX11_knit 112 = .ok (.iload 5, 2) := by decide +kernel
theorem dX11_knit_114 : decode cX11_knit 114 = .ok (.ireturn, 1) := by decide +kernel
theorem dX11_undo_0 : decode cX11_undo 0 = .ok (.aload_n 0, 1) := by decide +kernel
theorem dX11_undo_1 : decode cX11_undo 1 = .ok (.iload_n 1, 1) := by decide +kernel
theorem dX11_undo_2 : decode cX11_undo 2 = .ok (.invokevirtual 98, 3) := by decide +kernel
theorem dX11_undo_5 : decode cX11_undo 5 = .ok (.astore_n 2, 1) := by decide +kernel
theorem dX11_undo_6 : decode cX11_undo 6 = .ok (.aload_n 2, 1) := by decide +kernel
theorem dX11_undo_7 : decode cX11_undo 7 = .ok (.ifnonnull 6, 3) := by decide +kernel
theorem dX11_undo_10 : decode cX11_undo 10 = .ok (.bipush (-2), 2) := by decide +kernel
theorem dX11_undo_12 : decode cX11_undo 12 = .ok (.ireturn, 1) := by decide +kernel
theorem dX11_undo_13 : decode cX11_undo 13 = .ok (.aload_n 2, 1) := by decide +kernel
theorem dX11_undo_14 : decode cX11_undo 14 = .ok (.getfield 130, 3) := by decide +kernel
theorem dX11_undo_17 : decode cX11_undo 17 = .ok (.ifCond .ne 6, 3) := by decide +kernel
theorem dX11_undo_20 : decode cX11_undo 20 = .ok (.bipush (-3), 2) := by decide +kernel
theorem dX11_undo_22 : decode cX11_undo 22 = .ok (.ireturn, 1) := by decide +kernel
theorem dX11_undo_23 : decode cX11_undo 23 = .ok (.iconst 0, 1) := by decide +kernel
theorem dX11_undo_24 : decode cX11_undo 24 = .ok (.istore_n 3, 1) := by decide +kernel
theorem dX11_undo_25 : decode cX11_undo 25 = .ok (.iconst 0, 1) := by decide +kernel
theorem dX11_undo_26 : decode cX11_undo 26 = .ok (.istore 4, 2) := by decide +kernel
theorem dX11_undo_28 : decode cX11_undo 28 = .ok (.iload 4, 2) := by decide +kernel
theorem dX11_undo_30 : decode cX11_undo 30 = .ok (.iconst 5, 1) := by decide +kernel
theorem dX11_undo_31 : decode cX11_undo 31 = .ok (.if_icmp .ge 50, 3) := by decide +kernel
theorem dX11_undo_34 : decode cX11_undo 34 = .ok (.aload_n 2, 1) := by decide +kernel
theorem dX11_undo_35 : decode cX11_undo 35 = .ok (.iload 4, 2) := by decide +kernel
theorem dX11_undo_37 : decode cX11_undo 37 = .ok (.invokevirtual 102, 3) := by decide +kernel
theorem dX11_undo_40 : decode cX11_undo 40 = .ok (.iconst 1, 1) := by decide +kernel
theorem dX11_undo_41 : decode cX11_undo 41 = .ok (.isub, 1) := by decide +kernel
theorem dX11_undo_42 : decode cX11_undo 42 = .ok (.iconst 0, 1) := by decide +kernel
theorem dX11_undo_43 : decode cX11_undo 43 = .ok (.invokestatic 176, 3) := by decide +kernel
theorem dX11_undo_46 : decode cX11_undo 46 = .ok (.istore 5, 2) := by decide +kernel
theorem dX11_undo_48 : decode cX11_undo 48 = .ok (.aload_n 0, 1) := by decide +kernel
theorem dX11_undo_49 : decode cX11_undo 49 = .ok (.getfield 10, 3) := by decide +kernel
theorem dX11_undo_52 : decode cX11_undo 52 = .ok (.getfield 85, 3) := by decide +kernel
theorem dX11_undo_55 : decode cX11_undo 55 = .ok (.aload_n 2, 1) := by decide +kernel
theorem dX11_undo_56 : decode cX11_undo 56 = .ok (.getfield 209, 3) := by decide +kernel
theorem dX11_undo_59 : decode cX11_undo 59 = .ok (.iload 4, 2) := by decide +kernel
theorem dX11_undo_61 : decode cX11_undo 61 = .ok (.invokestatic 212, 3) := by decide +kernel
theorem dX11_undo_64 : decode cX11_undo 64 = .ok (.dup2, 1) := by decide +kernel
theorem dX11_undo_65 : decode cX11_undo 65 = .ok (.iaload, 1) := by decide +kernel
theorem dX11_undo_66 : decode cX11_undo 66 = .ok (.iload 5, 2) := by decide +kernel
theorem dX11_undo_68 : decode cX11_undo 68 = .ok (.iadd, 1) := by decide +kernel
theorem dX11_undo_69 : decode cX11_undo 69 = .ok (.iastore, 1) := by decide +kernel
theorem dX11_undo_70 : decode cX11_undo 70 = .ok (.iload_n 3, 1) := by decide +kernel
theorem dX11_undo_71 : decode cX11_undo 71 = .ok (.iload 5, 2) := by decide +kernel
theorem dX11_undo_73 : decode cX11_undo 73 = .ok (.iadd, 1) := by decide +kernel
theorem dX11_undo_74 : decode cX11_undo 74 = .ok (.istore_n 3, 1) := by decide +kernel
theorem dX11_undo_75 : decode cX11_undo 75 = .ok (.iinc 4 1, 3) := by decide +kernel
theorem dX11_undo_78 : decode cX11_undo 78 = .ok (.goto (-50), 3) := by decide +kernel
theorem dX11_undo_81 : decode cX11_undo 81 = .ok (.aload_n 2, 1) := by decide +kernel
theorem dX11_undo_82 : decode cX11_undo 82 = .ok (.iconst 0, 1) := by decide +kernel
theorem dX11_undo_83 : decode cX11_undo 83 = .ok (.putfield 130, 3) := by decide +kernel
theorem dX11_undo_86 : decode cX11_undo 86 = .ok (.iload_n 3, 1) := by decide +kernel
theorem dX11_undo_87 : decode cX11_undo 87 = .ok (.ireturn, 1) := by decide +kernel
theorem dX11_most_0 : decode cX11_most 0 = .ok (.iload_n 1, 1) := by decide +kernel
theorem dX11_most_1 : decode cX11_most 1 = .ok (.iconst 0, 1) := by decide +kernel
theorem dX11_most_2 : decode cX11_most 2 = .ok (.iconst 2, 1) := by decide +kernel
theorem dX11_most_3 : decode cX11_most 3 = .ok (.invokestatic 81, 3) := by decide +kernel
theorem dX11_most_6 : decode cX11_most 6 = .ok (.ifCond .ne 6, 3) := by decide +kernel
theorem dX11_most_9 : decode cX11_most 9 = .ok (.bipush (-2), 2) := by decide +kernel
theorem dX11_most_11 : decode cX11_most 11 = .ok (.ireturn, 1) := by decide +kernel
theorem dX11_most_12 : decode cX11_most 12 = .ok (.iload_n 1, 1) := by decide +kernel
theorem dX11_most_13 : decode cX11_most 13 = .ok (.iconst 2, 1) := by decide +kernel
theorem dX11_most_14 : decode cX11_most 14 = .ok (.if_icmp .ne 22, 3) := by decide +kernel
theorem dX11_most_17 : decode cX11_most 17 = .ok (.aload_n 0, 1) := by decide +kernel
theorem dX11_most_18 : decode cX11_most 18 = .ok (.getfield 45, 3) := by decide +kernel
theorem dX11_most_21 : decode cX11_most 21 = .ok (.aload_n 0, 1) := by decide +kernel
theorem dX11_most_22 : decode cX11_most 22 = .ok (.getfield 18, 3) := by decide +kernel
theorem dX11_most_25 : decode cX11_most 25 = .ok (.aload_n 0, 1) := by decide +kernel
theorem dX11_most_26 : decode cX11_most 26 = .ok (.getfield 10, 3) := by decide +kernel
theorem dX11_most_29 : decode cX11_most 29 = .ok (.invokevirtual 215, 3) := by decide +kernel
theorem dX11_most_32 : decode cX11_most 32 = .ok (.invokevirtual 218, 3) := by decide +kernel
theorem dX11_most_35 : decode cX11_most 35 = .ok (.ireturn, 1) := by decide +kernel
theorem dX11_most_36 : decode cX11_most 36 = .ok (.aload_n 0, 1) := by decide +kernel
theorem dX11_most_37 : decode cX11_most 37 = .ok (.getfield 45, 3) := by decide +kernel
theorem dX11_most_40 : decode cX11_most 40 = .ok (.aload_n 0, 1) := by decide +kernel
theorem dX11_most_41 : decode cX11_most 41 = .ok (.getfield 18, 3) := by decide +kernel
theorem dX11_most_44 : decode cX11_most 44 = .ok (.aload_n 0, 1) := by decide +kernel
theorem dX11_most_45 : decode cX11_most 45 = .ok (.getfield 65, 3) := by decide +kernel
theorem dX11_most_48 : decode cX11_most 48 = .ok (.aload_n 0, 1) := by decide +kernel
theorem dX11_most_49 : decode cX11_most 49 = .ok (.getfield 10, 3) := by decide +kernel
theorem dX11_most_52 : decode cX11_most 52 = .ok (.iconst (-1), 1) := by decide +kernel
theorem dX11_most_53 : decode cX11_most 53 = .ok (.iconst 0, 1) := by decide +kernel
theorem dX11_most_54 : decode cX11_most 54 = .ok (.invokevirtual 222, 3) := by decide +kernel
theorem dX11_most_57 : decode cX11_most 57 = .ok (.iload_n 1, 1) := by decide +kernel
theorem dX11_most_58 : decode cX11_most 58 = .ok (.ifCond .ne 13, 3) := by decide +kernel
theorem dX11_most_61 : decode cX11_most 61 = .ok (.aload_n 0, 1) := by decide +kernel
theorem dX11_most_62 : decode cX11_most 62 = .ok (.getfield 45, 3) := by decide +kernel
theorem dX11_most_65 : decode cX11_most 65 = .ok (.getfield 226, 3) := by decide +kernel
theorem dX11_most_68 : decode cX11_most 68 = .ok (.goto 10, 3) := by decide +kernel
theorem dX11_most_71 : decode cX11_most 71 = .ok (.aload_n 0, 1) := by decide +kernel
theorem dX11_most_72 : decode cX11_most 72 = .ok (.getfield 45, 3) := by decide +kernel
theorem dX11_most_75 : decode cX11_most 75 = .ok (.getfield 229, 3) := by decide +kernel
theorem dX11_most_78 : decode cX11_most 78 = .ok (.ireturn, 1) := by decide +kernel
theorem dX11_more_0 : decode cX11_more 0 = .ok (.iload_n 1, 1) := by decide +kernel
theorem dX11_more_1 : decode cX11_more 1 = .ok (.iconst 1, 1) := by decide +kernel
theorem dX11_more_2 : decode cX11_more 2 = .ok (.bipush 50, 2) := by decide +kernel
theorem dX11_more_4 : decode cX11_more 4 = .ok (.invokestatic 81, 3) := by decide +kernel
theorem dX11_more_7 : decode cX11_more 7 = .ok (.ifCond .ne 6, 3) := by decide +kernel
theorem dX11_more_10 : decode cX11_more 10 = .ok (.bipush (-2), 2) := by decide +kernel
theorem dX11_more_12 : decode cX11_more 12 = .ok (.ireturn, 1) := by decide +kernel
theorem dX11_more_13 : decode cX11_more 13 = .ok (.aload_n 0, 1) := by decide +kernel
theorem dX11_more_14 : decode cX11_more 14 = .ok (.getfield 45, 3) := by decide +kernel
theorem dX11_more_17 : decode cX11_more 17 = .ok (.aload_n 0, 1) := by decide +kernel
theorem dX11_more_18 : decode cX11_more 18 = .ok (.getfield 18, 3) := by decide +kernel
theorem dX11_more_21 : decode cX11_more 21 = .ok (.aload_n 0, 1) := by decide +kernel
theorem dX11_more_22 : decode cX11_more 22 = .ok (.getfield 65, 3) := by decide +kernel
theorem dX11_more_25 : decode cX11_more 25 = .ok (.aload_n 0, 1) := by decide +kernel
theorem dX11_more_26 : decode cX11_more 26 = .ok (.getfield 10, 3) := by decide +kernel
theorem dX11_more_29 : decode cX11_more 29 = .ok (.iconst (-1), 1) := by decide +kernel
theorem dX11_more_30 : decode cX11_more 30 = .ok (.iconst 0, 1) := by decide +kernel
theorem dX11_more_31 : decode cX11_more 31 = .ok (.invokevirtual 222, 3) := by decide +kernel
theorem dX11_more_34 : decode cX11_more 34 = .ok (.aload_n 0, 1) := by decide +kernel
theorem dX11_more_35 : decode cX11_more 35 = .ok (.getfield 45, 3) := by decide +kernel
theorem dX11_more_38 : decode cX11_more 38 = .ok (.getfield 226, 3) := by decide +kernel
theorem dX11_more_41 : decode cX11_more 41 = .ok (.istore_n 2, 1) := by decide +kernel
theorem dX11_more_42 : decode cX11_more 42 = .ok (.iconst (-1), 1) := by decide +kernel
theorem dX11_more_43 : decode cX11_more 43 = .ok (.istore_n 3, 1) := by decide +kernel
theorem dX11_more_44 : decode cX11_more 44 = .ok (.iconst 0, 1) := by decide +kernel
theorem dX11_more_45 : decode cX11_more 45 = .ok (.istore 4, 2) := by decide +kernel
theorem dX11_more_47 : decode cX11_more 47 = .ok (.iload 4, 2) := by decide +kernel
theorem dX11_more_49 : decode cX11_more 49 = .ok (.aload_n 0, 1) := by decide +kernel
theorem dX11_more_50 : decode cX11_more 50 = .ok (.getfield 10, 3) := by decide +kernel
theorem dX11_more_53 : decode cX11_more 53 = .ok (.getfield 171, 3) := by decide +kernel
theorem dX11_more_56 : decode cX11_more 56 = .ok (.if_icmp .ge 53, 3) := by decide +kernel
theorem dX11_more_59 : decode cX11_more 59 = .ok (.aload_n 0, 1) := by decide +kernel
theorem dX11_more_60 : decode cX11_more 60 = .ok (.getfield 45, 3) := by decide +kernel
theorem dX11_more_63 : decode cX11_more 63 = .ok (.aload_n 0, 1) := by decide +kernel
theorem dX11_more_64 : decode cX11_more 64 = .ok (.getfield 18, 3) := by decide +kernel
theorem dX11_more_67 : decode cX11_more 67 = .ok (.aload_n 0, 1) := by decide +kernel
theorem dX11_more_68 : decode cX11_more 68 = .ok (.getfield 65, 3) := by decide +kernel
theorem dX11_more_71 : decode cX11_more 71 = .ok (.aload_n 0, 1) := by decide +kernel
theorem dX11_more_72 : decode cX11_more 72 = .ok (.getfield 10, 3) := by decide +kernel
theorem dX11_more_75 : decode cX11_more 75 = .ok (.iload 4, 2) := by decide +kernel
theorem dX11_more_77 : decode cX11_more 77 = .ok (.iload_n 1, 1) := by decide +kernel
theorem dX11_more_78 : decode cX11_more 78 = .ok (.invokevirtual 222, 3) := by decide +kernel
theorem dX11_more_81 : decode cX11_more 81 = .ok (.aload_n 0, 1) := by decide +kernel
theorem dX11_more_82 : decode cX11_more 82 = .ok (.getfield 45, 3) := by decide +kernel
theorem dX11_more_85 : decode cX11_more 85 = .ok (.getfield 226, 3) := by decide +kernel
theorem dX11_more_88 : decode cX11_more 88 = .ok (.iload_n 2, 1) := by decide +kernel
theorem dX11_more_89 : decode cX11_more 89 = .ok (.if_icmp .le 14, 3) := by decide +kernel
theorem dX11_more_92 : decode cX11_more 92 = .ok (.aload_n 0, 1) := by decide +kernel
theorem dX11_more_93 : decode cX11_more 93 = .ok (.getfield 45, 3) := by decide +kernel
theorem dX11_more_96 : decode cX11_more 96 = .ok (.getfield 226, 3) := by decide +kernel
theorem dX11_more_99 : decode cX11_more 99 = .ok (.istore_n 2, 1) := by decide +kernel
theorem dX11_more_100 : decode cX11_more 100 = .ok (.iload 4, 2) := by decide +kernel
theorem dX11_more_102 : decode cX11_more 102 = .ok (.istore_n 3, 1) := by decide +kernel
theorem dX11_more_103 : decode cX11_more 103 = .ok (.iinc 4 1, 3) := by decide +kernel
theorem dX11_more_106 : decode cX11_more 106 = .ok (.goto (-59), 3) := by decide +kernel
theorem dX11_more_109 : decode cX11_more 109 = .ok (.iload_n 3, 1) := by decide +kernel
theorem dX11_more_110 : decode cX11_more 110 = .ok (.ireturn, 1) := by decide +kernel
theorem dX11_late_0 : decode cX11_late 0 = .ok (.iload_n 1, 1) := by decide +kernel
theorem dX11_late_1 : decode cX11_late 1 = .ok (.iconst 0, 1) := by decide +kernel
theorem dX11_late_2 : decode cX11_late 2 = .ok (.bipush 99, 2) := by decide +kernel
theorem dX11_late_4 : decode cX11_late 4 = .ok (.invokestatic 81, 3) := by decide +kernel
theorem dX11_late_7 : decode cX11_late 7 = .ok (.ifCond .ne 6, 3) := by decide +kernel
theorem dX11_late_10 : decode cX11_late 10 = .ok (.bipush (-2), 2) := by decide +kernel
theorem dX11_late_12 : decode cX11_late 12 = .ok (.ireturn, 1) := by decide +kernel
theorem dX11_late_13 : decode cX11_late 13 = .ok (.iconst 0, 1) := by decide +kernel
theorem dX11_late_14 : decode cX11_late 14 = .ok (.istore_n 2, 1) := by decide +kernel
theorem dX11_late_15 : decode cX11_late 15 = .ok (.aload_n 0, 1) := by decide +kernel
theorem dX11_late_16 : decode cX11_late 16 = .ok (.getfield 18, 3) := by decide +kernel
theorem dX11_late_19 : decode cX11_late 19 = .ok (.astore_n 3, 1) := by decide +kernel
theorem dX11_late_20 : decode cX11_late 20 = .ok (.aload_n 3, 1) := by decide +kernel
theorem dX11_late_21 : decode cX11_late 21 = .ok (.arraylength, 1) := by decide +kernel
theorem dX11_late_22 : decode cX11_late 22 = .ok (.istore 4, 2) := by decide +kernel
theorem dX11_late_24 : decode cX11_late 24 = .ok (.iconst 0, 1) := by decide +kernel
theorem dX11_late_25 : decode cX11_late 25 = .ok (.istore 5, 2) := by decide +kernel
theorem dX11_late_27 : decode cX11_late 27 = .ok (.iload 5, 2) := by decide +kernel
theorem dX11_late_29 : decode cX11_late 29 = .ok (.iload 4, 2) := by decide +kernel
theorem dX11_late_31 : decode cX11_late 31 = .ok (.if_icmp .ge 39, 3) := by decide +kernel
theorem dX11_late_34 : decode cX11_late 34 = .ok (.aload_n 3, 1) := by decide +kernel
theorem dX11_late_35 : decode cX11_late 35 = .ok (.iload 5, 2) := by decide +kernel
theorem dX11_late_37 : decode cX11_late 37 = .ok (.aaload, 1) := by decide +kernel
theorem dX11_late_38 : decode cX11_late 38 = .ok (.astore 6, 2) := by decide +kernel
theorem dX11_late_40 : decode cX11_late 40 = .ok (.aload 6, 2) := by decide +kernel
theorem dX11_late_42 : decode cX11_late 42 = .ok (.instanceof 232, 3) := by decide +kernel
theorem dX11_late_45 : decode cX11_late 45 = .ok (.ifCond .eq 19, 3) := by decide +kernel
theorem dX11_late_48 : decode cX11_late 48 = .ok (.aload 6, 2) := by decide +kernel
theorem dX11_late_50 : decode cX11_late 50 = .ok (.checkcast 232, 3) := by decide +kernel
theorem dX11_late_53 : decode cX11_late 53 = .ok (.astore 7, 2) := by decide +kernel
theorem dX11_late_55 : decode cX11_late 55 = .ok (.iload_n 2, 1) := by decide +kernel
theorem dX11_late_56 : decode cX11_late 56 = .ok (.aload 7, 2) := by decide +kernel
theorem dX11_late_58 : decode cX11_late 58 = .ok (.iload_n 1, 1) := by decide +kernel
theorem dX11_late_59 : decode cX11_late 59 = .ok (.invokevirtual 234, 3) := by decide +kernel
theorem dX11_late_62 : decode cX11_late 62 = .ok (.iadd, 1) := by decide +kernel
theorem dX11_late_63 : decode cX11_late 63 = .ok (.istore_n 2, 1) := by decide +kernel
theorem dX11_late_64 : decode cX11_late 64 = .ok (.iinc 5 1, 3) := by decide +kernel
theorem dX11_late_67 : decode cX11_late 67 = .ok (.goto (-40), 3) := by decide +kernel
theorem dX11_late_70 : decode cX11_late 70 = .ok (.iload_n 2, 1) := by decide +kernel
theorem dX11_late_71 : decode cX11_late 71 = .ok (.ireturn, 1) := by decide +kernel
theorem dX11_image_0 : decode cX11_image 0 = .ok (.aload_n 0, 1) := by decide +kernel
theorem dX11_image_1 : decode cX11_image 1 = .ok (.iconst 1, 1) := by decide +kernel
theorem dX11_image_2 : decode cX11_image 2 = .ok (.putfield 237, 3) := by decide +kernel
theorem dX11_image_5 : decode cX11_image 5 = .ok (.aload_n 0, 1) := by decide +kernel
theorem dX11_image_6 : decode cX11_image 6 = .ok (.aload_n 0, 1) := by decide +kernel
theorem dX11_image_7 : decode cX11_image 7 = .ok (.getfield 91, 3) := by decide +kernel
theorem dX11_image_10 : decode cX11_image 10 = .ok (.putfield 240, 3) := by decide +kernel
theorem dX11_image_13 : decode cX11_image 13 = .ok (.aload_n 0, 1) := by decide +kernel
theorem dX11_image_14 : decode cX11_image 14 = .ok (.aload_n 0, 1) := by decide +kernel
theorem dX11_image_15 : decode cX11_image 15 = .ok (.getfield 153, 3) := by decide +kernel
theorem dX11_image_18 : decode cX11_image 18 = .ok (.putfield 243, 3) := by decide +kernel
theorem dX11_image_21 : decode cX11_image 21 = .ok (.aload_n 0, 1) := by decide +kernel
theorem dX11_image_22 : decode cX11_image 22 = .ok (.getfield 10, 3) := by decide +kernel
theorem dX11_image_25 : decode cX11_image 25 = .ok (.invokevirtual 246, 3) := by decide +kernel
theorem dX11_image_28 : decode cX11_image 28 = .ok (.aload_n 0, 1) := by decide +kernel
theorem dX11_image_29 : decode cX11_image 29 = .ok (.getfield 18, 3) := by decide +kernel
theorem dX11_image_32 : decode cX11_image 32 = .ok (.astore_n 1, 1) := by decide +kernel
theorem dX11_image_33 : decode cX11_image 33 = .ok (.aload_n 1, 1) := by decide +kernel
theorem dX11_image_34 : decode cX11_image 34 = .ok (.arraylength, 1) := by decide +kernel
theorem dX11_image_35 : decode cX11_image 35 = .ok (.istore_n 2, 1) := by decide +kernel
theorem dX11_image_36 : decode cX11_image 36 = .ok (.iconst 0, 1) := by decide +kernel
theorem dX11_image_37 : decode cX11_image 37 = .ok (.istore_n 3, 1) := by decide +kernel
theorem dX11_image_38 : decode cX11_image 38 = .ok (.iload_n 3, 1) := by decide +kernel
theorem dX11_image_39 : decode cX11_image 39 = .ok (.iload_n 2, 1) := by decide +kernel
theorem dX11_image_40 : decode cX11_image 40 = .ok (.if_icmp .ge 24, 3) := by decide +kernel
theorem dX11_image_43 : decode cX11_image 43 = .ok (.aload_n 1, 1) := by decide +kernel
theorem dX11_image_44 : decode cX11_image 44 = .ok (.iload_n 3, 1) := by decide +kernel
theorem dX11_image_45 : decode cX11_image 45 = .ok (.aaload, 1) := by decide +kernel
theorem dX11_image_46 : decode cX11_image 46 = .ok (.astore 4, 2) := by decide +kernel
theorem dX11_image_48 : decode cX11_image 48 = .ok (.aload 4, 2) := by decide +kernel
theorem dX11_image_50 : decode cX11_image 50 = .ok (.ifnull 8, 3) := by decide +kernel
theorem dX11_image_53 : decode cX11_image 53 = .ok (.aload 4, 2) := by decide +kernel
theorem dX11_image_55 : decode cX11_image 55 = .ok (.invokevirtual 249, 3) := by decide +kernel
theorem dX11_image_58 : decode cX11_image 58 = .ok (.iinc 3 1, 3) := by decide +kernel
theorem dX11_image_61 : decode cX11_image 61 = .ok (.goto (-23), 3) := by decide +kernel
theorem dX11_image_64 : decode cX11_image 64 = .ok (.aload_n 0, 1) := by decide +kernel
theorem dX11_image_65 : decode cX11_image 65 = .ok (.invokevirtual 250, 3) := by decide +kernel
theorem dX11_image_68 : decode cX11_image 68 = .ok (.ireturn, 1) := by decide +kernel
theorem dX11_back_0 : decode cX11_back 0 = .ok (.aload_n 0, 1) := by decide +kernel
theorem dX11_back_1 : decode cX11_back 1 = .ok (.getfield 237, 3) := by decide +kernel
theorem dX11_back_4 : decode cX11_back 4 = .ok (.ifCond .ne 6, 3) := by decide +kernel
theorem dX11_back_7 : decode cX11_back 7 = .ok (.bipush (-3), 2) := by decide +kernel
theorem dX11_back_9 : decode cX11_back 9 = .ok (.ireturn, 1) := by decide +kernel
theorem dX11_back_10 : decode cX11_back 10 = .ok (.aload_n 0, 1) := by decide +kernel
theorem dX11_back_11 : decode cX11_back 11 = .ok (.aload_n 0, 1) := by decide +kernel
theorem dX11_back_12 : decode cX11_back 12 = .ok (.getfield 243, 3) := by decide +kernel
theorem dX11_back_15 : decode cX11_back 15 = .ok (.invokevirtual 156, 3) := by decide +kernel
theorem dX11_back_18 : decode cX11_back 18 = .ok (.aload_n 0, 1) := by decide +kernel
theorem dX11_back_19 : decode cX11_back 19 = .ok (.getfield 10, 3) := by decide +kernel
theorem dX11_back_22 : decode cX11_back 22 = .ok (.invokevirtual 253, 3) := by decide +kernel
theorem dX11_back_25 : decode cX11_back 25 = .ok (.iconst 0, 1) := by decide +kernel
theorem dX11_back_26 : decode cX11_back 26 = .ok (.istore_n 1, 1) := by decide +kernel
theorem dX11_back_27 : decode cX11_back 27 = .ok (.iload_n 1, 1) := by decide +kernel
theorem dX11_back_28 : decode cX11_back 28 = .ok (.aload_n 0, 1) := by decide +kernel
theorem dX11_back_29 : decode cX11_back 29 = .ok (.getfield 240, 3) := by decide +kernel
theorem dX11_back_32 : decode cX11_back 32 = .ok (.if_icmp .ge 23, 3) := by decide +kernel
theorem dX11_back_35 : decode cX11_back 35 = .ok (.aload_n 0, 1) := by decide +kernel
theorem dX11_back_36 : decode cX11_back 36 = .ok (.iload_n 1, 1) := by decide +kernel
theorem dX11_back_37 : decode cX11_back 37 = .ok (.invokevirtual 98, 3) := by decide +kernel
theorem dX11_back_40 : decode cX11_back 40 = .ok (.astore_n 2, 1) := by decide +kernel
theorem dX11_back_41 : decode cX11_back 41 = .ok (.aload_n 2, 1) := by decide +kernel
theorem dX11_back_42 : decode cX11_back 42 = .ok (.ifnull 7, 3) := by decide +kernel
theorem dX11_back_45 : decode cX11_back 45 = .ok (.aload_n 2, 1) := by decide +kernel
theorem dX11_back_46 : decode cX11_back 46 = .ok (.invokevirtual 256, 3) := by decide +kernel
theorem dX11_back_49 : decode cX11_back 49 = .ok (.iinc 1 1, 3) := by decide +kernel
theorem dX11_back_52 : decode cX11_back 52 = .ok (.goto (-25), 3) := by decide +kernel
theorem dX11_back_55 : decode cX11_back 55 = .ok (.aload_n 0, 1) := by decide +kernel
theorem dX11_back_56 : decode cX11_back 56 = .ok (.invokevirtual 250, 3) := by decide +kernel
theorem dX11_back_59 : decode cX11_back 59 = .ok (.ireturn, 1) := by decide +kernel
theorem dX11_count_0 : decode cX11_count 0 = .ok (.iload_n 1, 1) := by decide +kernel
theorem dX11_count_1 : decode cX11_count 1 = .ok (.tableswitch 108 0 8 #[51, 59, 64, 69, 74, 82, 87, 95, 100], 51) := by decide +kernel
theorem dX11_count_52 : decode cX11_count 52 = .ok (.aload_n 0, 1) := by decide +kernel
theorem dX11_count_53 : decode cX11_count 53 = .ok (.getfield 10, 3) := by decide +kernel
theorem dX11_count_56 : decode cX11_count 56 = .ok (.getfield 171, 3) := by decide +kernel
theorem dX11_count_59 : decode cX11_count 59 = .ok (.ireturn, 1) := by decide +kernel
theorem dX11_count_60 : decode cX11_count 60 = .ok (.aload_n 0, 1) := by decide +kernel
theorem dX11_count_61 : decode cX11_count 61 = .ok (.getfield 91, 3) := by decide +kernel
theorem dX11_count_64 : decode cX11_count 64 = .ok (.ireturn, 1) := by decide +kernel
theorem dX11_count_65 : decode cX11_count 65 = .ok (.aload_n 0, 1) := by decide +kernel
theorem dX11_count_66 : decode cX11_count 66 = .ok (.invokevirtual 250, 3) := by decide +kernel
theorem dX11_count_69 : decode cX11_count 69 = .ok (.ireturn, 1) := by decide +kernel
theorem dX11_count_70 : decode cX11_count 70 = .ok (.aload_n 0, 1) := by decide +kernel
theorem dX11_count_71 : decode cX11_count 71 = .ok (.getfield 69, 3) := by decide +kernel
theorem dX11_count_74 : decode cX11_count 74 = .ok (.ireturn, 1) := by decide +kernel
theorem dX11_count_75 : decode cX11_count 75 = .ok (.aload_n 0, 1) := by decide +kernel
theorem dX11_count_76 : decode cX11_count 76 = .ok (.getfield 25, 3) := by decide +kernel
theorem dX11_count_79 : decode cX11_count 79 = .ok (.getfield 140, 3) := by decide +kernel
theorem dX11_count_82 : decode cX11_count 82 = .ok (.ireturn, 1) := by decide +kernel
theorem dX11_count_83 : decode cX11_count 83 = .ok (.aload_n 0, 1) := by decide +kernel
theorem dX11_count_84 : decode cX11_count 84 = .ok (.getfield 153, 3) := by decide +kernel
theorem dX11_count_87 : decode cX11_count 87 = .ok (.ireturn, 1) := by decide +kernel
theorem dX11_count_88 : decode cX11_count 88 = .ok (.aload_n 0, 1) := by decide +kernel
theorem dX11_count_89 : decode cX11_count 89 = .ok (.getfield 10, 3) := by decide +kernel
theorem dX11_count_92 : decode cX11_count 92 = .ok (.invokevirtual 215, 3) := by decide +kernel
theorem dX11_count_95 : decode cX11_count 95 = .ok (.ireturn, 1) := by decide +kernel
theorem dX11_count_96 : decode cX11_count 96 = .ok (.aload_n 0, 1) := by decide +kernel
theorem dX11_count_97 : decode cX11_count 97 = .ok (.invokevirtual 257, 3) := by decide +kernel
theorem dX11_count_100 : decode cX11_count 100 = .ok (.ireturn, 1) := by decide +kernel
theorem dX11_count_101 : decode cX11_count 101 = .ok (.aload_n 0, 1) := by decide +kernel
theorem dX11_count_102 : decode cX11_count 102 = .ok (.getfield 10, 3) := by decide +kernel
theorem dX11_count_105 : decode cX11_count 105 = .ok (.invokevirtual 260, 3) := by decide +kernel
theorem dX11_count_108 : decode cX11_count 108 = .ok (.ireturn, 1) := by decide +kernel
theorem dX11_count_109 : decode cX11_count 109 = .ok (.bipush (-2), 2) := by decide +kernel
theorem dX11_count_111 : decode cX11_count 111 = .ok (.ireturn, 1) := by decide +kernel
theorem dX11_sheet_0 : decode cX11_sheet 0 = .ok (.iload_n 1, 1) := by decide +kernel
theorem dX11_sheet_1 : decode cX11_sheet 1 = .ok (.invokestatic 263, 3) := by decide +kernel
theorem dX11_sheet_4 : decode cX11_sheet 4 = .ok (.ifCond .eq 12, 3) := by decide +kernel
theorem dX11_sheet_7 : decode cX11_sheet 7 = .ok (.iload_n 2, 1) := by decide +kernel
theorem dX11_sheet_8 : decode cX11_sheet 8 = .ok (.iconst (-1), 1) := by decide +kernel
theorem dX11_sheet_9 : decode cX11_sheet 9 = .ok (.iconst 2, 1) := by decide +kernel
theorem dX11_sheet_10 : decode cX11_sheet 10 = .ok (.invokestatic 81, 3) := by decide +kernel
theorem dX11_sheet_13 : decode cX11_sheet 13 = .ok (.ifCond .ne 6, 3) := by decide +kernel
theorem dX11_sheet_16 : decode cX11_sheet 16 = .ok (.bipush (-2), 2) := by decide +kernel
theorem dX11_sheet_18 : decode cX11_sheet 18 = .ok (.ireturn, 1) := by decide +kernel
theorem dX11_sheet_19 : decode cX11_sheet 19 = .ok (.iload_n 2, 1) := by decide +kernel
theorem dX11_sheet_20 : decode cX11_sheet 20 = .ok (.iconst (-1), 1) := by decide +kernel
theorem dX11_sheet_21 : decode cX11_sheet 21 = .ok (.if_icmp .ne 12, 3) := by decide +kernel
theorem dX11_sheet_24 : decode cX11_sheet 24 = .ok (.aload_n 0, 1) := by decide +kernel
theorem dX11_sheet_25 : decode cX11_sheet 25 = .ok (.getfield 54, 3) := by decide +kernel
theorem dX11_sheet_28 : decode cX11_sheet 28 = .ok (.iload_n 1, 1) := by decide +kernel
theorem dX11_sheet_29 : decode cX11_sheet 29 = .ok (.iconst (-1), 1) := by decide +kernel
theorem dX11_sheet_30 : decode cX11_sheet 30 = .ok (.iastore, 1) := by decide +kernel
theorem dX11_sheet_31 : decode cX11_sheet 31 = .ok (.iconst 1, 1) := by decide +kernel
theorem dX11_sheet_32 : decode cX11_sheet 32 = .ok (.ireturn, 1) := by decide +kernel
theorem dX11_sheet_33 : decode cX11_sheet 33 = .ok (.iload_n 3, 1) := by decide +kernel
theorem dX11_sheet_34 : decode cX11_sheet 34 = .ok (.bipush 40, 2) := by decide +kernel
theorem dX11_sheet_36 : decode cX11_sheet 36 = .ok (.if_icmp .le 6, 3) := by decide +kernel
theorem dX11_sheet_39 : decode cX11_sheet 39 = .ok (.bipush (-2), 2) := by decide +kernel
theorem dX11_sheet_41 : decode cX11_sheet 41 = .ok (.ireturn, 1) := by decide +kernel
theorem dX11_sheet_42 : decode cX11_sheet 42 = .ok (.iload_n 3, 1) := by decide +kernel
theorem dX11_sheet_43 : decode cX11_sheet 43 = .ok (.ifCond .ge 6, 3) := by decide +kernel
theorem dX11_sheet_46 : decode cX11_sheet 46 = .ok (.bipush (-14), 2) := by decide +kernel
theorem dX11_sheet_48 : decode cX11_sheet 48 = .ok (.ireturn, 1) := by decide +kernel
theorem dX11_sheet_49 : decode cX11_sheet 49 = .ok (.aload_n 0, 1) := by decide +kernel
theorem dX11_sheet_50 : decode cX11_sheet 50 = .ok (.getfield 54, 3) := by decide +kernel
theorem dX11_sheet_53 : decode cX11_sheet 53 = .ok (.iload_n 1, 1) := by decide +kernel
theorem dX11_sheet_54 : decode cX11_sheet 54 = .ok (.iload_n 2, 1) := by decide +kernel
theorem dX11_sheet_55 : decode cX11_sheet 55 = .ok (.iastore, 1) := by decide +kernel
theorem dX11_sheet_56 : decode cX11_sheet 56 = .ok (.aload_n 0, 1) := by decide +kernel
theorem dX11_sheet_57 : decode cX11_sheet 57 = .ok (.getfield 58, 3) := by decide +kernel
theorem dX11_sheet_60 : decode cX11_sheet 60 = .ok (.iload_n 1, 1) := by decide +kernel
theorem dX11_sheet_61 : decode cX11_sheet 61 = .ok (.iload_n 3, 1) := by decide +kernel
theorem dX11_sheet_62 : decode cX11_sheet 62 = .ok (.iastore, 1) := by decide +kernel
theorem dX11_sheet_63 : decode cX11_sheet 63 = .ok (.aload_n 0, 1) := by decide +kernel
theorem dX11_sheet_64 : decode cX11_sheet 64 = .ok (.getfield 51, 3) := by decide +kernel
theorem dX11_sheet_67 : decode cX11_sheet 67 = .ok (.iload_n 1, 1) := by decide +kernel
theorem dX11_sheet_68 : decode cX11_sheet 68 = .ok (.aaload, 1) := by decide +kernel
theorem dX11_sheet_69 : decode cX11_sheet 69 = .ok (.iconst 0, 1) := by decide +kernel
theorem dX11_sheet_70 : decode cX11_sheet 70 = .ok (.invokestatic 266, 3) := by decide +kernel
theorem dX11_sheet_73 : decode cX11_sheet 73 = .ok (.iconst 1, 1) := by decide +kernel
theorem dX11_sheet_74 : decode cX11_sheet 74 = .ok (.ireturn, 1) := by decide +kernel
theorem dX11_cell_0 : decode cX11_cell 0 = .ok (.iload_n 1, 1) := by decide +kernel
theorem dX11_cell_1 : decode cX11_cell 1 = .ok (.invokestatic 263, 3) := by decide +kernel
theorem dX11_cell_4 : decode cX11_cell 4 = .ok (.ifCond .ne 6, 3) := by decide +kernel
theorem dX11_cell_7 : decode cX11_cell 7 = .ok (.bipush (-2), 2) := by decide +kernel
theorem dX11_cell_9 : decode cX11_cell 9 = .ok (.ireturn, 1) := by decide +kernel
theorem dX11_cell_10 : decode cX11_cell 10 = .ok (.aload_n 0, 1) := by decide +kernel
theorem dX11_cell_11 : decode cX11_cell 11 = .ok (.getfield 54, 3) := by decide +kernel
theorem dX11_cell_14 : decode cX11_cell 14 = .ok (.iload_n 1, 1) := by decide +kernel
theorem dX11_cell_15 : decode cX11_cell 15 = .ok (.iaload, 1) := by decide +kernel
theorem dX11_cell_16 : decode cX11_cell 16 = .ok (.iconst (-1), 1) := by decide +kernel
theorem dX11_cell_17 : decode cX11_cell 17 = .ok (.if_icmp .ne 6, 3) := by decide +kernel
theorem dX11_cell_20 : decode cX11_cell 20 = .ok (.bipush (-11), 2) := by decide +kernel
theorem dX11_cell_22 : decode cX11_cell 22 = .ok (.ireturn, 1) := by decide +kernel
theorem dX11_cell_23 : decode cX11_cell 23 = .ok (.iload_n 2, 1) := by decide +kernel
theorem dX11_cell_24 : decode cX11_cell 24 = .ok (.iconst 0, 1) := by decide +kernel
theorem dX11_cell_25 : decode cX11_cell 25 = .ok (.aload_n 0, 1) := by decide +kernel
theorem dX11_cell_26 : decode cX11_cell 26 = .ok (.getfield 58, 3) := by decide +kernel
theorem dX11_cell_29 : decode cX11_cell 29 = .ok (.iload_n 1, 1) := by decide +kernel
theorem dX11_cell_30 : decode cX11_cell 30 = .ok (.iaload, 1) := by decide +kernel
theorem dX11_cell_31 : decode cX11_cell 31 = .ok (.iconst 1, 1) := by decide +kernel
theorem dX11_cell_32 : decode cX11_cell 32 = .ok (.isub, 1) := by decide +kernel
theorem dX11_cell_33 : decode cX11_cell 33 = .ok (.invokestatic 81, 3) := by decide +kernel
theorem dX11_cell_36 : decode cX11_cell 36 = .ok (.ifCond .ne 6, 3) := by decide +kernel
theorem dX11_cell_39 : decode cX11_cell 39 = .ok (.bipush (-12), 2) := by decide +kernel
theorem dX11_cell_41 : decode cX11_cell 41 = .ok (.ireturn, 1) := by decide +kernel
theorem dX11_cell_42 : decode cX11_cell 42 = .ok (.aload_n 0, 1) := by decide +kernel
theorem dX11_cell_43 : decode cX11_cell 43 = .ok (.getfield 51, 3) := by decide +kernel
theorem dX11_cell_46 : decode cX11_cell 46 = .ok (.iload_n 1, 1) := by decide +kernel
theorem dX11_cell_47 : decode cX11_cell 47 = .ok (.aaload, 1) := by decide +kernel
theorem dX11_cell_48 : decode cX11_cell 48 = .ok (.iload_n 2, 1) := by decide +kernel
theorem dX11_cell_49 : decode cX11_cell 49 = .ok (.aload_n 0, 1) := by decide +kernel
theorem dX11_cell_50 : decode cX11_cell 50 = .ok (.getfield 54, 3) := by decide +kernel
theorem dX11_cell_53 : decode cX11_cell 53 = .ok (.iload_n 1, 1) := by decide +kernel
theorem dX11_cell_54 : decode cX11_cell 54 = .ok (.iaload, 1) := by decide +kernel
theorem dX11_cell_55 : decode cX11_cell 55 = .ok (.iload_n 3, 1) := by decide +kernel
theorem dX11_cell_56 : decode cX11_cell 56 = .ok (.invokestatic 272, 3) := by decide +kernel
theorem dX11_cell_59 : decode cX11_cell 59 = .ok (.iastore, 1) := by decide +kernel
theorem dX11_cell_60 : decode cX11_cell 60 = .ok (.iconst 1, 1) := by decide +kernel
theorem dX11_cell_61 : decode cX11_cell 61 = .ok (.ireturn, 1) := by decide +kernel
theorem dX11_copy_0 : decode cX11_copy 0 = .ok (.iload_n 1, 1) := by decide +kernel
theorem dX11_copy_1 : decode cX11_copy 1 = .ok (.invokestatic 263, 3) := by decide +kernel
theorem dX11_copy_4 : decode cX11_copy 4 = .ok (.ifCond .eq 10, 3) := by decide +kernel
theorem dX11_copy_7 : decode cX11_copy 7 = .ok (.iload_n 3, 1) := by decide +kernel
theorem dX11_copy_8 : decode cX11_copy 8 = .ok (.invokestatic 263, 3) := by decide +kernel
theorem dX11_copy_11 : decode cX11_copy 11 = .ok (.ifCond .ne 6, 3) := by decide +kernel
theorem dX11_copy_14 : decode cX11_copy 14 = .ok (.bipush (-2), 2) := by decide +kernel
theorem dX11_copy_16 : decode cX11_copy 16 = .ok (.ireturn, 1) := by decide +kernel
theorem dX11_copy_17 : decode cX11_copy 17 = .ok (.aload_n 0, 1) := by decide +kernel
theorem dX11_copy_18 : decode cX11_copy 18 = .ok (.getfield 54, 3) := by decide +kernel
theorem dX11_copy_21 : decode cX11_copy 21 = .ok (.iload_n 1, 1) := by decide +kernel
theorem dX11_copy_22 : decode cX11_copy 22 = .ok (.iaload, 1) := by decide +kernel
theorem dX11_copy_23 : decode cX11_copy 23 = .ok (.iconst (-1), 1) := by decide +kernel
theorem dX11_copy_24 : decode cX11_copy 24 = .ok (.if_icmp .eq 13, 3) := by decide +kernel
theorem dX11_copy_27 : decode cX11_copy 27 = .ok (.aload_n 0, 1) := by decide +kernel
theorem dX11_copy_28 : decode cX11_copy 28 = .ok (.getfield 54, 3) := by decide +kernel
theorem dX11_copy_31 : decode cX11_copy 31 = .ok (.iload_n 3, 1) := by decide +kernel
theorem dX11_copy_32 : decode cX11_copy 32 = .ok (.iaload, 1) := by decide +kernel
theorem dX11_copy_33 : decode cX11_copy 33 = .ok (.iconst (-1), 1) := by decide +kernel
theorem dX11_copy_34 : decode cX11_copy 34 = .ok (.if_icmp .ne 6, 3) := by decide +kernel
theorem dX11_copy_37 : decode cX11_copy 37 = .ok (.bipush (-11), 2) := by decide +kernel
theorem dX11_copy_39 : decode cX11_copy 39 = .ok (.ireturn, 1) := by decide +kernel
theorem dX11_copy_40 : decode cX11_copy 40 = .ok (.aload_n 0, 1) := by decide +kernel
theorem dX11_copy_41 : decode cX11_copy 41 = .ok (.getfield 54, 3) := by decide +kernel
theorem dX11_copy_44 : decode cX11_copy 44 = .ok (.iload_n 1, 1) := by decide +kernel
theorem dX11_copy_45 : decode cX11_copy 45 = .ok (.iaload, 1) := by decide +kernel
theorem dX11_copy_46 : decode cX11_copy 46 = .ok (.aload_n 0, 1) := by decide +kernel
theorem dX11_copy_47 : decode cX11_copy 47 = .ok (.getfield 54, 3) := by decide +kernel
theorem dX11_copy_50 : decode cX11_copy 50 = .ok (.iload_n 3, 1) := by decide +kernel
theorem dX11_copy_51 : decode cX11_copy 51 = .ok (.iaload, 1) := by decide +kernel
theorem dX11_copy_52 : decode cX11_copy 52 = .ok (.if_icmp .eq 6, 3) := by decide +kernel
theorem dX11_copy_55 : decode cX11_copy 55 = .ok (.bipush (-13), 2) := by decide +kernel
theorem dX11_copy_57 : decode cX11_copy 57 = .ok (.ireturn, 1) := by decide +kernel
theorem dX11_copy_58 : decode cX11_copy 58 = .ok (.aload_n 0, 1) := by decide +kernel
theorem dX11_copy_59 : decode cX11_copy 59 = .ok (.iload_n 1, 1) := by decide +kernel
theorem dX11_copy_60 : decode cX11_copy 60 = .ok (.iload_n 2, 1) := by decide +kernel
theorem dX11_copy_61 : decode cX11_copy 61 = .ok (.iload 5, 2) := by decide +kernel
theorem dX11_copy_63 : decode cX11_copy 63 = .ok (.invokevirtual 275, 3) := by decide +kernel
theorem dX11_copy_66 : decode cX11_copy 66 = .ok (.ifCond .eq 15, 3) := by decide +kernel
theorem dX11_copy_69 : decode cX11_copy 69 = .ok (.aload_n 0, 1) := by decide +kernel
theorem dX11_copy_70 : decode cX11_copy 70 = .ok (.iload_n 3, 1) := by decide +kernel
theorem dX11_copy_71 : decode cX11_copy 71 = .ok (.iload 4, 2) := by decide +kernel
theorem dX11_copy_73 : decode cX11_copy 73 = .ok (.iload 5, 2) := by decide +kernel
theorem dX11_copy_75 : decode cX11_copy 75 = .ok (.invokevirtual 275, 3) := by decide +kernel
theorem dX11_copy_78 : decode cX11_copy 78 = .ok (.ifCond .ne 6, 3) := by decide +kernel
theorem dX11_copy_81 : decode cX11_copy 81 = .ok (.bipush (-12), 2) := by decide +kernel
theorem dX11_copy_83 : decode cX11_copy 83 = .ok (.ireturn, 1) := by decide +kernel
theorem dX11_copy_84 : decode cX11_copy 84 = .ok (.aload_n 0, 1) := by decide +kernel
theorem dX11_copy_85 : decode cX11_copy 85 = .ok (.getfield 51, 3) := by decide +kernel
theorem dX11_copy_88 : decode cX11_copy 88 = .ok (.iload_n 1, 1) := by decide +kernel
theorem dX11_copy_89 : decode cX11_copy 89 = .ok (.aaload, 1) := by decide +kernel
theorem dX11_copy_90 : decode cX11_copy 90 = .ok (.iload_n 2, 1) := by decide +kernel
theorem dX11_copy_91 : decode cX11_copy 91 = .ok (.aload_n 0, 1) := by decide +kernel
theorem dX11_copy_92 : decode cX11_copy 92 = .ok (.getfield 51, 3) := by decide +kernel
theorem dX11_copy_95 : decode cX11_copy 95 = .ok (.iload_n 3, 1) := by decide +kernel
theorem dX11_copy_96 : decode cX11_copy 96 = .ok (.aaload, 1) := by decide +kernel
theorem dX11_copy_97 : decode cX11_copy 97 = .ok (.iload 4, 2) := by decide +kernel
theorem dX11_copy_99 : decode cX11_copy 99 = .ok (.iload 5, 2) := by decide +kernel
theorem dX11_copy_101 : decode cX11_copy 101 = .ok (.invokestatic 278, 3) := by decide +kernel
theorem dX11_copy_104 : decode cX11_copy 104 = .ok (.iload 5, 2) := by decide +kernel
theorem dX11_copy_106 : decode cX11_copy 106 = .ok (.ireturn, 1) := by decide +kernel
theorem dX11_hanks_0 : decode cX11_hanks 0 = .ok (.iload_n 1, 1) := by decide +kernel
theorem dX11_hanks_1 : decode cX11_hanks 1 = .ok (.invokestatic 263, 3) := by decide +kernel
theorem dX11_hanks_4 : decode cX11_hanks 4 = .ok (.ifCond .eq 23, 3) := by decide +kernel
theorem dX11_hanks_7 : decode cX11_hanks 7 = .ok (.iload_n 2, 1) := by decide +kernel
theorem dX11_hanks_8 : decode cX11_hanks 8 = .ok (.iconst 0, 1) := by decide +kernel
theorem dX11_hanks_9 : decode cX11_hanks 9 = .ok (.iconst 2, 1) := by decide +kernel
theorem dX11_hanks_10 : decode cX11_hanks 10 = .ok (.invokestatic 81, 3) := by decide +kernel
theorem dX11_hanks_13 : decode cX11_hanks 13 = .ok (.ifCond .eq 14, 3) := by decide +kernel
theorem dX11_hanks_16 : decode cX11_hanks 16 = .ok (.iload 4, 2) := by decide +kernel
theorem dX11_hanks_18 : decode cX11_hanks 18 = .ok (.iconst 0, 1) := by decide +kernel
theorem dX11_hanks_19 : decode cX11_hanks 19 = .ok (.bipush 12, 2) := by decide +kernel
theorem dX11_hanks_21 : decode cX11_hanks 21 = .ok (.invokestatic 81, 3) := by decide +kernel
theorem dX11_hanks_24 : decode cX11_hanks 24 = .ok (.ifCond .ne 6, 3) := by decide +kernel
theorem dX11_hanks_27 : decode cX11_hanks 27 = .ok (.bipush (-2), 2) := by decide +kernel
theorem dX11_hanks_29 : decode cX11_hanks 29 = .ok (.ireturn, 1) := by decide +kernel
theorem dX11_hanks_30 : decode cX11_hanks 30 = .ok (.aload_n 0, 1) := by decide +kernel
theorem dX11_hanks_31 : decode cX11_hanks 31 = .ok (.getfield 54, 3) := by decide +kernel
theorem dX11_hanks_34 : decode cX11_hanks 34 = .ok (.iload_n 1, 1) := by decide +kernel
theorem dX11_hanks_35 : decode cX11_hanks 35 = .ok (.iaload, 1) := by decide +kernel
theorem dX11_hanks_36 : decode cX11_hanks 36 = .ok (.iconst (-1), 1) := by decide +kernel
theorem dX11_hanks_37 : decode cX11_hanks 37 = .ok (.if_icmp .ne 6, 3) := by decide +kernel
theorem dX11_hanks_40 : decode cX11_hanks 40 = .ok (.bipush (-11), 2) := by decide +kernel
theorem dX11_hanks_42 : decode cX11_hanks 42 = .ok (.ireturn, 1) := by decide +kernel
theorem dX11_hanks_43 : decode cX11_hanks 43 = .ok (.aload_n 0, 1) := by decide +kernel
theorem dX11_hanks_44 : decode cX11_hanks 44 = .ok (.getfield 54, 3) := by decide +kernel
theorem dX11_hanks_47 : decode cX11_hanks 47 = .ok (.iload_n 1, 1) := by decide +kernel
theorem dX11_hanks_48 : decode cX11_hanks 48 = .ok (.iaload, 1) := by decide +kernel
theorem dX11_hanks_49 : decode cX11_hanks 49 = .ok (.iload_n 2, 1) := by decide +kernel
theorem dX11_hanks_50 : decode cX11_hanks 50 = .ok (.if_icmp .eq 6, 3) := by decide +kernel
theorem dX11_hanks_53 : decode cX11_hanks 53 = .ok (.bipush (-13), 2) := by decide +kernel
theorem dX11_hanks_55 : decode cX11_hanks 55 = .ok (.ireturn, 1) := by decide +kernel
theorem dX11_hanks_56 : decode cX11_hanks 56 = .ok (.iconst 0, 1) := by decide +kernel
theorem dX11_hanks_57 : decode cX11_hanks 57 = .ok (.istore 5, 2) := by decide +kernel
theorem dX11_hanks_59 : decode cX11_hanks 59 = .ok (.iconst 0, 1) := by decide +kernel
theorem dX11_hanks_60 : decode cX11_hanks 60 = .ok (.istore 6, 2) := by decide +kernel
theorem dX11_hanks_62 : decode cX11_hanks 62 = .ok (.iload 6, 2) := by decide +kernel
theorem dX11_hanks_64 : decode cX11_hanks 64 = .ok (.iload 4, 2) := by decide +kernel
theorem dX11_hanks_66 : decode cX11_hanks 66 = .ok (.if_icmp .ge 71, 3) := by decide +kernel
theorem dX11_hanks_69 : decode cX11_hanks 69 = .ok (.iload_n 3, 1) := by decide +kernel
theorem dX11_hanks_70 : decode cX11_hanks 70 = .ok (.iconst 3, 1) := by decide +kernel
theorem dX11_hanks_71 : decode cX11_hanks 71 = .ok (.iload 6, 2) := by decide +kernel
theorem dX11_hanks_73 : decode cX11_hanks 73 = .ok (.imul, 1) := by decide +kernel
theorem dX11_hanks_74 : decode cX11_hanks 74 = .ok (.iadd, 1) := by decide +kernel
theorem dX11_hanks_75 : decode cX11_hanks 75 = .ok (.istore 7, 2) := by decide +kernel
theorem dX11_hanks_77 : decode cX11_hanks 77 = .ok (.aload_n 0, 1) := by decide +kernel
theorem dX11_hanks_78 : decode cX11_hanks 78 = .ok (.iload_n 1, 1) := by decide +kernel
theorem dX11_hanks_79 : decode cX11_hanks 79 = .ok (.iload 7, 2) := by decide +kernel
theorem dX11_hanks_81 : decode cX11_hanks 81 = .ok (.iconst 3, 1) := by decide +kernel
theorem dX11_hanks_82 : decode cX11_hanks 82 = .ok (.invokevirtual 275, 3) := by decide +kernel
theorem dX11_hanks_85 : decode cX11_hanks 85 = .ok (.ifCond .ne 6, 3) := by decide +kernel
theorem dX11_hanks_88 : decode cX11_hanks 88 = .ok (.bipush (-12), 2) := by decide +kernel
theorem dX11_hanks_90 : decode cX11_hanks 90 = .ok (.ireturn, 1) := by decide +kernel
theorem dX11_hanks_91 : decode cX11_hanks 91 = .ok (.aload_n 0, 1) := by decide +kernel
theorem dX11_hanks_92 : decode cX11_hanks 92 = .ok (.getfield 51, 3) := by decide +kernel
theorem dX11_hanks_95 : decode cX11_hanks 95 = .ok (.iload_n 1, 1) := by decide +kernel
theorem dX11_hanks_96 : decode cX11_hanks 96 = .ok (.aaload, 1) := by decide +kernel
theorem dX11_hanks_97 : decode cX11_hanks 97 = .ok (.astore 8, 2) := by decide +kernel
theorem dX11_hanks_99 : decode cX11_hanks 99 = .ok (.aload_n 0, 1) := by decide +kernel
theorem dX11_hanks_100 : decode cX11_hanks 100 = .ok (.getfield 10, 3) := by decide +kernel
theorem dX11_hanks_103 : decode cX11_hanks 103 = .ok (.aload 8, 2) := by decide +kernel
theorem dX11_hanks_105 : decode cX11_hanks 105 = .ok (.iload 7, 2) := by decide +kernel
theorem dX11_hanks_107 : decode cX11_hanks 107 = .ok (.iaload, 1) := by decide +kernel
theorem dX11_hanks_108 : decode cX11_hanks 108 = .ok (.aload 8, 2) := by decide +kernel
theorem dX11_hanks_110 : decode cX11_hanks 110 = .ok (.iload 7, 2) := by decide +kernel
theorem dX11_hanks_112 : decode cX11_hanks 112 = .ok (.iconst 1, 1) := by decide +kernel
theorem dX11_hanks_113 : decode cX11_hanks 113 = .ok (.iadd, 1) := by decide +kernel
theorem dX11_hanks_114 : decode cX11_hanks 114 = .ok (.iaload, 1) := by decide +kernel
theorem dX11_hanks_115 : decode cX11_hanks 115 = .ok (.aload 8, 2) := by decide +kernel
theorem dX11_hanks_117 : decode cX11_hanks 117 = .ok (.iload 7, 2) := by decide +kernel
theorem dX11_hanks_119 : decode cX11_hanks 119 = .ok (.iconst 2, 1) := by decide +kernel
theorem dX11_hanks_120 : decode cX11_hanks 120 = .ok (.iadd, 1) := by decide +kernel
theorem dX11_hanks_121 : decode cX11_hanks 121 = .ok (.iaload, 1) := by decide +kernel
theorem dX11_hanks_122 : decode cX11_hanks 122 = .ok (.invokevirtual 73, 3) := by decide +kernel
theorem dX11_hanks_125 : decode cX11_hanks 125 = .ok (.ifCond .lt 6, 3) := by decide +kernel
theorem dX11_hanks_128 : decode cX11_hanks 128 = .ok (.iinc 5 1, 3) := by decide +kernel
theorem dX11_hanks_131 : decode cX11_hanks 131 = .ok (.iinc 6 1, 3) := by decide +kernel
theorem dX11_hanks_134 : decode cX11_hanks 134 = .ok (.goto (-72), 3) := by decide +kernel
theorem dX11_hanks_137 : decode cX11_hanks 137 = .ok (.iload 5, 2) := by decide +kernel
theorem dX11_hanks_139 : decode cX11_hanks 139 = .ok (.ireturn, 1) := by decide +kernel
theorem dX11_taken_0 : decode cX11_taken 0 = .ok (.iload_n 2, 1) := by decide +kernel
theorem dX11_taken_1 : decode cX11_taken 1 = .ok (.iconst 0, 1) := by decide +kernel
theorem dX11_taken_2 : decode cX11_taken 2 = .ok (.iconst 5, 1) := by decide +kernel
theorem dX11_taken_3 : decode cX11_taken 3 = .ok (.invokestatic 81, 3) := by decide +kernel
theorem dX11_taken_6 : decode cX11_taken 6 = .ok (.ifCond .ne 6, 3) := by decide +kernel
theorem dX11_taken_9 : decode cX11_taken 9 = .ok (.bipush (-2), 2) := by decide +kernel
theorem dX11_taken_11 : decode cX11_taken 11 = .ok (.ireturn, 1) := by decide +kernel
theorem dX11_taken_12 : decode cX11_taken 12 = .ok (.aload_n 0, 1) := by decide +kernel
theorem dX11_taken_13 : decode cX11_taken 13 = .ok (.iload_n 1, 1) := by decide +kernel
theorem dX11_taken_14 : decode cX11_taken 14 = .ok (.invokevirtual 98, 3) := by decide +kernel
theorem dX11_taken_17 : decode cX11_taken 17 = .ok (.astore_n 3, 1) := by decide +kernel
theorem dX11_taken_18 : decode cX11_taken 18 = .ok (.aload_n 3, 1) := by decide +kernel
theorem dX11_taken_19 : decode cX11_taken 19 = .ok (.ifnonnull 6, 3) := by decide +kernel
theorem dX11_taken_22 : decode cX11_taken 22 = .ok (.bipush (-11), 2) := by decide +kernel
theorem dX11_taken_24 : decode cX11_taken 24 = .ok (.ireturn, 1) := by decide +kernel
theorem dX11_taken_25 : decode cX11_taken 25 = .ok (.aload_n 3, 1) := by decide +kernel
theorem dX11_taken_26 : decode cX11_taken 26 = .ok (.iload_n 2, 1) := by decide +kernel
theorem dX11_taken_27 : decode cX11_taken 27 = .ok (.invokestatic 284, 3) := by decide +kernel
theorem dX11_taken_30 : decode cX11_taken 30 = .ok (.ifCond .eq 10, 3) := by decide +kernel
theorem dX11_taken_33 : decode cX11_taken 33 = .ok (.aload_n 3, 1) := by decide +kernel
theorem dX11_taken_34 : decode cX11_taken 34 = .ok (.getfield 288, 3) := by decide +kernel
theorem dX11_taken_37 : decode cX11_taken 37 = .ok (.goto 5, 3) := by decide +kernel
theorem dX11_taken_40 : decode cX11_taken 40 = .ok (.bipush (-13), 2) := by decide +kernel
theorem dX11_taken_42 : decode cX11_taken 42 = .ok (.ireturn, 1) := by decide +kernel
theorem dX11_isWithin_0 : decode cX11_isWithin 0 = .ok (.iload_n 0, 1) := by decide +kernel
theorem dX11_isWithin_1 : decode cX11_isWithin 1 = .ok (.iload_n 1, 1) := by decide +kernel
theorem dX11_isWithin_2 : decode cX11_isWithin 2 = .ok (.if_icmp .lt 12, 3) := by decide +kernel
theorem dX11_isWithin_5 : decode cX11_isWithin 5 = .ok (.iload_n 0, 1) := by decide +kernel
theorem dX11_isWithin_6 : decode cX11_isWithin 6 = .ok (.iload_n 2, 1) := by decide +kernel
theorem dX11_isWithin_7 : decode cX11_isWithin 7 = .ok (.if_icmp .gt 7, 3) := by decide +kernel
theorem dX11_isWithin_10 : decode cX11_isWithin 10 = .ok (.iconst 1, 1) := by decide +kernel
theorem dX11_isWithin_11 : decode cX11_isWithin 11 = .ok (.goto 4, 3) := by decide +kernel
theorem dX11_isWithin_14 : decode cX11_isWithin 14 = .ok (.iconst 0, 1) := by decide +kernel
theorem dX11_isWithin_15 : decode cX11_isWithin 15 = .ok (.ireturn, 1) := by decide +kernel
theorem dX11_hasBit_0 : decode cX11_hasBit 0 = .ok (.iload_n 0, 1) := by decide +kernel
theorem dX11_hasBit_1 : decode cX11_hasBit 1 = .ok (.iload_n 1, 1) := by decide +kernel
theorem dX11_hasBit_2 : decode cX11_hasBit 2 = .ok (.ishr, 1) := by decide +kernel
theorem dX11_hasBit_3 : decode cX11_hasBit 3 = .ok (.iconst 1, 1) := by decide +kernel
theorem dX11_hasBit_4 : decode cX11_hasBit 4 = .ok (.iand, 1) := by decide +kernel
theorem dX11_hasBit_5 : decode cX11_hasBit 5 = .ok (.iconst 1, 1) := by decide +kernel
theorem dX11_hasBit_6 : decode cX11_hasBit 6 = .ok (.if_icmp .ne 7, 3) := by decide +kernel
theorem dX11_hasBit_9 : decode cX11_hasBit 9 = .ok (.iconst 1, 1) := by decide +kernel
theorem dX11_hasBit_10 : decode cX11_hasBit 10 = .ok (.goto 4, 3) := by decide +kernel
theorem dX11_hasBit_13 : decode cX11_hasBit 13 = .ok (.iconst 0, 1) := by decide +kernel
theorem dX11_hasBit_14 : decode cX11_hasBit 14 = .ok (.ireturn, 1) := by decide +kernel
theorem dX11_clamp_0 : decode cX11_clamp 0 = .ok (.iconst 0, 1) := by decide +kernel
theorem dX11_clamp_1 : decode cX11_clamp 1 = .ok (.iload_n 0, 1) := by decide +kernel
theorem dX11_clamp_2 : decode cX11_clamp 2 = .ok (.iload_n 1, 1) := by decide +kernel
theorem dX11_clamp_3 : decode cX11_clamp 3 = .ok (.invokestatic 291, 3) := by decide +kernel
theorem dX11_clamp_6 : decode cX11_clamp 6 = .ok (.invokestatic 176, 3) := by decide +kernel
theorem dX11_clamp_9 : decode cX11_clamp 9 = .ok (.ireturn, 1) := by decide +kernel
theorem dX11_hankOf_0 : decode cX11_hankOf 0 = .ok (.iload_n 0, 1) := by decide +kernel
theorem dX11_hankOf_1 : decode cX11_hankOf 1 = .ok (.getstatic 294, 3) := by decide +kernel
theorem dX11_hankOf_4 : decode cX11_hankOf 4 = .ok (.iload_n 1, 1) := by decide +kernel
theorem dX11_hankOf_5 : decode cX11_hankOf 5 = .ok (.iaload, 1) := by decide +kernel
theorem dX11_hankOf_6 : decode cX11_hankOf 6 = .ok (.idiv, 1) := by decide +kernel
theorem dX11_hankOf_7 : decode cX11_hankOf 7 = .ok (.bipush 6, 2) := by decide +kernel
theorem dX11_hankOf_9 : decode cX11_hankOf 9 = .ok (.irem, 1) := by decide +kernel
theorem dX11_hankOf_10 : decode cX11_hankOf 10 = .ok (.ireturn, 1) := by decide +kernel
theorem dX11_newCoat_0 : decode cX11_newCoat 0 = .ok (.iload_n 2, 1) := by decide +kernel
theorem dX11_newCoat_1 : decode cX11_newCoat 1 = .ok (.sipush 1000, 3) := by decide +kernel
theorem dX11_newCoat_4 : decode cX11_newCoat 4 = .ok (.idiv, 1) := by decide +kernel
theorem dX11_newCoat_5 : decode cX11_newCoat 5 = .ok (.istore_n 3, 1) := by decide +kernel
theorem dX11_newCoat_6 : decode cX11_newCoat 6 = .ok (.iload_n 2, 1) := by decide +kernel
theorem dX11_newCoat_7 : decode cX11_newCoat 7 = .ok (.sipush 1000, 3) := by decide +kernel
theorem dX11_newCoat_10 : decode cX11_newCoat 10 = .ok (.irem, 1) := by decide +kernel
theorem dX11_newCoat_11 : decode cX11_newCoat 11 = .ok (.istore 4, 2) := by decide +kernel
theorem dX11_newCoat_13 : decode cX11_newCoat 13 = .ok (.iload_n 0, 1) := by decide +kernel
theorem dX11_newCoat_14 : decode cX11_newCoat 14 = .ok (.tableswitch 99 1 5 #[34, 47, 60, 73, 86], 34) := by decide +kernel
theorem dX11_newCoat_48 : decode cX11_newCoat 48 = .ok (.new 297, 3) := by decide +kernel
theorem dX11_newCoat_51 : decode cX11_newCoat 51 = .ok (.dup, 1) := by decide +kernel
theorem dX11_newCoat_52 : decode cX11_newCoat 52 = .ok (.iload_n 0, 1) := by decide +kernel
theorem dX11_newCoat_53 : decode cX11_newCoat 53 = .ok (.iload_n 1, 1) := by decide +kernel
theorem dX11_newCoat_54 : decode cX11_newCoat 54 = .ok (.iload_n 3, 1) := by decide +kernel
theorem dX11_newCoat_55 : decode cX11_newCoat 55 = .ok (.iload 4, 2) := by decide +kernel
theorem dX11_newCoat_57 : decode cX11_newCoat 57 = .ok (.invokespecial 299, 3) := by decide +kernel
theorem dX11_newCoat_60 : decode cX11_newCoat 60 = .ok (.areturn, 1) := by decide +kernel
theorem dX11_newCoat_61 : decode cX11_newCoat 61 = .ok (.new 302, 3) := by decide +kernel
theorem dX11_newCoat_64 : decode cX11_newCoat 64 = .ok (.dup, 1) := by decide +kernel
theorem dX11_newCoat_65 : decode cX11_newCoat 65 = .ok (.iload_n 0, 1) := by decide +kernel
theorem dX11_newCoat_66 : decode cX11_newCoat 66 = .ok (.iload_n 1, 1) := by decide +kernel
theorem dX11_newCoat_67 : decode cX11_newCoat 67 = .ok (.iload_n 3, 1) := by decide +kernel
theorem dX11_newCoat_68 : decode cX11_newCoat 68 = .ok (.iload 4, 2) := by decide +kernel
theorem dX11_newCoat_70 : decode cX11_newCoat 70 = .ok (.invokespecial 304, 3) := by decide +kernel
theorem dX11_newCoat_73 : decode cX11_newCoat 73 = .ok (.areturn, 1) := by decide +kernel
theorem dX11_newCoat_74 : decode cX11_newCoat 74 = .ok (.new 305, 3) := by decide +kernel
theorem dX11_newCoat_77 : decode cX11_newCoat 77 = .ok (.dup, 1) := by decide +kernel
theorem dX11_newCoat_78 : decode cX11_newCoat 78 = .ok (.iload_n 0, 1) := by decide +kernel
theorem dX11_newCoat_79 : decode cX11_newCoat 79 = .ok (.iload_n 1, 1) := by decide +kernel
theorem dX11_newCoat_80 : decode cX11_newCoat 80 = .ok (.iload_n 3, 1) := by decide +kernel
theorem dX11_newCoat_81 : decode cX11_newCoat 81 = .ok (.iload 4, 2) := by decide +kernel
theorem dX11_newCoat_83 : decode cX11_newCoat 83 = .ok (.invokespecial 307, 3) := by decide +kernel
theorem dX11_newCoat_86 : decode cX11_newCoat 86 = .ok (.areturn, 1) := by decide +kernel
theorem dX11_newCoat_87 : decode cX11_newCoat 87 = .ok (.new 232, 3) := by decide +kernel
theorem dX11_newCoat_90 : decode cX11_newCoat 90 = .ok (.dup, 1) := by decide +kernel
theorem dX11_newCoat_91 : decode cX11_newCoat 91 = .ok (.iload_n 0, 1) := by decide +kernel
theorem dX11_newCoat_92 : decode cX11_newCoat 92 = .ok (.iload_n 1, 1) := by decide +kernel
theorem dX11_newCoat_93 : decode cX11_newCoat 93 = .ok (.iload_n 3, 1) := by decide +kernel
theorem dX11_newCoat_94 : decode cX11_newCoat 94 = .ok (.iload 4, 2) := by decide +kernel
theorem dX11_newCoat_96 : decode cX11_newCoat 96 = .ok (.invokespecial 308, 3) := by decide +kernel
theorem dX11_newCoat_99 : decode cX11_newCoat 99 = .ok (.areturn, 1) := by decide +kernel
theorem dX11_newCoat_100 : decode cX11_newCoat 100 = .ok (.new 309, 3) := by decide +kernel
theorem dX11_newCoat_103 : decode cX11_newCoat 103 = .ok (.dup, 1) := by decide +kernel
theorem dX11_newCoat_104 : decode cX11_newCoat 104 = .ok (.iload_n 0, 1) := by decide +kernel
theorem dX11_newCoat_105 : decode cX11_newCoat 105 = .ok (.iload_n 1, 1) := by decide +kernel
theorem dX11_newCoat_106 : decode cX11_newCoat 106 = .ok (.iload_n 3, 1) := by decide +kernel
theorem dX11_newCoat_107 : decode cX11_newCoat 107 = .ok (.iload 4, 2) := by decide +kernel
theorem dX11_newCoat_109 : decode cX11_newCoat 109 = .ok (.invokespecial 311, 3) := by decide +kernel
theorem dX11_newCoat_112 : decode cX11_newCoat 112 = .ok (.areturn, 1) := by decide +kernel
theorem dX11_newCoat_113 : decode cX11_newCoat 113 = .ok (.new 16, 3) := by decide +kernel
theorem dX11_newCoat_116 : decode cX11_newCoat 116 = .ok (.dup, 1) := by decide +kernel
theorem dX11_newCoat_117 : decode cX11_newCoat 117 = .ok (.iload_n 0, 1) := by decide +kernel
theorem dX11_newCoat_118 : decode cX11_newCoat 118 = .ok (.iload_n 1, 1) := by decide +kernel
theorem dX11_newCoat_119 : decode cX11_newCoat 119 = .ok (.iload_n 3, 1) := by decide +kernel
theorem dX11_newCoat_120 : decode cX11_newCoat 120 = .ok (.iload 4, 2) := by decide +kernel
theorem dX11_newCoat_122 : decode cX11_newCoat 122 = .ok (.invokespecial 312, 3) := by decide +kernel
theorem dX11_newCoat_125 : decode cX11_newCoat 125 = .ok (.areturn, 1) := by decide +kernel
theorem dX11_isOfKind_0 : decode cX11_isOfKind 0 = .ok (.iload_n 1, 1) := by decide +kernel
theorem dX11_isOfKind_1 : decode cX11_isOfKind 1 = .ok (.tableswitch 60 1 5 #[35, 40, 45, 50, 55], 35) := by decide +kernel
theorem dX11_isOfKind_36 : decode cX11_isOfKind 36 = .ok (.aload_n 0, 1) := by decide +kernel
theorem dX11_isOfKind_37 : decode cX11_isOfKind 37 = .ok (.instanceof 297, 3) := by decide +kernel
theorem dX11_isOfKind_40 : decode cX11_isOfKind 40 = .ok (.ireturn, 1) := by decide +kernel
theorem dX11_isOfKind_41 : decode cX11_isOfKind 41 = .ok (.aload_n 0, 1) := by decide +kernel
theorem dX11_isOfKind_42 : decode cX11_isOfKind 42 = .ok (.instanceof 302, 3) := by decide +kernel
theorem dX11_isOfKind_45 : decode cX11_isOfKind 45 = .ok (.ireturn, 1) := by decide +kernel
theorem dX11_isOfKind_46 : decode cX11_isOfKind 46 = .ok (.aload_n 0, 1) := by decide +kernel
theorem dX11_isOfKind_47 : decode cX11_isOfKind 47 = .ok (.instanceof 305, 3) := by decide +kernel
theorem dX11_isOfKind_50 : decode cX11_isOfKind 50 = .ok (.ireturn, 1) := by decide +kernel
theorem dX11_isOfKind_51 : decode cX11_isOfKind 51 = .ok (.aload_n 0, 1) := by decide +kernel
theorem dX11_isOfKind_52 : decode cX11_isOfKind 52 = .ok (.instanceof 232, 3) := by decide +kernel
theorem dX11_isOfKind_55 : decode cX11_isOfKind 55 = .ok (.ireturn, 1) := by decide +kernel
theorem dX11_isOfKind_56 : decode cX11_isOfKind 56 = .ok (.aload_n 0, 1) := by decide +kernel
theorem dX11_isOfKind_57 : decode cX11_isOfKind 57 = .ok (.instanceof 309, 3) := by decide +kernel
theorem dX11_isOfKind_60 : decode cX11_isOfKind 60 = .ok (.ireturn, 1) := by decide +kernel
theorem dX11_isOfKind_61 : decode cX11_isOfKind 61 = .ok (.iconst 1, 1) := by decide +kernel
theorem dX11_isOfKind_62 : decode cX11_isOfKind 62 = .ok (.ireturn, 1) := by decide +kernel
theorem dX11_coatAt_0 : decode cX11_coatAt 0 = .ok (.iload_n 1, 1) := by decide +kernel
theorem dX11_coatAt_1 : decode cX11_coatAt 1 = .ok (.iconst 0, 1) := by decide +kernel
theorem dX11_coatAt_2 : decode cX11_coatAt 2 = .ok (.aload_n 0, 1) := by decide +kernel
theorem dX11_coatAt_3 : decode cX11_coatAt 3 = .ok (.getfield 91, 3) := by decide +kernel
theorem dX11_coatAt_6 : decode cX11_coatAt 6 = .ok (.iconst 1, 1) := by decide +kernel
theorem dX11_coatAt_7 : decode cX11_coatAt 7 = .ok (.isub, 1) := by decide +kernel
theorem dX11_coatAt_8 : decode cX11_coatAt 8 = .ok (.invokestatic 81, 3) := by decide +kernel
theorem dX11_coatAt_11 : decode cX11_coatAt 11 = .ok (.ifCond .eq 12, 3) := by decide +kernel
theorem dX11_coatAt_14 : decode cX11_coatAt 14 = .ok (.aload_n 0, 1) := by decide +kernel
theorem dX11_coatAt_15 : decode cX11_coatAt 15 = .ok (.getfield 18, 3) := by decide +kernel
theorem dX11_coatAt_18 : decode cX11_coatAt 18 = .ok (.iload_n 1, 1) := by decide +kernel
theorem dX11_coatAt_19 : decode cX11_coatAt 19 = .ok (.aaload, 1) := by decide +kernel
theorem dX11_coatAt_20 : decode cX11_coatAt 20 = .ok (.goto 4, 3) := by decide +kernel
theorem dX11_coatAt_23 : decode cX11_coatAt 23 = .ok (.aconst_null, 1) := by decide +kernel
theorem dX11_coatAt_24 : decode cX11_coatAt 24 = .ok (.areturn, 1) := by decide +kernel
theorem dX11_useRule_0 : decode cX11_useRule 0 = .ok (.iload_n 1, 1) := by decide +kernel
theorem dX11_useRule_1 : decode cX11_useRule 1 = .ok (.iconst 0, 1) := by decide +kernel
theorem dX11_useRule_2 : decode cX11_useRule 2 = .ok (.aload_n 0, 1) := by decide +kernel
theorem dX11_useRule_3 : decode cX11_useRule 3 = .ok (.getfield 69, 3) := by decide +kernel
theorem dX11_useRule_6 : decode cX11_useRule 6 = .ok (.iconst 1, 1) := by decide +kernel
theorem dX11_useRule_7 : decode cX11_useRule 7 = .ok (.isub, 1) := by decide +kernel
theorem dX11_useRule_8 : decode cX11_useRule 8 = .ok (.invokestatic 81, 3) := by decide +kernel
theorem dX11_useRule_11 : decode cX11_useRule 11 = .ok (.ifCond .eq 12, 3) := by decide +kernel
theorem dX11_useRule_14 : decode cX11_useRule 14 = .ok (.aload_n 0, 1) := by decide +kernel
theorem dX11_useRule_15 : decode cX11_useRule 15 = .ok (.getfield 31, 3) := by decide +kernel
theorem dX11_useRule_18 : decode cX11_useRule 18 = .ok (.iload_n 1, 1) := by decide +kernel
theorem dX11_useRule_19 : decode cX11_useRule 19 = .ok (.aaload, 1) := by decide +kernel
theorem dX11_useRule_20 : decode cX11_useRule 20 = .ok (.goto 4, 3) := by decide +kernel
theorem dX11_useRule_23 : decode cX11_useRule 23 = .ok (.aconst_null, 1) := by decide +kernel
theorem dX11_useRule_24 : decode cX11_useRule 24 = .ok (.astore_n 2, 1) := by decide +kernel
theorem dX11_useRule_25 : decode cX11_useRule 25 = .ok (.aload_n 2, 1) := by decide +kernel
theorem dX11_useRule_26 : decode cX11_useRule 26 = .ok (.ifnull 13, 3) := by decide +kernel
theorem dX11_useRule_29 : decode cX11_useRule 29 = .ok (.aload_n 0, 1) := by decide +kernel
theorem dX11_useRule_30 : decode cX11_useRule 30 = .ok (.aload_n 2, 1) := by decide +kernel
theorem dX11_useRule_31 : decode cX11_useRule 31 = .ok (.putfield 65, 3) := by decide +kernel
theorem dX11_useRule_34 : decode cX11_useRule 34 = .ok (.aload_n 0, 1) := by decide +kernel
theorem dX11_useRule_35 : decode cX11_useRule 35 = .ok (.iload_n 1, 1) := by decide +kernel
theorem dX11_useRule_36 : decode cX11_useRule 36 = .ok (.putfield 153, 3) := by decide +kernel
theorem dX11_useRule_39 : decode cX11_useRule 39 = .ok (.return_, 1) := by decide +kernel
theorem dX11_lastDay_0 : decode cX11_lastDay 0 = .ok (.iconst 0, 1) := by decide +kernel
theorem dX11_lastDay_1 : decode cX11_lastDay 1 = .ok (.istore_n 1, 1) := by decide +kernel
theorem dX11_lastDay_2 : decode cX11_lastDay 2 = .ok (.aload_n 0, 1) := by decide +kernel
theorem dX11_lastDay_3 : decode cX11_lastDay 3 = .ok (.getfield 18, 3) := by decide +kernel
theorem dX11_lastDay_6 : decode cX11_lastDay 6 = .ok (.astore_n 2, 1) := by decide +kernel
theorem dX11_lastDay_7 : decode cX11_lastDay 7 = .ok (.aload_n 2, 1) := by decide +kernel
theorem dX11_lastDay_8 : decode cX11_lastDay 8 = .ok (.arraylength, 1) := by decide +kernel
theorem dX11_lastDay_9 : decode cX11_lastDay 9 = .ok (.istore_n 3, 1) := by decide +kernel
theorem dX11_lastDay_10 : decode cX11_lastDay 10 = .ok (.iconst 0, 1) := by decide +kernel
theorem dX11_lastDay_11 : decode cX11_lastDay 11 = .ok (.istore 4, 2) := by decide +kernel
theorem dX11_lastDay_13 : decode cX11_lastDay 13 = .ok (.iload 4, 2) := by decide +kernel
theorem dX11_lastDay_15 : decode cX11_lastDay 15 = .ok (.iload_n 3, 1) := by decide +kernel
theorem dX11_lastDay_16 : decode cX11_lastDay 16 = .ok (.if_icmp .ge 38, 3) := by decide +kernel
theorem dX11_lastDay_19 : decode cX11_lastDay 19 = .ok (.aload_n 2, 1) := by decide +kernel
theorem dX11_lastDay_20 : decode cX11_lastDay 20 = .ok (.iload 4, 2) := by decide +kernel
theorem dX11_lastDay_22 : decode cX11_lastDay 22 = .ok (.aaload, 1) := by decide +kernel
theorem dX11_lastDay_23 : decode cX11_lastDay 23 = .ok (.astore 5, 2) := by decide +kernel
theorem dX11_lastDay_25 : decode cX11_lastDay 25 = .ok (.aload 5, 2) := by decide +kernel
theorem dX11_lastDay_27 : decode cX11_lastDay 27 = .ok (.ifnull 21, 3) := by decide +kernel
theorem dX11_lastDay_30 : decode cX11_lastDay 30 = .ok (.aload 5, 2) := by decide +kernel
theorem dX11_lastDay_32 : decode cX11_lastDay 32 = .ok (.getfield 130, 3) := by decide +kernel
theorem dX11_lastDay_35 : decode cX11_lastDay 35 = .ok (.ifCond .eq 13, 3) := by decide +kernel
theorem dX11_lastDay_38 : decode cX11_lastDay 38 = .ok (.iload_n 1, 1) := by decide +kernel
theorem dX11_lastDay_39 : decode cX11_lastDay 39 = .ok (.aload 5, 2) := by decide +kernel
theorem dX11_lastDay_41 : decode cX11_lastDay 41 = .ok (.getfield 313, 3) := by decide +kernel
theorem dX11_lastDay_44 : decode cX11_lastDay 44 = .ok (.invokestatic 176, 3) := by decide +kernel
theorem dX11_lastDay_47 : decode cX11_lastDay 47 = .ok (.istore_n 1, 1) := by decide +kernel
theorem dX11_lastDay_48 : decode cX11_lastDay 48 = .ok (.iinc 4 1, 3) := by decide +kernel
theorem dX11_lastDay_51 : decode cX11_lastDay 51 = .ok (.goto (-38), 3) := by decide +kernel
theorem dX11_lastDay_54 : decode cX11_lastDay 54 = .ok (.iload_n 1, 1) := by decide +kernel
theorem dX11_lastDay_55 : decode cX11_lastDay 55 = .ok (.ireturn, 1) := by decide +kernel
theorem dX11_doneCount_0 : decode cX11_doneCount 0 = .ok (.iconst 0, 1) := by decide +kernel
theorem dX11_doneCount_1 : decode cX11_doneCount 1 = .ok (.istore_n 1, 1) := by decide +kernel
theorem dX11_doneCount_2 : decode cX11_doneCount 2 = .ok (.aload_n 0, 1) := by decide +kernel
theorem dX11_doneCount_3 : decode cX11_doneCount 3 = .ok (.getfield 18, 3) := by decide +kernel
theorem dX11_doneCount_6 : decode cX11_doneCount 6 = .ok (.astore_n 2, 1) := by decide +kernel
theorem dX11_doneCount_7 : decode cX11_doneCount 7 = .ok (.aload_n 2, 1) := by decide +kernel
theorem dX11_doneCount_8 : decode cX11_doneCount 8 = .ok (.arraylength, 1) := by decide +kernel
theorem dX11_doneCount_9 : decode cX11_doneCount 9 = .ok (.istore_n 3, 1) := by decide +kernel
theorem dX11_doneCount_10 : decode cX11_doneCount 10 = .ok (.iconst 0, 1) := by decide +kernel
theorem dX11_doneCount_11 : decode cX11_doneCount 11 = .ok (.istore 4, 2) := by decide +kernel
theorem dX11_doneCount_13 : decode cX11_doneCount 13 = .ok (.iload 4, 2) := by decide +kernel
theorem dX11_doneCount_15 : decode cX11_doneCount 15 = .ok (.iload_n 3, 1) := by decide +kernel
theorem dX11_doneCount_16 : decode cX11_doneCount 16 = .ok (.if_icmp .ge 31, 3) := by decide +kernel
theorem dX11_doneCount_19 : decode cX11_doneCount 19 = .ok (.aload_n 2, 1) := by decide +kernel
theorem dX11_doneCount_20 : decode cX11_doneCount 20 = .ok (.iload 4, 2) := by decide +kernel
theorem dX11_doneCount_22 : decode cX11_doneCount 22 = .ok (.aaload, 1) := by decide +kernel
theorem dX11_doneCount_23 : decode cX11_doneCount 23 = .ok (.astore 5, 2) := by decide +kernel
theorem dX11_doneCount_25 : decode cX11_doneCount 25 = .ok (.aload 5, 2) := by decide +kernel
theorem dX11_doneCount_27 : decode cX11_doneCount 27 = .ok (.ifnull 14, 3) := by decide +kernel
theorem dX11_doneCount_30 : decode cX11_doneCount 30 = .ok (.aload 5, 2) := by decide +kernel
theorem dX11_doneCount_32 : decode cX11_doneCount 32 = .ok (.getfield 130, 3) := by decide +kernel
theorem dX11_doneCount_35 : decode cX11_doneCount 35 = .ok (.ifCond .eq 6, 3) := by decide +kernel
theorem dX11_doneCount_38 : decode cX11_doneCount 38 = .ok (.iinc 1 1, 3) := by decide +kernel
theorem dX11_doneCount_41 : decode cX11_doneCount 41 = .ok (.iinc 4 1, 3) := by decide +kernel
theorem dX11_doneCount_44 : decode cX11_doneCount 44 = .ok (.goto (-31), 3) := by decide +kernel
theorem dX11_doneCount_47 : decode cX11_doneCount 47 = .ok (.iload_n 1, 1) := by decide +kernel
theorem dX11_doneCount_48 : decode cX11_doneCount 48 = .ok (.ireturn, 1) := by decide +kernel
theorem dX11_keptByInAll_0 : decode cX11_keptByInAll 0 = .ok (.iconst 0, 1) := by decide +kernel
theorem dX11_keptByInAll_1 : decode cX11_keptByInAll 1 = .ok (.istore_n 1, 1) := by decide +kernel
theorem dX11_keptByInAll_2 : decode cX11_keptByInAll 2 = .ok (.aload_n 0, 1) := by decide +kernel
theorem dX11_keptByInAll_3 : decode cX11_keptByInAll 3 = .ok (.getfield 18, 3) := by decide +kernel
theorem dX11_keptByInAll_6 : decode cX11_keptByInAll 6 = .ok (.astore_n 2, 1) := by decide +kernel
theorem dX11_keptByInAll_7 : decode cX11_keptByInAll 7 = .ok (.aload_n 2, 1) := by decide +kernel
theorem dX11_keptByInAll_8 : decode cX11_keptByInAll 8 = .ok (.arraylength, 1) := by decide +kernel
theorem dX11_keptByInAll_9 : decode cX11_keptByInAll 9 = .ok (.istore_n 3, 1) := by decide +kernel
theorem dX11_keptByInAll_10 : decode cX11_keptByInAll 10 = .ok (.iconst 0, 1) := by decide +kernel
theorem dX11_keptByInAll_11 : decode cX11_keptByInAll 11 = .ok (.istore 4, 2) := by decide +kernel
theorem dX11_keptByInAll_13 : decode cX11_keptByInAll 13 = .ok (.iload 4, 2) := by decide +kernel
theorem dX11_keptByInAll_15 : decode cX11_keptByInAll 15 = .ok (.iload_n 3, 1) := by decide +kernel
theorem dX11_keptByInAll_16 : decode cX11_keptByInAll 16 = .ok (.if_icmp .ge 40, 3) := by decide +kernel
theorem dX11_keptByInAll_19 : decode cX11_keptByInAll 19 = .ok (.aload_n 2, 1) := by decide +kernel
theorem dX11_keptByInAll_20 : decode cX11_keptByInAll 20 = .ok (.iload 4, 2) := by decide +kernel
theorem dX11_keptByInAll_22 : decode cX11_keptByInAll 22 = .ok (.aaload, 1) := by decide +kernel
theorem dX11_keptByInAll_23 : decode cX11_keptByInAll 23 = .ok (.astore 5, 2) := by decide +kernel
theorem dX11_keptByInAll_25 : decode cX11_keptByInAll 25 = .ok (.aload 5, 2) := by decide +kernel
theorem dX11_keptByInAll_27 : decode cX11_keptByInAll 27 = .ok (.ifnull 23, 3) := by decide +kernel
theorem dX11_keptByInAll_30 : decode cX11_keptByInAll 30 = .ok (.aload 5, 2) := by decide +kernel
theorem dX11_keptByInAll_32 : decode cX11_keptByInAll 32 = .ok (.getfield 130, 3) := by decide +kernel
theorem dX11_keptByInAll_35 : decode cX11_keptByInAll 35 = .ok (.ifCond .eq 15, 3) := by decide +kernel
theorem dX11_keptByInAll_38 : decode cX11_keptByInAll 38 = .ok (.iload_n 1, 1) := by decide +kernel
theorem dX11_keptByInAll_39 : decode cX11_keptByInAll 39 = .ok (.aload_n 0, 1) := by decide +kernel
theorem dX11_keptByInAll_40 : decode cX11_keptByInAll 40 = .ok (.getfield 65, 3) := by decide +kernel
theorem dX11_keptByInAll_43 : decode cX11_keptByInAll 43 = .ok (.aload 5, 2) := by decide +kernel
theorem dX11_keptByInAll_45 : decode cX11_keptByInAll 45 = .ok (.invokevirtual 126, 3) := by decide +kernel
theorem dX11_keptByInAll_48 : decode cX11_keptByInAll 48 = .ok (.iadd, 1) := by decide +kernel
theorem dX11_keptByInAll_49 : decode cX11_keptByInAll 49 = .ok (.istore_n 1, 1) := by decide +kernel
theorem dX11_keptByInAll_50 : decode cX11_keptByInAll 50 = .ok (.iinc 4 1, 3) := by decide +kernel
theorem dX11_keptByInAll_53 : decode cX11_keptByInAll 53 = .ok (.goto (-40), 3) := by decide +kernel
theorem dX11_keptByInAll_56 : decode cX11_keptByInAll 56 = .ok (.iload_n 1, 1) := by decide +kernel
theorem dX11_keptByInAll_57 : decode cX11_keptByInAll 57 = .ok (.ireturn, 1) := by decide +kernel
theorem dX11_isSheet_0 : decode cX11_isSheet 0 = .ok (.iload_n 0, 1) := by decide +kernel
theorem dX11_isSheet_1 : decode cX11_isSheet 1 = .ok (.iconst 0, 1) := by decide +kernel
theorem dX11_isSheet_2 : decode cX11_isSheet 2 = .ok (.iconst 3, 1) := by decide +kernel
theorem dX11_isSheet_3 : decode cX11_isSheet 3 = .ok (.invokestatic 81, 3) := by decide +kernel
theorem dX11_isSheet_6 : decode cX11_isSheet 6 = .ok (.ireturn, 1) := by decide +kernel
theorem dX11_hasRun_0 : decode cX11_hasRun 0 = .ok (.iload_n 2, 1) := by decide +kernel
theorem dX11_hasRun_1 : decode cX11_hasRun 1 = .ok (.ifCond .lt 23, 3) := by decide +kernel
theorem dX11_hasRun_4 : decode cX11_hasRun 4 = .ok (.iload_n 3, 1) := by decide +kernel
theorem dX11_hasRun_5 : decode cX11_hasRun 5 = .ok (.ifCond .lt 19, 3) := by decide +kernel
theorem dX11_hasRun_8 : decode cX11_hasRun 8 = .ok (.iload_n 2, 1) := by decide +kernel
theorem dX11_hasRun_9 : decode cX11_hasRun 9 = .ok (.aload_n 0, 1) := by decide +kernel
theorem dX11_hasRun_10 : decode cX11_hasRun 10 = .ok (.getfield 58, 3) := by decide +kernel
theorem dX11_hasRun_13 : decode cX11_hasRun 13 = .ok (.iload_n 1, 1) := by decide +kernel
theorem dX11_hasRun_14 : decode cX11_hasRun 14 = .ok (.iaload, 1) := by decide +kernel
theorem dX11_hasRun_15 : decode cX11_hasRun 15 = .ok (.iload_n 3, 1) := by decide +kernel
theorem dX11_hasRun_16 : decode cX11_hasRun 16 = .ok (.isub, 1) := by decide +kernel
theorem dX11_hasRun_17 : decode cX11_hasRun 17 = .ok (.if_icmp .gt 7, 3) := by decide +kernel
theorem dX11_hasRun_20 : decode cX11_hasRun 20 = .ok (.iconst 1, 1) := by decide +kernel
theorem dX11_hasRun_21 : decode cX11_hasRun 21 = .ok (.goto 4, 3) := by decide +kernel
theorem dX11_hasRun_24 : decode cX11_hasRun 24 = .ok (.iconst 0, 1) := by decide +kernel
theorem dX11_hasRun_25 : decode cX11_hasRun 25 = .ok (.ireturn, 1) := by decide +kernel
theorem dX11_cutToSort_0 : decode cX11_cutToSort 0 = .ok (.iload_n 0, 1) := by decide +kernel
theorem dX11_cutToSort_1 : decode cX11_cutToSort 1 = .ok (.lookupswitch 33 #[(0, 27), (1, 30)], 27) := by decide +kernel
theorem dX11_cutToSort_28 : decode cX11_cutToSort 28 = .ok (.iload_n 1, 1) := by decide +kernel
theorem dX11_cutToSort_29 : decode cX11_cutToSort 29 = .ok (.i2b, 1) := by decide +kernel
theorem dX11_cutToSort_30 : decode cX11_cutToSort 30 = .ok (.ireturn, 1) := by decide +kernel
theorem dX11_cutToSort_31 : decode cX11_cutToSort 31 = .ok (.iload_n 1, 1) := by decide +kernel
theorem dX11_cutToSort_32 : decode cX11_cutToSort 32 = .ok (.i2s, 1) := by decide +kernel
theorem dX11_cutToSort_33 : decode cX11_cutToSort 33 = .ok (.ireturn, 1) := by decide +kernel
theorem dX11_cutToSort_34 : decode cX11_cutToSort 34 = .ok (.iload_n 1, 1) := by decide +kernel
theorem dX11_cutToSort_35 : decode cX11_cutToSort 35 = .ok (.ireturn, 1) := by decide +kernel
