theorem dX0_init_0 : decode cX0_init 0 = .ok (.aload_n 0, 1) := by decide +kernel
theorem dX0_init_1 : decode cX0_init 1 = .ok (.invokespecial 3, 3) := by decide +kernel
theorem dX0_init_4 : decode cX0_init 4 = .ok (.aload_n 0, 1) := by decide +kernel
theorem dX0_init_5 : decode cX0_init 5 = .ok (.sipush 1480, 3) := by decide +kernel
theorem dX0_init_8 : decode cX0_init 8 = .ok (.newarray .int, 2) := by decide +kernel
theorem dX0_init_10 : decode cX0_init 10 = .ok (.putfield 11, 3) := by decide +kernel
theorem dX0_init_13 : decode cX0_init 13 = .ok (.return_, 1) := by decide +kernel
theorem dX0_clear_0 : decode cX0_clear 0 = .ok (.aload_n 0, 1) := by decide +kernel
theorem dX0_clear_1 : decode cX0_clear 1 = .ok (.iconst 0, 1) := by decide +kernel
theorem dX0_clear_2 : decode cX0_clear 2 = .ok (.putfield 17, 3) := by decide +kernel
theorem dX0_clear_5 : decode cX0_clear 5 = .ok (.aload_n 0, 1) := by decide +kernel
theorem dX0_clear_6 : decode cX0_clear 6 = .ok (.iconst 0, 1) := by decide +kernel
theorem dX0_clear_7 : decode cX0_clear 7 = .ok (.putfield 21, 3) := by decide +kernel
theorem dX0_clear_10 : decode cX0_clear 10 = .ok (.return_, 1) := by decide +kernel
theorem dX0_become_0 : decode cX0_become 0 = .ok (.aload_n 1, 1) := by decide +kernel
theorem dX0_become_1 : decode cX0_become 1 = .ok (.getfield 11, 3) := by decide +kernel
theorem dX0_become_4 : decode cX0_become 4 = .ok (.iconst 0, 1) := by decide +kernel
theorem dX0_become_5 : decode cX0_become 5 = .ok (.aload_n 0, 1) := by decide +kernel
theorem dX0_become_6 : decode cX0_become 6 = .ok (.getfield 11, 3) := by decide +kernel
theorem dX0_become_9 : decode cX0_become 9 = .ok (.iconst 0, 1) := by decide +kernel
theorem dX0_become_10 : decode cX0_become 10 = .ok (.aload_n 0, 1) := by decide +kernel
theorem dX0_become_11 : decode cX0_become 11 = .ok (.getfield 11, 3) := by decide +kernel
theorem dX0_become_14 : decode cX0_become 14 = .ok (.arraylength, 1) := by decide +kernel
theorem dX0_become_15 : decode cX0_become 15 = .ok (.invokestatic 24, 3) := by decide +kernel
theorem dX0_become_18 : decode cX0_become 18 = .ok (.aload_n 0, 1) := by decide +kernel
theorem dX0_become_19 : decode cX0_become 19 = .ok (.aload_n 1, 1) := by decide +kernel
theorem dX0_become_20 : decode cX0_become 20 = .ok (.getfield 17, 3) := by decide +kernel
theorem dX0_become_23 : decode cX0_become 23 = .ok (.putfield 17, 3) := by decide +kernel
theorem dX0_become_26 : decode cX0_become 26 = .ok (.aload_n 0, 1) := by decide +kernel
theorem dX0_become_27 : decode cX0_become 27 = .ok (.aload_n 1, 1) := by decide +kernel
theorem dX0_become_28 : decode cX0_become 28 = .ok (.getfield 21, 3) := by decide +kernel
theorem dX0_become_31 : decode cX0_become 31 = .ok (.putfield 21, 3) := by decide +kernel
theorem dX0_become_34 : decode cX0_become 34 = .ok (.return_, 1) := by decide +kernel
theorem dX0_keep_0 : decode cX0_keep 0 = .ok (.aload_n 1, 1) := by decide +kernel
theorem dX0_keep_1 : decode cX0_keep 1 = .ok (.aload_n 0, 1) := by decide +kernel
theorem dX0_keep_2 : decode cX0_keep 2 = .ok (.getfield 11, 3) := by decide +kernel
theorem dX0_keep_5 : decode cX0_keep 5 = .ok (.aload_n 0, 1) := by decide +kernel
theorem dX0_keep_6 : decode cX0_keep 6 = .ok (.getfield 17, 3) := by decide +kernel
theorem dX0_keep_9 : decode cX0_keep 9 = .ok (.aload_n 0, 1) := by decide +kernel
theorem dX0_keep_10 : decode cX0_keep 10 = .ok (.getfield 21, 3) := by decide +kernel
theorem dX0_keep_13 : decode cX0_keep 13 = .ok (.iadd, 1) := by decide +kernel
theorem dX0_keep_14 : decode cX0_keep 14 = .ok (.bipush 40, 2) := by decide +kernel
theorem dX0_keep_16 : decode cX0_keep 16 = .ok (.irem, 1) := by decide +kernel
theorem dX0_keep_17 : decode cX0_keep 17 = .ok (.bipush 37, 2) := by decide +kernel
theorem dX0_keep_19 : decode cX0_keep 19 = .ok (.imul, 1) := by decide +kernel
theorem dX0_keep_20 : decode cX0_keep 20 = .ok (.invokevirtual 30, 3) := by decide +kernel
theorem dX0_keep_23 : decode cX0_keep 23 = .ok (.aload_n 0, 1) := by decide +kernel
theorem dX0_keep_24 : decode cX0_keep 24 = .ok (.getfield 21, 3) := by decide +kernel
theorem dX0_keep_27 : decode cX0_keep 27 = .ok (.bipush 40, 2) := by decide +kernel
theorem dX0_keep_29 : decode cX0_keep 29 = .ok (.if_icmp .ge 16, 3) := by decide +kernel
theorem dX0_keep_32 : decode cX0_keep 32 = .ok (.aload_n 0, 1) := by decide +kernel
theorem dX0_keep_33 : decode cX0_keep 33 = .ok (.dup, 1) := by decide +kernel
theorem dX0_keep_34 : decode cX0_keep 34 = .ok (.getfield 21, 3) := by decide +kernel
theorem dX0_keep_37 : decode cX0_keep 37 = .ok (.iconst 1, 1) := by decide +kernel
theorem dX0_keep_38 : decode cX0_keep 38 = .ok (.iadd, 1) := by decide +kernel
theorem dX0_keep_39 : decode cX0_keep 39 = .ok (.putfield 21, 3) := by decide +kernel
theorem dX0_keep_42 : decode cX0_keep 42 = .ok (.goto 16, 3) := by decide +kernel
theorem dX0_keep_45 : decode cX0_keep 45 = .ok (.aload_n 0, 1) := by decide +kernel
theorem dX0_keep_46 : decode cX0_keep 46 = .ok (.aload_n 0, 1) := by decide +kernel
theorem dX0_keep_47 : decode cX0_keep 47 = .ok (.getfield 17, 3) := by decide +kernel
theorem dX0_keep_50 : decode cX0_keep 50 = .ok (.iconst 1, 1) := by decide +kernel
theorem dX0_keep_51 : decode cX0_keep 51 = .ok (.iadd, 1) := by decide +kernel
theorem dX0_keep_52 : decode cX0_keep 52 = .ok (.bipush 40, 2) := by decide +kernel
theorem dX0_keep_54 : decode cX0_keep 54 = .ok (.irem, 1) := by decide +kernel
theorem dX0_keep_55 : decode cX0_keep 55 = .ok (.putfield 17, 3) := by decide +kernel
theorem dX0_keep_58 : decode cX0_keep 58 = .ok (.return_, 1) := by decide +kernel
theorem dX0_takeBack_0 : decode cX0_takeBack 0 = .ok (.aload_n 0, 1) := by decide +kernel
theorem dX0_takeBack_1 : decode cX0_takeBack 1 = .ok (.getfield 21, 3) := by decide +kernel
theorem dX0_takeBack_4 : decode cX0_takeBack 4 = .ok (.ifCond .le 36, 3) := by decide +kernel
theorem dX0_takeBack_7 : decode cX0_takeBack 7 = .ok (.aload_n 0, 1) := by decide +kernel
theorem dX0_takeBack_8 : decode cX0_takeBack 8 = .ok (.dup, 1) := by decide +kernel
theorem dX0_takeBack_9 : decode cX0_takeBack 9 = .ok (.getfield 21, 3) := by decide +kernel
theorem dX0_takeBack_12 : decode cX0_takeBack 12 = .ok (.iconst 1, 1) := by decide +kernel
theorem dX0_takeBack_13 : decode cX0_takeBack 13 = .ok (.isub, 1) := by decide +kernel
theorem dX0_takeBack_14 : decode cX0_takeBack 14 = .ok (.putfield 21, 3) := by decide +kernel
theorem dX0_takeBack_17 : decode cX0_takeBack 17 = .ok (.aload_n 1, 1) := by decide +kernel
theorem dX0_takeBack_18 : decode cX0_takeBack 18 = .ok (.aload_n 0, 1) := by decide +kernel
theorem dX0_takeBack_19 : decode cX0_takeBack 19 = .ok (.getfield 11, 3) := by decide +kernel
theorem dX0_takeBack_22 : decode cX0_takeBack 22 = .ok (.aload_n 0, 1) := by decide +kernel
theorem dX0_takeBack_23 : decode cX0_takeBack 23 = .ok (.getfield 17, 3) := by decide +kernel
theorem dX0_takeBack_26 : decode cX0_takeBack 26 = .ok (.aload_n 0, 1) := by decide +kernel
theorem dX0_takeBack_27 : decode cX0_takeBack 27 = .ok (.getfield 21, 3) := by decide +kernel
theorem dX0_takeBack_30 : decode cX0_takeBack 30 = .ok (.iadd, 1) := by decide +kernel
theorem dX0_takeBack_31 : decode cX0_takeBack 31 = .ok (.bipush 40, 2) := by decide +kernel
theorem dX0_takeBack_33 : decode cX0_takeBack 33 = .ok (.irem, 1) := by decide +kernel
theorem dX0_takeBack_34 : decode cX0_takeBack 34 = .ok (.bipush 37, 2) := by decide +kernel
theorem dX0_takeBack_36 : decode cX0_takeBack 36 = .ok (.imul, 1) := by decide +kernel
theorem dX0_takeBack_37 : decode cX0_takeBack 37 = .ok (.invokevirtual 34, 3) := by decide +kernel
theorem dX0_takeBack_40 : decode cX0_takeBack 40 = .ok (.return_, 1) := by decide +kernel
theorem dX1_init_0 : decode cX1_init 0 = .ok (.aload_n 0, 1) := by decide +kernel
theorem dX1_init_1 : decode cX1_init 1 = .ok (.invokespecial 3, 3) := by decide +kernel
theorem dX1_init_4 : decode cX1_init 4 = .ok (.aload_n 0, 1) := by decide +kernel
theorem dX1_init_5 : decode cX1_init 5 = .ok (.sipush 512, 3) := by decide +kernel
theorem dX1_init_8 : decode cX1_init 8 = .ok (.newarray .int, 2) := by decide +kernel
theorem dX1_init_10 : decode cX1_init 10 = .ok (.putfield 11, 3) := by decide +kernel
theorem dX1_init_13 : decode cX1_init 13 = .ok (.aload_n 0, 1) := by decide +kernel
theorem dX1_init_14 : decode cX1_init 14 = .ok (.bipush 42, 2) := by decide +kernel
theorem dX1_init_16 : decode cX1_init 16 = .ok (.newarray .int, 2) := by decide +kernel
theorem dX1_init_18 : decode cX1_init 18 = .ok (.putfield 15, 3) := by decide +kernel
theorem dX1_init_21 : decode cX1_init 21 = .ok (.return_, 1) := by decide +kernel
theorem dX1_weigh_0 : decode cX1_weigh 0 = .ok (.aload_n 1, 1) := by decide +kernel
theorem dX1_weigh_1 : decode cX1_weigh 1 = .ok (.getfield 18, 3) := by decide +kernel
theorem dX1_weigh_4 : decode cX1_weigh 4 = .ok (.getfield 24, 3) := by decide +kernel
theorem dX1_weigh_7 : decode cX1_weigh 7 = .ok (.istore_n 2, 1) := by decide +kernel
theorem dX1_weigh_8 : decode cX1_weigh 8 = .ok (.iconst 0, 1) := by decide +kernel
theorem dX1_weigh_9 : decode cX1_weigh 9 = .ok (.istore_n 3, 1) := by decide +kernel
theorem dX1_weigh_10 : decode cX1_weigh 10 = .ok (.iload_n 3, 1) := by decide +kernel
theorem dX1_weigh_11 : decode cX1_weigh 11 = .ok (.bipush 64, 2) := by decide +kernel
theorem dX1_weigh_13 : decode cX1_weigh 13 = .ok (.if_icmp .ge 21, 3) := by decide +kernel
theorem dX1_weigh_16 : decode cX1_weigh 16 = .ok (.aload_n 0, 1) := by decide +kernel
theorem dX1_weigh_17 : decode cX1_weigh 17 = .ok (.getfield 11, 3) := by decide +kernel
theorem dX1_weigh_20 : decode cX1_weigh 20 = .ok (.iload_n 2, 1) := by decide +kernel
theorem dX1_weigh_21 : decode cX1_weigh 21 = .ok (.bipush 64, 2) := by decide +kernel
theorem dX1_weigh_23 : decode cX1_weigh 23 = .ok (.imul, 1) := by decide +kernel
theorem dX1_weigh_24 : decode cX1_weigh 24 = .ok (.iload_n 3, 1) := by decide +kernel
theorem dX1_weigh_25 : decode cX1_weigh 25 = .ok (.iadd, 1) := by decide +kernel
theorem dX1_weigh_26 : decode cX1_weigh 26 = .ok (.iconst 0, 1) := by decide +kernel
theorem dX1_weigh_27 : decode cX1_weigh 27 = .ok (.iastore, 1) := by decide +kernel
theorem dX1_weigh_28 : decode cX1_weigh 28 = .ok (.iinc 3 1, 3) := by decide +kernel
theorem dX1_weigh_31 : decode cX1_weigh 31 = .ok (.goto (-21), 3) := by decide +kernel
theorem dX1_weigh_34 : decode cX1_weigh 34 = .ok (.iload_n 2, 1) := by decide +kernel
theorem dX1_weigh_35 : decode cX1_weigh 35 = .ok (.iconst 1, 1) := by decide +kernel
theorem dX1_weigh_36 : decode cX1_weigh 36 = .ok (.isub, 1) := by decide +kernel
theorem dX1_weigh_37 : decode cX1_weigh 37 = .ok (.istore_n 3, 1) := by decide +kernel
theorem dX1_weigh_38 : decode cX1_weigh 38 = .ok (.iload_n 3, 1) := by decide +kernel
theorem dX1_weigh_39 : decode cX1_weigh 39 = .ok (.ifCond .lt 96, 3) := by decide +kernel
theorem dX1_weigh_42 : decode cX1_weigh 42 = .ok (.iconst 0, 1) := by decide +kernel
theorem dX1_weigh_43 : decode cX1_weigh 43 = .ok (.istore 4, 2) := by decide +kernel
theorem dX1_weigh_45 : decode cX1_weigh 45 = .ok (.iload 4, 2) := by decide +kernel
theorem dX1_weigh_47 : decode cX1_weigh 47 = .ok (.aload_n 1, 1) := by decide +kernel
theorem dX1_weigh_48 : decode cX1_weigh 48 = .ok (.getfield 30, 3) := by decide +kernel
theorem dX1_weigh_51 : decode cX1_weigh 51 = .ok (.if_icmp .ge 39, 3) := by decide +kernel
theorem dX1_weigh_54 : decode cX1_weigh 54 = .ok (.aload_n 0, 1) := by decide +kernel
theorem dX1_weigh_55 : decode cX1_weigh 55 = .ok (.getfield 15, 3) := by decide +kernel
theorem dX1_weigh_58 : decode cX1_weigh 58 = .ok (.iload_n 3, 1) := by decide +kernel
theorem dX1_weigh_59 : decode cX1_weigh 59 = .ok (.bipush 6, 2) := by decide +kernel
theorem dX1_weigh_61 : decode cX1_weigh 61 = .ok (.imul, 1) := by decide +kernel
theorem dX1_weigh_62 : decode cX1_weigh 62 = .ok (.iload 4, 2) := by decide +kernel
theorem dX1_weigh_64 : decode cX1_weigh 64 = .ok (.iadd, 1) := by decide +kernel
theorem dX1_weigh_65 : decode cX1_weigh 65 = .ok (.aload_n 1, 1) := by decide +kernel
theorem dX1_weigh_66 : decode cX1_weigh 66 = .ok (.aload_n 1, 1) := by decide +kernel
theorem dX1_weigh_67 : decode cX1_weigh 67 = .ok (.getfield 18, 3) := by decide +kernel
theorem dX1_weigh_70 : decode cX1_weigh 70 = .ok (.getfield 33, 3) := by decide +kernel
theorem dX1_weigh_73 : decode cX1_weigh 73 = .ok (.iload_n 3, 1) := by decide +kernel
theorem dX1_weigh_74 : decode cX1_weigh 74 = .ok (.aaload, 1) := by decide +kernel
theorem dX1_weigh_75 : decode cX1_weigh 75 = .ok (.getfield 37, 3) := by decide +kernel
theorem dX1_weigh_78 : decode cX1_weigh 78 = .ok (.iload 4, 2) := by decide +kernel
theorem dX1_weigh_80 : decode cX1_weigh 80 = .ok (.invokevirtual 42, 3) := by decide +kernel
theorem dX1_weigh_83 : decode cX1_weigh 83 = .ok (.iastore, 1) := by decide +kernel
theorem dX1_weigh_84 : decode cX1_weigh 84 = .ok (.iinc 4 1, 3) := by decide +kernel
theorem dX1_weigh_87 : decode cX1_weigh 87 = .ok (.goto (-42), 3) := by decide +kernel
theorem dX1_weigh_90 : decode cX1_weigh 90 = .ok (.iconst 0, 1) := by decide +kernel
theorem dX1_weigh_91 : decode cX1_weigh 91 = .ok (.istore 4, 2) := by decide +kernel
theorem dX1_weigh_93 : decode cX1_weigh 93 = .ok (.iload 4, 2) := by decide +kernel
theorem dX1_weigh_95 : decode cX1_weigh 95 = .ok (.bipush 64, 2) := by decide +kernel
theorem dX1_weigh_97 : decode cX1_weigh 97 = .ok (.if_icmp .ge 32, 3) := by decide +kernel
theorem dX1_weigh_100 : decode cX1_weigh 100 = .ok (.aload_n 0, 1) := by decide +kernel
theorem dX1_weigh_101 : decode cX1_weigh 101 = .ok (.getfield 11, 3) := by decide +kernel
theorem dX1_weigh_104 : decode cX1_weigh 104 = .ok (.iload_n 3, 1) := by decide +kernel
theorem dX1_weigh_105 : decode cX1_weigh 105 = .ok (.bipush 64, 2) := by decide +kernel
theorem dX1_weigh_107 : decode cX1_weigh 107 = .ok (.imul, 1) := by decide +kernel
theorem dX1_weigh_108 : decode cX1_weigh 108 = .ok (.iload 4, 2) := by decide +kernel
theorem dX1_weigh_110 : decode cX1_weigh 110 = .ok (.iadd, 1) := by decide +kernel
theorem dX1_weigh_111 : decode cX1_weigh 111 = .ok (.aload_n 0, 1) := by decide +kernel
theorem dX1_weigh_112 : decode cX1_weigh 112 = .ok (.aload_n 1, 1) := by decide +kernel
theorem dX1_weigh_113 : decode cX1_weigh 113 = .ok (.getfield 30, 3) := by decide +kernel
theorem dX1_weigh_116 : decode cX1_weigh 116 = .ok (.iload_n 3, 1) := by decide +kernel
theorem dX1_weigh_117 : decode cX1_weigh 117 = .ok (.iload 4, 2) := by decide +kernel
theorem dX1_weigh_119 : decode cX1_weigh 119 = .ok (.invokevirtual 46, 3) := by decide +kernel
theorem dX1_weigh_122 : decode cX1_weigh 122 = .ok (.iastore, 1) := by decide +kernel
theorem dX1_weigh_123 : decode cX1_weigh 123 = .ok (.iinc 4 1, 3) := by decide +kernel
theorem dX1_weigh_126 : decode cX1_weigh 126 = .ok (.goto (-33), 3) := by decide +kernel
theorem dX1_weigh_129 : decode cX1_weigh 129 = .ok (.iinc 3 (-1), 3) := by decide +kernel
theorem dX1_weigh_132 : decode cX1_weigh 132 = .ok (.goto (-94), 3) := by decide +kernel
theorem dX1_weigh_135 : decode cX1_weigh 135 = .ok (.return_, 1) := by decide +kernel
theorem dX1_mostOf_0 : decode cX1_mostOf 0 = .ok (.aload_n 0, 1) := by decide +kernel
theorem dX1_mostOf_1 : decode cX1_mostOf 1 = .ok (.getfield 11, 3) := by decide +kernel
theorem dX1_mostOf_4 : decode cX1_mostOf 4 = .ok (.iload_n 2, 1) := by decide +kernel
theorem dX1_mostOf_5 : decode cX1_mostOf 5 = .ok (.iconst 1, 1) := by decide +kernel
theorem dX1_mostOf_6 : decode cX1_mostOf 6 = .ok (.iadd, 1) := by decide +kernel
theorem dX1_mostOf_7 : decode cX1_mostOf 7 = .ok (.bipush 64, 2) := by decide +kernel
theorem dX1_mostOf_9 : decode cX1_mostOf 9 = .ok (.imul, 1) := by decide +kernel
theorem dX1_mostOf_10 : decode cX1_mostOf 10 = .ok (.iload_n 3, 1) := by decide +kernel
theorem dX1_mostOf_11 : decode cX1_mostOf 11 = .ok (.iadd, 1) := by decide +kernel
theorem dX1_mostOf_12 : decode cX1_mostOf 12 = .ok (.iaload, 1) := by decide +kernel
theorem dX1_mostOf_13 : decode cX1_mostOf 13 = .ok (.istore 4, 2) := by decide +kernel
theorem dX1_mostOf_15 : decode cX1_mostOf 15 = .ok (.iconst 0, 1) := by decide +kernel
theorem dX1_mostOf_16 : decode cX1_mostOf 16 = .ok (.istore 5, 2) := by decide +kernel
theorem dX1_mostOf_18 : decode cX1_mostOf 18 = .ok (.iload 5, 2) := by decide +kernel
theorem dX1_mostOf_20 : decode cX1_mostOf 20 = .ok (.iload_n 1, 1) := by decide +kernel
theorem dX1_mostOf_21 : decode cX1_mostOf 21 = .ok (.if_icmp .ge 33, 3) := by decide +kernel
theorem dX1_mostOf_24 : decode cX1_mostOf 24 = .ok (.iload_n 3, 1) := by decide +kernel
theorem dX1_mostOf_25 : decode cX1_mostOf 25 = .ok (.iload 5, 2) := by decide +kernel
theorem dX1_mostOf_27 : decode cX1_mostOf 27 = .ok (.ishr, 1) := by decide +kernel
theorem dX1_mostOf_28 : decode cX1_mostOf 28 = .ok (.iconst 1, 1) := by decide +kernel
theorem dX1_mostOf_29 : decode cX1_mostOf 29 = .ok (.iand, 1) := by decide +kernel
theorem dX1_mostOf_30 : decode cX1_mostOf 30 = .ok (.ifCond .ne 18, 3) := by decide +kernel
theorem dX1_mostOf_33 : decode cX1_mostOf 33 = .ok (.iload 4, 2) := by decide +kernel
theorem dX1_mostOf_35 : decode cX1_mostOf 35 = .ok (.aload_n 0, 1) := by decide +kernel
theorem dX1_mostOf_36 : decode cX1_mostOf 36 = .ok (.iload_n 2, 1) := by decide +kernel
theorem dX1_mostOf_37 : decode cX1_mostOf 37 = .ok (.iload 5, 2) := by decide +kernel
theorem dX1_mostOf_39 : decode cX1_mostOf 39 = .ok (.iload_n 3, 1) := by decide +kernel
theorem dX1_mostOf_40 : decode cX1_mostOf 40 = .ok (.invokevirtual 50, 3) := by decide +kernel
theorem dX1_mostOf_43 : decode cX1_mostOf 43 = .ok (.invokestatic 53, 3) := by decide +kernel
theorem dX1_mostOf_46 : decode cX1_mostOf 46 = .ok (.istore 4, 2) := by decide +kernel
theorem dX1_mostOf_48 : decode cX1_mostOf 48 = .ok (.iinc 5 1, 3) := by decide +kernel
theorem dX1_mostOf_51 : decode cX1_mostOf 51 = .ok (.goto (-33), 3) := by decide +kernel
theorem dX1_mostOf_54 : decode cX1_mostOf 54 = .ok (.iload 4, 2) := by decide +kernel
theorem dX1_mostOf_56 : decode cX1_mostOf 56 = .ok (.ireturn, 1) := by decide +kernel
theorem dX1_mostWith_0 : decode cX1_mostWith 0 = .ok (.aload_n 0, 1) := by decide +kernel
theorem dX1_mostWith_1 : decode cX1_mostWith 1 = .ok (.getfield 15, 3) := by decide +kernel
theorem dX1_mostWith_4 : decode cX1_mostWith 4 = .ok (.iload_n 1, 1) := by decide +kernel
theorem dX1_mostWith_5 : decode cX1_mostWith 5 = .ok (.bipush 6, 2) := by decide +kernel
theorem dX1_mostWith_7 : decode cX1_mostWith 7 = .ok (.imul, 1) := by decide +kernel
theorem dX1_mostWith_8 : decode cX1_mostWith 8 = .ok (.iload_n 2, 1) := by decide +kernel
theorem dX1_mostWith_9 : decode cX1_mostWith 9 = .ok (.iadd, 1) := by decide +kernel
theorem dX1_mostWith_10 : decode cX1_mostWith 10 = .ok (.iaload, 1) := by decide +kernel
theorem dX1_mostWith_11 : decode cX1_mostWith 11 = .ok (.aload_n 0, 1) := by decide +kernel
theorem dX1_mostWith_12 : decode cX1_mostWith 12 = .ok (.getfield 11, 3) := by decide +kernel
theorem dX1_mostWith_15 : decode cX1_mostWith 15 = .ok (.iload_n 1, 1) := by decide +kernel
theorem dX1_mostWith_16 : decode cX1_mostWith 16 = .ok (.iconst 1, 1) := by decide +kernel
theorem dX1_mostWith_17 : decode cX1_mostWith 17 = .ok (.iadd, 1) := by decide +kernel
theorem dX1_mostWith_18 : decode cX1_mostWith 18 = .ok (.bipush 64, 2) := by decide +kernel
theorem dX1_mostWith_20 : decode cX1_mostWith 20 = .ok (.imul, 1) := by decide +kernel
theorem dX1_mostWith_21 : decode cX1_mostWith 21 = .ok (.iload_n 3, 1) := by decide +kernel
theorem dX1_mostWith_22 : decode cX1_mostWith 22 = .ok (.iconst 1, 1) := by decide +kernel
theorem dX1_mostWith_23 : decode cX1_mostWith 23 = .ok (.iload_n 2, 1) := by decide +kernel
theorem dX1_mostWith_24 : decode cX1_mostWith 24 = .ok (.ishl, 1) := by decide +kernel
theorem dX1_mostWith_25 : decode cX1_mostWith 25 = .ok (.ior, 1) := by decide +kernel
theorem dX1_mostWith_26 : decode cX1_mostWith 26 = .ok (.iadd, 1) := by decide +kernel
theorem dX1_mostWith_27 : decode cX1_mostWith 27 = .ok (.iaload, 1) := by decide +kernel
theorem dX1_mostWith_28 : decode cX1_mostWith 28 = .ok (.iadd, 1) := by decide +kernel
theorem dX1_mostWith_29 : decode cX1_mostWith 29 = .ok (.ireturn, 1) := by decide +kernel
theorem dX1_most_0 : decode cX1_most 0 = .ok (.aload_n 0, 1) := by decide +kernel
theorem dX1_most_1 : decode cX1_most 1 = .ok (.getfield 11, 3) := by decide +kernel
theorem dX1_most_4 : decode cX1_most 4 = .ok (.iconst 0, 1) := by decide +kernel
theorem dX1_most_5 : decode cX1_most 5 = .ok (.iaload, 1) := by decide +kernel
theorem dX1_most_6 : decode cX1_most 6 = .ok (.ireturn, 1) := by decide +kernel
theorem dX1_pieceFor_0 : decode cX1_pieceFor 0 = .ok (.iconst 0, 1) := by decide +kernel
theorem dX1_pieceFor_1 : decode cX1_pieceFor 1 = .ok (.istore_n 3, 1) := by decide +kernel
theorem dX1_pieceFor_2 : decode cX1_pieceFor 2 = .ok (.iconst (-1), 1) := by decide +kernel
theorem dX1_pieceFor_3 : decode cX1_pieceFor 3 = .ok (.istore 4, 2) := by decide +kernel
theorem dX1_pieceFor_5 : decode cX1_pieceFor 5 = .ok (.iconst 0, 1) := by decide +kernel
theorem dX1_pieceFor_6 : decode cX1_pieceFor 6 = .ok (.istore 5, 2) := by decide +kernel
theorem dX1_pieceFor_8 : decode cX1_pieceFor 8 = .ok (.iload 5, 2) := by decide +kernel
theorem dX1_pieceFor_10 : decode cX1_pieceFor 10 = .ok (.iload_n 2, 1) := by decide +kernel
theorem dX1_pieceFor_11 : decode cX1_pieceFor 11 = .ok (.if_icmp .gt 46, 3) := by decide +kernel
theorem dX1_pieceFor_14 : decode cX1_pieceFor 14 = .ok (.iload 5, 2) := by decide +kernel
theorem dX1_pieceFor_16 : decode cX1_pieceFor 16 = .ok (.bipush 7, 2) := by decide +kernel
theorem dX1_pieceFor_18 : decode cX1_pieceFor 18 = .ok (.if_icmp .ge 39, 3) := by decide +kernel
theorem dX1_pieceFor_21 : decode cX1_pieceFor 21 = .ok (.aload_n 0, 1) := by decide +kernel
theorem dX1_pieceFor_22 : decode cX1_pieceFor 22 = .ok (.aload_n 1, 1) := by decide +kernel
theorem dX1_pieceFor_23 : decode cX1_pieceFor 23 = .ok (.getfield 30, 3) := by decide +kernel
theorem dX1_pieceFor_26 : decode cX1_pieceFor 26 = .ok (.iload 5, 2) := by decide +kernel
theorem dX1_pieceFor_28 : decode cX1_pieceFor 28 = .ok (.iload_n 3, 1) := by decide +kernel
theorem dX1_pieceFor_29 : decode cX1_pieceFor 29 = .ok (.invokevirtual 58, 3) := by decide +kernel
theorem dX1_pieceFor_32 : decode cX1_pieceFor 32 = .ok (.istore 4, 2) := by decide +kernel
theorem dX1_pieceFor_34 : decode cX1_pieceFor 34 = .ok (.iload 4, 2) := by decide +kernel
theorem dX1_pieceFor_36 : decode cX1_pieceFor 36 = .ok (.iconst (-1), 1) := by decide +kernel
theorem dX1_pieceFor_37 : decode cX1_pieceFor 37 = .ok (.if_icmp .ne 7, 3) := by decide +kernel
theorem dX1_pieceFor_40 : decode cX1_pieceFor 40 = .ok (.iload_n 3, 1) := by decide +kernel
theorem dX1_pieceFor_41 : decode cX1_pieceFor 41 = .ok (.goto 9, 3) := by decide +kernel
theorem dX1_pieceFor_44 : decode cX1_pieceFor 44 = .ok (.iload_n 3, 1) := by decide +kernel
theorem dX1_pieceFor_45 : decode cX1_pieceFor 45 = .ok (.iconst 1, 1) := by decide +kernel
theorem dX1_pieceFor_46 : decode cX1_pieceFor 46 = .ok (.iload 4, 2) := by decide +kernel
theorem dX1_pieceFor_48 : decode cX1_pieceFor 48 = .ok (.ishl, 1) := by decide +kernel
theorem dX1_pieceFor_49 : decode cX1_pieceFor 49 = .ok (.ior, 1) := by decide +kernel
theorem dX1_pieceFor_50 : decode cX1_pieceFor 50 = .ok (.istore_n 3, 1) := by decide +kernel
theorem dX1_pieceFor_51 : decode cX1_pieceFor 51 = .ok (.iinc 5 1, 3) := by decide +kernel
theorem dX1_pieceFor_54 : decode cX1_pieceFor 54 = .ok (.goto (-46), 3) := by decide +kernel
theorem dX1_pieceFor_57 : decode cX1_pieceFor 57 = .ok (.iload 4, 2) := by decide +kernel
theorem dX1_pieceFor_59 : decode cX1_pieceFor 59 = .ok (.ireturn, 1) := by decide +kernel
theorem dX1_firstOfMost_0 : decode cX1_firstOfMost 0 = .ok (.iconst 0, 1) := by decide +kernel
theorem dX1_firstOfMost_1 : decode cX1_firstOfMost 1 = .ok (.istore 4, 2) := by decide +kernel
theorem dX1_firstOfMost_3 : decode cX1_firstOfMost 3 = .ok (.iload 4, 2) := by decide +kernel
theorem dX1_firstOfMost_5 : decode cX1_firstOfMost 5 = .ok (.iload_n 1, 1) := by decide +kernel
theorem dX1_firstOfMost_6 : decode cX1_firstOfMost 6 = .ok (.if_icmp .ge 55, 3) := by decide +kernel
theorem dX1_firstOfMost_9 : decode cX1_firstOfMost 9 = .ok (.iload_n 3, 1) := by decide +kernel
theorem dX1_firstOfMost_10 : decode cX1_firstOfMost 10 = .ok (.iload 4, 2) := by decide +kernel
theorem dX1_firstOfMost_12 : decode cX1_firstOfMost 12 = .ok (.ishr, 1) := by decide +kernel
theorem dX1_firstOfMost_13 : decode cX1_firstOfMost 13 = .ok (.iconst 1, 1) := by decide +kernel
theorem dX1_firstOfMost_14 : decode cX1_firstOfMost 14 = .ok (.iand, 1) := by decide +kernel
theorem dX1_firstOfMost_15 : decode cX1_firstOfMost 15 = .ok (.ifCond .ne 7, 3) := by decide +kernel
theorem dX1_firstOfMost_18 : decode cX1_firstOfMost 18 = .ok (.iconst 1, 1) := by decide +kernel
theorem dX1_firstOfMost_19 : decode cX1_firstOfMost 19 = .ok (.goto 4, 3) := by decide +kernel
theorem dX1_firstOfMost_22 : decode cX1_firstOfMost 22 = .ok (.iconst 0, 1) := by decide +kernel
theorem dX1_firstOfMost_23 : decode cX1_firstOfMost 23 = .ok (.istore 5, 2) := by decide +kernel
theorem dX1_firstOfMost_25 : decode cX1_firstOfMost 25 = .ok (.iload 5, 2) := by decide +kernel
theorem dX1_firstOfMost_27 : decode cX1_firstOfMost 27 = .ok (.ifCond .eq 28, 3) := by decide +kernel
theorem dX1_firstOfMost_30 : decode cX1_firstOfMost 30 = .ok (.aload_n 0, 1) := by decide +kernel
theorem dX1_firstOfMost_31 : decode cX1_firstOfMost 31 = .ok (.iload_n 2, 1) := by decide +kernel
theorem dX1_firstOfMost_32 : decode cX1_firstOfMost 32 = .ok (.iload 4, 2) := by decide +kernel
theorem dX1_firstOfMost_34 : decode cX1_firstOfMost 34 = .ok (.iload_n 3, 1) := by decide +kernel
theorem dX1_firstOfMost_35 : decode cX1_firstOfMost 35 = .ok (.invokevirtual 50, 3) := by decide +kernel
theorem dX1_firstOfMost_38 : decode cX1_firstOfMost 38 = .ok (.aload_n 0, 1) := by decide +kernel
theorem dX1_firstOfMost_39 : decode cX1_firstOfMost 39 = .ok (.getfield 11, 3) := by decide +kernel
theorem dX1_firstOfMost_42 : decode cX1_firstOfMost 42 = .ok (.iload_n 2, 1) := by decide +kernel
theorem dX1_firstOfMost_43 : decode cX1_firstOfMost 43 = .ok (.bipush 64, 2) := by decide +kernel
theorem dX1_firstOfMost_45 : decode cX1_firstOfMost 45 = .ok (.imul, 1) := by decide +kernel
theorem dX1_firstOfMost_46 : decode cX1_firstOfMost 46 = .ok (.iload_n 3, 1) := by decide +kernel
theorem dX1_firstOfMost_47 : decode cX1_firstOfMost 47 = .ok (.iadd, 1) := by decide +kernel
theorem dX1_firstOfMost_48 : decode cX1_firstOfMost 48 = .ok (.iaload, 1) := by decide +kernel
theorem dX1_firstOfMost_49 : decode cX1_firstOfMost 49 = .ok (.if_icmp .ne 6, 3) := by decide +kernel
theorem dX1_firstOfMost_52 : decode cX1_firstOfMost 52 = .ok (.iload 4, 2) := by decide +kernel
theorem dX1_firstOfMost_54 : decode cX1_firstOfMost 54 = .ok (.ireturn, 1) := by decide +kernel
theorem dX1_firstOfMost_55 : decode cX1_firstOfMost 55 = .ok (.iinc 4 1, 3) := by decide +kernel
theorem dX1_firstOfMost_58 : decode cX1_firstOfMost 58 = .ok (.goto (-55), 3) := by decide +kernel
theorem dX1_firstOfMost_61 : decode cX1_firstOfMost 61 = .ok (.iconst (-1), 1) := by decide +kernel
theorem dX1_firstOfMost_62 : decode cX1_firstOfMost 62 = .ok (.ireturn, 1) := by decide +kernel
theorem dX2_init_0 : decode cX2_init 0 = .ok (.aload_n 0, 1) := by decide +kernel
theorem dX2_init_1 : decode cX2_init 1 = .ok (.invokespecial 3, 3) := by decide +kernel
theorem dX2_init_4 : decode cX2_init 4 = .ok (.aload_n 0, 1) := by decide +kernel
theorem dX2_init_5 : decode cX2_init 5 = .ok (.iconst 2, 1) := by decide +kernel
theorem dX2_init_6 : decode cX2_init 6 = .ok (.newarray .boolean, 2) := by decide +kernel
theorem dX2_init_8 : decode cX2_init 8 = .ok (.putfield 9, 3) := by decide +kernel
theorem dX2_init_11 : decode cX2_init 11 = .ok (.aload_n 0, 1) := by decide +kernel
theorem dX2_init_12 : decode cX2_init 12 = .ok (.bipush 8, 2) := by decide +kernel
theorem dX2_init_14 : decode cX2_init 14 = .ok (.newarray .int, 2) := by decide +kernel
theorem dX2_init_16 : decode cX2_init 16 = .ok (.putfield 15, 3) := by decide +kernel
theorem dX2_init_19 : decode cX2_init 19 = .ok (.aload_n 0, 1) := by decide +kernel
theorem dX2_init_20 : decode cX2_init 20 = .ok (.new 19, 3) := by decide +kernel
theorem dX2_init_23 : decode cX2_init 23 = .ok (.dup, 1) := by decide +kernel
theorem dX2_init_24 : decode cX2_init 24 = .ok (.invokespecial 21, 3) := by decide +kernel
theorem dX2_init_27 : decode cX2_init 27 = .ok (.putfield 22, 3) := by decide +kernel
theorem dX2_init_30 : decode cX2_init 30 = .ok (.return_, 1) := by decide +kernel
theorem dX2_weigh_0 : decode cX2_weigh 0 = .ok (.aload_n 1, 1) := by decide +kernel
theorem dX2_weigh_1 : decode cX2_weigh 1 = .ok (.getfield 26, 3) := by decide +kernel
theorem dX2_weigh_4 : decode cX2_weigh 4 = .ok (.iconst 1, 1) := by decide +kernel
theorem dX2_weigh_5 : decode cX2_weigh 5 = .ok (.invokevirtual 32, 3) := by decide +kernel
theorem dX2_weigh_8 : decode cX2_weigh 8 = .ok (.iconst 1, 1) := by decide +kernel
theorem dX2_weigh_9 : decode cX2_weigh 9 = .ok (.if_icmp .ne 7, 3) := by decide +kernel
theorem dX2_weigh_12 : decode cX2_weigh 12 = .ok (.iconst 1, 1) := by decide +kernel
theorem dX2_weigh_13 : decode cX2_weigh 13 = .ok (.goto 4, 3) := by decide +kernel
theorem dX2_weigh_16 : decode cX2_weigh 16 = .ok (.iconst 0, 1) := by decide +kernel
theorem dX2_weigh_17 : decode cX2_weigh 17 = .ok (.istore 4, 2) := by decide +kernel
theorem dX2_weigh_19 : decode cX2_weigh 19 = .ok (.aload_n 0, 1) := by decide +kernel
theorem dX2_weigh_20 : decode cX2_weigh 20 = .ok (.aload_n 1, 1) := by decide +kernel
theorem dX2_weigh_21 : decode cX2_weigh 21 = .ok (.iconst 0, 1) := by decide +kernel
theorem dX2_weigh_22 : decode cX2_weigh 22 = .ok (.iload_n 2, 1) := by decide +kernel
theorem dX2_weigh_23 : decode cX2_weigh 23 = .ok (.iload 4, 2) := by decide +kernel
theorem dX2_weigh_25 : decode cX2_weigh 25 = .ok (.ifCond .eq 12, 3) := by decide +kernel
theorem dX2_weigh_28 : decode cX2_weigh 28 = .ok (.iload_n 2, 1) := by decide +kernel
theorem dX2_weigh_29 : decode cX2_weigh 29 = .ok (.iload_n 3, 1) := by decide +kernel
theorem dX2_weigh_30 : decode cX2_weigh 30 = .ok (.if_icmp .le 7, 3) := by decide +kernel
theorem dX2_weigh_33 : decode cX2_weigh 33 = .ok (.iconst 1, 1) := by decide +kernel
theorem dX2_weigh_34 : decode cX2_weigh 34 = .ok (.goto 4, 3) := by decide +kernel
theorem dX2_weigh_37 : decode cX2_weigh 37 = .ok (.iconst 0, 1) := by decide +kernel
theorem dX2_weigh_38 : decode cX2_weigh 38 = .ok (.invokevirtual 38, 3) := by decide +kernel
theorem dX2_weigh_41 : decode cX2_weigh 41 = .ok (.aload_n 0, 1) := by decide +kernel
theorem dX2_weigh_42 : decode cX2_weigh 42 = .ok (.aload_n 1, 1) := by decide +kernel
theorem dX2_weigh_43 : decode cX2_weigh 43 = .ok (.iconst 1, 1) := by decide +kernel
theorem dX2_weigh_44 : decode cX2_weigh 44 = .ok (.iload_n 3, 1) := by decide +kernel
theorem dX2_weigh_45 : decode cX2_weigh 45 = .ok (.iload 4, 2) := by decide +kernel
theorem dX2_weigh_47 : decode cX2_weigh 47 = .ok (.ifCond .eq 12, 3) := by decide +kernel
theorem dX2_weigh_50 : decode cX2_weigh 50 = .ok (.iload_n 3, 1) := by decide +kernel
theorem dX2_weigh_51 : decode cX2_weigh 51 = .ok (.iload_n 2, 1) := by decide +kernel
theorem dX2_weigh_52 : decode cX2_weigh 52 = .ok (.if_icmp .le 7, 3) := by decide +kernel
theorem dX2_weigh_55 : decode cX2_weigh 55 = .ok (.iconst 1, 1) := by decide +kernel
theorem dX2_weigh_56 : decode cX2_weigh 56 = .ok (.goto 4, 3) := by decide +kernel
theorem dX2_weigh_59 : decode cX2_weigh 59 = .ok (.iconst 0, 1) := by decide +kernel
theorem dX2_weigh_60 : decode cX2_weigh 60 = .ok (.invokevirtual 38, 3) := by decide +kernel
theorem dX2_weigh_63 : decode cX2_weigh 63 = .ok (.return_, 1) := by decide +kernel
theorem dX2_weighSide_0 : decode cX2_weighSide 0 = .ok (.aload_n 1, 1) := by decide +kernel
theorem dX2_weighSide_1 : decode cX2_weighSide 1 = .ok (.getfield 26, 3) := by decide +kernel
theorem dX2_weighSide_4 : decode cX2_weighSide 4 = .ok (.getfield 42, 3) := by decide +kernel
theorem dX2_weighSide_7 : decode cX2_weighSide 7 = .ok (.iload_n 3, 1) := by decide +kernel
theorem dX2_weighSide_8 : decode cX2_weighSide 8 = .ok (.aaload, 1) := by decide +kernel
theorem dX2_weighSide_9 : decode cX2_weighSide 9 = .ok (.astore 5, 2) := by decide +kernel
theorem dX2_weighSide_11 : decode cX2_weighSide 11 = .ok (.aload_n 0, 1) := by decide +kernel
theorem dX2_weighSide_12 : decode cX2_weighSide 12 = .ok (.getfield 9, 3) := by decide +kernel
theorem dX2_weighSide_15 : decode cX2_weighSide 15 = .ok (.iload_n 2, 1) := by decide +kernel
theorem dX2_weighSide_16 : decode cX2_weighSide 16 = .ok (.aload_n 1, 1) := by decide +kernel
theorem dX2_weighSide_17 : decode cX2_weighSide 17 = .ok (.getfield 26, 3) := by decide +kernel
theorem dX2_weighSide_20 : decode cX2_weighSide 20 = .ok (.aload 5, 2) := by decide +kernel
theorem dX2_weighSide_22 : decode cX2_weighSide 22 = .ok (.iconst 1, 1) := by decide +kernel
theorem dX2_weighSide_23 : decode cX2_weighSide 23 = .ok (.invokevirtual 46, 3) := by decide +kernel
theorem dX2_weighSide_26 : decode cX2_weighSide 26 = .ok (.bastore, 1) := by decide +kernel
theorem dX2_weighSide_27 : decode cX2_weighSide 27 = .ok (.aload_n 0, 1) := by decide +kernel
theorem dX2_weighSide_28 : decode cX2_weighSide 28 = .ok (.aload_n 1, 1) := by decide +kernel
theorem dX2_weighSide_29 : decode cX2_weighSide 29 = .ok (.aload 5, 2) := by decide +kernel
theorem dX2_weighSide_31 : decode cX2_weighSide 31 = .ok (.iconst 0, 1) := by decide +kernel
theorem dX2_weighSide_32 : decode cX2_weighSide 32 = .ok (.invokevirtual 50, 3) := by decide +kernel
theorem dX2_weighSide_35 : decode cX2_weighSide 35 = .ok (.istore 6, 2) := by decide +kernel
theorem dX2_weighSide_37 : decode cX2_weighSide 37 = .ok (.aload_n 0, 1) := by decide +kernel
theorem dX2_weighSide_38 : decode cX2_weighSide 38 = .ok (.aload_n 1, 1) := by decide +kernel
theorem dX2_weighSide_39 : decode cX2_weighSide 39 = .ok (.aload 5, 2) := by decide +kernel
theorem dX2_weighSide_41 : decode cX2_weighSide 41 = .ok (.iconst 1, 1) := by decide +kernel
theorem dX2_weighSide_42 : decode cX2_weighSide 42 = .ok (.invokevirtual 50, 3) := by decide +kernel
theorem dX2_weighSide_45 : decode cX2_weighSide 45 = .ok (.istore 7, 2) := by decide +kernel
theorem dX2_weighSide_47 : decode cX2_weighSide 47 = .ok (.aload_n 0, 1) := by decide +kernel
theorem dX2_weighSide_48 : decode cX2_weighSide 48 = .ok (.getfield 15, 3) := by decide +kernel
theorem dX2_weighSide_51 : decode cX2_weighSide 51 = .ok (.iload_n 2, 1) := by decide +kernel
theorem dX2_weighSide_52 : decode cX2_weighSide 52 = .ok (.iconst 4, 1) := by decide +kernel
theorem dX2_weighSide_53 : decode cX2_weighSide 53 = .ok (.imul, 1) := by decide +kernel
theorem dX2_weighSide_54 : decode cX2_weighSide 54 = .ok (.iload 6, 2) := by decide +kernel
theorem dX2_weighSide_56 : decode cX2_weighSide 56 = .ok (.iastore, 1) := by decide +kernel
theorem dX2_weighSide_57 : decode cX2_weighSide 57 = .ok (.aload_n 0, 1) := by decide +kernel
theorem dX2_weighSide_58 : decode cX2_weighSide 58 = .ok (.getfield 15, 3) := by decide +kernel
theorem dX2_weighSide_61 : decode cX2_weighSide 61 = .ok (.iload_n 2, 1) := by decide +kernel
theorem dX2_weighSide_62 : decode cX2_weighSide 62 = .ok (.iconst 4, 1) := by decide +kernel
theorem dX2_weighSide_63 : decode cX2_weighSide 63 = .ok (.imul, 1) := by decide +kernel
theorem dX2_weighSide_64 : decode cX2_weighSide 64 = .ok (.iconst 1, 1) := by decide +kernel
theorem dX2_weighSide_65 : decode cX2_weighSide 65 = .ok (.iadd, 1) := by decide +kernel
theorem dX2_weighSide_66 : decode cX2_weighSide 66 = .ok (.iload 6, 2) := by decide +kernel
theorem dX2_weighSide_68 : decode cX2_weighSide 68 = .ok (.iastore, 1) := by decide +kernel
theorem dX2_weighSide_69 : decode cX2_weighSide 69 = .ok (.aload_n 0, 1) := by decide +kernel
theorem dX2_weighSide_70 : decode cX2_weighSide 70 = .ok (.getfield 15, 3) := by decide +kernel
theorem dX2_weighSide_73 : decode cX2_weighSide 73 = .ok (.iload_n 2, 1) := by decide +kernel
theorem dX2_weighSide_74 : decode cX2_weighSide 74 = .ok (.iconst 4, 1) := by decide +kernel
theorem dX2_weighSide_75 : decode cX2_weighSide 75 = .ok (.imul, 1) := by decide +kernel
theorem dX2_weighSide_76 : decode cX2_weighSide 76 = .ok (.iconst 2, 1) := by decide +kernel
theorem dX2_weighSide_77 : decode cX2_weighSide 77 = .ok (.iadd, 1) := by decide +kernel
theorem dX2_weighSide_78 : decode cX2_weighSide 78 = .ok (.iload 7, 2) := by decide +kernel
theorem dX2_weighSide_80 : decode cX2_weighSide 80 = .ok (.iastore, 1) := by decide +kernel
theorem dX2_weighSide_81 : decode cX2_weighSide 81 = .ok (.aload_n 0, 1) := by decide +kernel
theorem dX2_weighSide_82 : decode cX2_weighSide 82 = .ok (.getfield 15, 3) := by decide +kernel
theorem dX2_weighSide_85 : decode cX2_weighSide 85 = .ok (.iload_n 2, 1) := by decide +kernel
theorem dX2_weighSide_86 : decode cX2_weighSide 86 = .ok (.iconst 4, 1) := by decide +kernel
theorem dX2_weighSide_87 : decode cX2_weighSide 87 = .ok (.imul, 1) := by decide +kernel
theorem dX2_weighSide_88 : decode cX2_weighSide 88 = .ok (.iconst 3, 1) := by decide +kernel
theorem dX2_weighSide_89 : decode cX2_weighSide 89 = .ok (.iadd, 1) := by decide +kernel
theorem dX2_weighSide_90 : decode cX2_weighSide 90 = .ok (.iload 4, 2) := by decide +kernel
theorem dX2_weighSide_92 : decode cX2_weighSide 92 = .ok (.ifCond .eq 14, 3) := by decide +kernel
theorem dX2_weighSide_95 : decode cX2_weighSide 95 = .ok (.aload_n 0, 1) := by decide +kernel
theorem dX2_weighSide_96 : decode cX2_weighSide 96 = .ok (.aload_n 1, 1) := by decide +kernel
theorem dX2_weighSide_97 : decode cX2_weighSide 97 = .ok (.aload 5, 2) := by decide +kernel
theorem dX2_weighSide_99 : decode cX2_weighSide 99 = .ok (.iconst 2, 1) := by decide +kernel
theorem dX2_weighSide_100 : decode cX2_weighSide 100 = .ok (.invokevirtual 50, 3) := by decide +kernel
theorem dX2_weighSide_103 : decode cX2_weighSide 103 = .ok (.goto 5, 3) := by decide +kernel
theorem dX2_weighSide_106 : decode cX2_weighSide 106 = .ok (.iload 7, 2) := by decide +kernel
theorem dX2_weighSide_108 : decode cX2_weighSide 108 = .ok (.iastore, 1) := by decide +kernel
theorem dX2_weighSide_109 : decode cX2_weighSide 109 = .ok (.return_, 1) := by decide +kernel
theorem dX2_gainOf_0 : decode cX2_gainOf 0 = .ok (.aload_n 0, 1) := by decide +kernel
theorem dX2_gainOf_1 : decode cX2_gainOf 1 = .ok (.getfield 22, 3) := by decide +kernel
theorem dX2_gainOf_4 : decode cX2_gainOf 4 = .ok (.aload_n 2, 1) := by decide +kernel
theorem dX2_gainOf_5 : decode cX2_gainOf 5 = .ok (.invokevirtual 54, 3) := by decide +kernel
theorem dX2_gainOf_8 : decode cX2_gainOf 8 = .ok (.iload_n 3, 1) := by decide +kernel
theorem dX2_gainOf_9 : decode cX2_gainOf 9 = .ok (.iconst 1, 1) := by decide +kernel
theorem dX2_gainOf_10 : decode cX2_gainOf 10 = .ok (.if_icmp .ne 15, 3) := by decide +kernel
theorem dX2_gainOf_13 : decode cX2_gainOf 13 = .ok (.aload_n 1, 1) := by decide +kernel
theorem dX2_gainOf_14 : decode cX2_gainOf 14 = .ok (.aload_n 0, 1) := by decide +kernel
theorem dX2_gainOf_15 : decode cX2_gainOf 15 = .ok (.getfield 22, 3) := by decide +kernel
theorem dX2_gainOf_18 : decode cX2_gainOf 18 = .ok (.iconst 1, 1) := by decide +kernel
theorem dX2_gainOf_19 : decode cX2_gainOf 19 = .ok (.invokevirtual 58, 3) := by decide +kernel
theorem dX2_gainOf_22 : decode cX2_gainOf 22 = .ok (.goto 16, 3) := by decide +kernel
theorem dX2_gainOf_25 : decode cX2_gainOf 25 = .ok (.iload_n 3, 1) := by decide +kernel
theorem dX2_gainOf_26 : decode cX2_gainOf 26 = .ok (.iconst 2, 1) := by decide +kernel
theorem dX2_gainOf_27 : decode cX2_gainOf 27 = .ok (.if_icmp .ne 11, 3) := by decide +kernel
theorem dX2_gainOf_30 : decode cX2_gainOf 30 = .ok (.aload_n 0, 1) := by decide +kernel
theorem dX2_gainOf_31 : decode cX2_gainOf 31 = .ok (.getfield 22, 3) := by decide +kernel
theorem dX2_gainOf_34 : decode cX2_gainOf 34 = .ok (.iconst 2, 1) := by decide +kernel
theorem dX2_gainOf_35 : decode cX2_gainOf 35 = .ok (.invokevirtual 62, 3) := by decide +kernel
theorem dX2_gainOf_38 : decode cX2_gainOf 38 = .ok (.aload_n 1, 1) := by decide +kernel
theorem dX2_gainOf_39 : decode cX2_gainOf 39 = .ok (.aload_n 0, 1) := by decide +kernel
theorem dX2_gainOf_40 : decode cX2_gainOf 40 = .ok (.getfield 22, 3) := by decide +kernel
theorem dX2_gainOf_43 : decode cX2_gainOf 43 = .ok (.bipush 10, 2) := by decide +kernel
theorem dX2_gainOf_45 : decode cX2_gainOf 45 = .ok (.invokevirtual 66, 3) := by decide +kernel
theorem dX2_gainOf_48 : decode cX2_gainOf 48 = .ok (.aload_n 0, 1) := by decide +kernel
theorem dX2_gainOf_49 : decode cX2_gainOf 49 = .ok (.getfield 22, 3) := by decide +kernel
theorem dX2_gainOf_52 : decode cX2_gainOf 52 = .ok (.getfield 69, 3) := by decide +kernel
theorem dX2_gainOf_55 : decode cX2_gainOf 55 = .ok (.aload_n 2, 1) := by decide +kernel
theorem dX2_gainOf_56 : decode cX2_gainOf 56 = .ok (.getfield 69, 3) := by decide +kernel
theorem dX2_gainOf_59 : decode cX2_gainOf 59 = .ok (.isub, 1) := by decide +kernel
theorem dX2_gainOf_60 : decode cX2_gainOf 60 = .ok (.ireturn, 1) := by decide +kernel
theorem dX2_isAtRest_0 : decode cX2_isAtRest 0 = .ok (.aload_n 0, 1) := by decide +kernel
theorem dX2_isAtRest_1 : decode cX2_isAtRest 1 = .ok (.iconst 0, 1) := by decide +kernel
theorem dX2_isAtRest_2 : decode cX2_isAtRest 2 = .ok (.iload_n 1, 1) := by decide +kernel
theorem dX2_isAtRest_3 : decode cX2_isAtRest 3 = .ok (.iload_n 2, 1) := by decide +kernel
theorem dX2_isAtRest_4 : decode cX2_isAtRest 4 = .ok (.invokevirtual 73, 3) := by decide +kernel
theorem dX2_isAtRest_7 : decode cX2_isAtRest 7 = .ok (.ifCond .eq 17, 3) := by decide +kernel
theorem dX2_isAtRest_10 : decode cX2_isAtRest 10 = .ok (.aload_n 0, 1) := by decide +kernel
theorem dX2_isAtRest_11 : decode cX2_isAtRest 11 = .ok (.iconst 1, 1) := by decide +kernel
theorem dX2_isAtRest_12 : decode cX2_isAtRest 12 = .ok (.iload_n 2, 1) := by decide +kernel
theorem dX2_isAtRest_13 : decode cX2_isAtRest 13 = .ok (.iload_n 1, 1) := by decide +kernel
theorem dX2_isAtRest_14 : decode cX2_isAtRest 14 = .ok (.invokevirtual 73, 3) := by decide +kernel
theorem dX2_isAtRest_17 : decode cX2_isAtRest 17 = .ok (.ifCond .eq 7, 3) := by decide +kernel
theorem dX2_isAtRest_20 : decode cX2_isAtRest 20 = .ok (.iconst 1, 1) := by decide +kernel
theorem dX2_isAtRest_21 : decode cX2_isAtRest 21 = .ok (.goto 4, 3) := by decide +kernel
theorem dX2_isAtRest_24 : decode cX2_isAtRest 24 = .ok (.iconst 0, 1) := by decide +kernel
theorem dX2_isAtRest_25 : decode cX2_isAtRest 25 = .ok (.ireturn, 1) := by decide +kernel
theorem dX2_isContent_0 : decode cX2_isContent 0 = .ok (.aload_n 0, 1) := by decide +kernel
theorem dX2_isContent_1 : decode cX2_isContent 1 = .ok (.getfield 9, 3) := by decide +kernel
theorem dX2_isContent_4 : decode cX2_isContent 4 = .ok (.iload_n 1, 1) := by decide +kernel
theorem dX2_isContent_5 : decode cX2_isContent 5 = .ok (.baload, 1) := by decide +kernel
theorem dX2_isContent_6 : decode cX2_isContent 6 = .ok (.ifCond .ne 13, 3) := by decide +kernel
theorem dX2_isContent_9 : decode cX2_isContent 9 = .ok (.iload_n 2, 1) := by decide +kernel
theorem dX2_isContent_10 : decode cX2_isContent 10 = .ok (.ifCond .ne 7, 3) := by decide +kernel
theorem dX2_isContent_13 : decode cX2_isContent 13 = .ok (.iconst 1, 1) := by decide +kernel
theorem dX2_isContent_14 : decode cX2_isContent 14 = .ok (.goto 4, 3) := by decide +kernel
theorem dX2_isContent_17 : decode cX2_isContent 17 = .ok (.iconst 0, 1) := by decide +kernel
theorem dX2_isContent_18 : decode cX2_isContent 18 = .ok (.ireturn, 1) := by decide +kernel
theorem dX2_isContent_19 : decode cX2_isContent 19 = .ok (.aload_n 0, 1) := by decide +kernel
theorem dX2_isContent_20 : decode cX2_isContent 20 = .ok (.getfield 15, 3) := by decide +kernel
theorem dX2_isContent_23 : decode cX2_isContent 23 = .ok (.iload_n 1, 1) := by decide +kernel
theorem dX2_isContent_24 : decode cX2_isContent 24 = .ok (.iconst 4, 1) := by decide +kernel
theorem dX2_isContent_25 : decode cX2_isContent 25 = .ok (.imul, 1) := by decide +kernel
theorem dX2_isContent_26 : decode cX2_isContent 26 = .ok (.iload_n 2, 1) := by decide +kernel
theorem dX2_isContent_27 : decode cX2_isContent 27 = .ok (.iconst 2, 1) := by decide +kernel
theorem dX2_isContent_28 : decode cX2_isContent 28 = .ok (.imul, 1) := by decide +kernel
theorem dX2_isContent_29 : decode cX2_isContent 29 = .ok (.iadd, 1) := by decide +kernel
theorem dX2_isContent_30 : decode cX2_isContent 30 = .ok (.iload_n 3, 1) := by decide +kernel
theorem dX2_isContent_31 : decode cX2_isContent 31 = .ok (.iadd, 1) := by decide +kernel
theorem dX2_isContent_32 : decode cX2_isContent 32 = .ok (.iaload, 1) := by decide +kernel
theorem dX2_isContent_33 : decode cX2_isContent 33 = .ok (.aload_n 0, 1) := by decide +kernel
theorem dX2_isContent_34 : decode cX2_isContent 34 = .ok (.getfield 15, 3) := by decide +kernel
theorem dX2_isContent_37 : decode cX2_isContent 37 = .ok (.iload_n 1, 1) := by decide +kernel
theorem dX2_isContent_38 : decode cX2_isContent 38 = .ok (.iconst 4, 1) := by decide +kernel
theorem dX2_isContent_39 : decode cX2_isContent 39 = .ok (.imul, 1) := by decide +kernel
theorem dX2_isContent_40 : decode cX2_isContent 40 = .ok (.iconst 1, 1) := by decide +kernel
theorem dX2_isContent_41 : decode cX2_isContent 41 = .ok (.iload_n 2, 1) := by decide +kernel
theorem dX2_isContent_42 : decode cX2_isContent 42 = .ok (.isub, 1) := by decide +kernel
theorem dX2_isContent_43 : decode cX2_isContent 43 = .ok (.iconst 2, 1) := by decide +kernel
theorem dX2_isContent_44 : decode cX2_isContent 44 = .ok (.imul, 1) := by decide +kernel
theorem dX2_isContent_45 : decode cX2_isContent 45 = .ok (.iadd, 1) := by decide +kernel
theorem dX2_isContent_46 : decode cX2_isContent 46 = .ok (.iload_n 3, 1) := by decide +kernel
theorem dX2_isContent_47 : decode cX2_isContent 47 = .ok (.iadd, 1) := by decide +kernel
theorem dX2_isContent_48 : decode cX2_isContent 48 = .ok (.iaload, 1) := by decide +kernel
theorem dX2_isContent_49 : decode cX2_isContent 49 = .ok (.if_icmp .lt 7, 3) := by decide +kernel
theorem dX2_isContent_52 : decode cX2_isContent 52 = .ok (.iconst 1, 1) := by decide +kernel
theorem dX2_isContent_53 : decode cX2_isContent 53 = .ok (.goto 4, 3) := by decide +kernel
theorem dX2_isContent_56 : decode cX2_isContent 56 = .ok (.iconst 0, 1) := by decide +kernel
theorem dX2_isContent_57 : decode cX2_isContent 57 = .ok (.ireturn, 1) := by decide +kernel
theorem dX3_init_0 : decode cX3_init 0 = .ok (.aload_n 0, 1) := by decide +kernel
theorem dX3_init_1 : decode cX3_init 1 = .ok (.invokespecial 1, 3) := by decide +kernel
theorem dX3_init_4 : decode cX3_init 4 = .ok (.aload_n 0, 1) := by decide +kernel
theorem dX3_init_5 : decode cX3_init 5 = .ok (.bipush 37, 2) := by decide +kernel
theorem dX3_init_7 : decode cX3_init 7 = .ok (.newarray .int, 2) := by decide +kernel
theorem dX3_init_9 : decode cX3_init 9 = .ok (.putfield 9, 3) := by decide +kernel
theorem dX3_init_12 : decode cX3_init 12 = .ok (.aload_n 0, 1) := by decide +kernel
theorem dX3_init_13 : decode cX3_init 13 = .ok (.new 15, 3) := by decide +kernel
theorem dX3_init_16 : decode cX3_init 16 = .ok (.dup, 1) := by decide +kernel
theorem dX3_init_17 : decode cX3_init 17 = .ok (.invokespecial 17, 3) := by decide +kernel
theorem dX3_init_20 : decode cX3_init 20 = .ok (.putfield 18, 3) := by decide +kernel
theorem dX3_init_23 : decode cX3_init 23 = .ok (.aload_n 0, 1) := by decide +kernel
theorem dX3_init_24 : decode cX3_init 24 = .ok (.new 22, 3) := by decide +kernel
theorem dX3_init_27 : decode cX3_init 27 = .ok (.dup, 1) := by decide +kernel
theorem dX3_init_28 : decode cX3_init 28 = .ok (.invokespecial 24, 3) := by decide +kernel
theorem dX3_init_31 : decode cX3_init 31 = .ok (.putfield 25, 3) := by decide +kernel
theorem dX3_init_34 : decode cX3_init 34 = .ok (.aload_n 0, 1) := by decide +kernel
theorem dX3_init_35 : decode cX3_init 35 = .ok (.iconst 3, 1) := by decide +kernel
theorem dX3_init_36 : decode cX3_init 36 = .ok (.newarray .int, 2) := by decide +kernel
theorem dX3_init_38 : decode cX3_init 38 = .ok (.putfield 29, 3) := by decide +kernel
theorem dX3_init_41 : decode cX3_init 41 = .ok (.return_, 1) := by decide +kernel
theorem dX4_init_0 : decode cX4_init 0 = .ok (.aload_n 0, 1) := by decide +kernel
theorem dX4_init_1 : decode cX4_init 1 = .ok (.invokespecial 3, 3) := by decide +kernel
theorem dX4_init_4 : decode cX4_init 4 = .ok (.return_, 1) := by decide +kernel
theorem dX4_become_0 : decode cX4_become 0 = .ok (.aload_n 0, 1) := by decide +kernel
theorem dX4_become_1 : decode cX4_become 1 = .ok (.aload_n 1, 1) := by decide +kernel
theorem dX4_become_2 : decode cX4_become 2 = .ok (.getfield 9, 3) := by decide +kernel
theorem dX4_become_5 : decode cX4_become 5 = .ok (.putfield 9, 3) := by decide +kernel
theorem dX4_become_8 : decode cX4_become 8 = .ok (.aload_n 0, 1) := by decide +kernel
theorem dX4_become_9 : decode cX4_become 9 = .ok (.aload_n 1, 1) := by decide +kernel
theorem dX4_become_10 : decode cX4_become 10 = .ok (.getfield 15, 3) := by decide +kernel
theorem dX4_become_13 : decode cX4_become 13 = .ok (.putfield 15, 3) := by decide +kernel
theorem dX4_become_16 : decode cX4_become 16 = .ok (.aload_n 0, 1) := by decide +kernel
theorem dX4_become_17 : decode cX4_become 17 = .ok (.aload_n 1, 1) := by decide +kernel
theorem dX4_become_18 : decode cX4_become 18 = .ok (.getfield 18, 3) := by decide +kernel
theorem dX4_become_21 : decode cX4_become 21 = .ok (.putfield 18, 3) := by decide +kernel
theorem dX4_become_24 : decode cX4_become 24 = .ok (.aload_n 0, 1) := by decide +kernel
theorem dX4_become_25 : decode cX4_become 25 = .ok (.aload_n 1, 1) := by decide +kernel
theorem dX4_become_26 : decode cX4_become 26 = .ok (.getfield 21, 3) := by decide +kernel
theorem dX4_become_29 : decode cX4_become 29 = .ok (.putfield 21, 3) := by decide +kernel
theorem dX4_become_32 : decode cX4_become 32 = .ok (.aload_n 0, 1) := by decide +kernel
theorem dX4_become_33 : decode cX4_become 33 = .ok (.aload_n 1, 1) := by decide +kernel
theorem dX4_become_34 : decode cX4_become 34 = .ok (.getfield 24, 3) := by decide +kernel
theorem dX4_become_37 : decode cX4_become 37 = .ok (.putfield 24, 3) := by decide +kernel
theorem dX4_become_40 : decode cX4_become 40 = .ok (.aload_n 0, 1) := by decide +kernel
theorem dX4_become_41 : decode cX4_become 41 = .ok (.aload_n 1, 1) := by decide +kernel
theorem dX4_become_42 : decode cX4_become 42 = .ok (.getfield 27, 3) := by decide +kernel
theorem dX4_become_45 : decode cX4_become 45 = .ok (.putfield 27, 3) := by decide +kernel
theorem dX4_become_48 : decode cX4_become 48 = .ok (.return_, 1) := by decide +kernel
theorem dX4_write_0 : decode cX4_write 0 = .ok (.iload_n 2, 1) := by decide +kernel
theorem dX4_write_1 : decode cX4_write 1 = .ok (.ifCond .lt 11, 3) := by decide +kernel
theorem dX4_write_4 : decode cX4_write 4 = .ok (.iload_n 2, 1) := by decide +kernel
theorem dX4_write_5 : decode cX4_write 5 = .ok (.aload_n 1, 1) := by decide +kernel
theorem dX4_write_6 : decode cX4_write 6 = .ok (.arraylength, 1) := by decide +kernel
theorem dX4_write_7 : decode cX4_write 7 = .ok (.iconst 5, 1) := by decide +kernel
theorem dX4_write_8 : decode cX4_write 8 = .ok (.isub, 1) := by decide +kernel
theorem dX4_write_9 : decode cX4_write 9 = .ok (.if_icmp .le 4, 3) := by decide +kernel
theorem dX4_write_12 : decode cX4_write 12 = .ok (.return_, 1) := by decide +kernel
theorem dX4_write_13 : decode cX4_write 13 = .ok (.aload_n 1, 1) := by decide +kernel
theorem dX4_write_14 : decode cX4_write 14 = .ok (.iload_n 2, 1) := by decide +kernel
theorem dX4_write_15 : decode cX4_write 15 = .ok (.aload_n 0, 1) := by decide +kernel
theorem dX4_write_16 : decode cX4_write 16 = .ok (.getfield 9, 3) := by decide +kernel
theorem dX4_write_19 : decode cX4_write 19 = .ok (.iastore, 1) := by decide +kernel
theorem dX4_write_20 : decode cX4_write 20 = .ok (.aload_n 1, 1) := by decide +kernel
theorem dX4_write_21 : decode cX4_write 21 = .ok (.iload_n 2, 1) := by decide +kernel
theorem dX4_write_22 : decode cX4_write 22 = .ok (.iconst 1, 1) := by decide +kernel
theorem dX4_write_23 : decode cX4_write 23 = .ok (.iadd, 1) := by decide +kernel
theorem dX4_write_24 : decode cX4_write 24 = .ok (.aload_n 0, 1) := by decide +kernel
theorem dX4_write_25 : decode cX4_write 25 = .ok (.getfield 15, 3) := by decide +kernel
theorem dX4_write_28 : decode cX4_write 28 = .ok (.iastore, 1) := by decide +kernel
theorem dX4_write_29 : decode cX4_write 29 = .ok (.aload_n 1, 1) := by decide +kernel
theorem dX4_write_30 : decode cX4_write 30 = .ok (.iload_n 2, 1) := by decide +kernel
theorem dX4_write_31 : decode cX4_write 31 = .ok (.iconst 2, 1) := by decide +kernel
theorem dX4_write_32 : decode cX4_write 32 = .ok (.iadd, 1) := by decide +kernel
theorem dX4_write_33 : decode cX4_write 33 = .ok (.aload_n 0, 1) := by decide +kernel
theorem dX4_write_34 : decode cX4_write 34 = .ok (.getfield 18, 3) := by decide +kernel
theorem dX4_write_37 : decode cX4_write 37 = .ok (.iastore, 1) := by decide +kernel
theorem dX4_write_38 : decode cX4_write 38 = .ok (.aload_n 1, 1) := by decide +kernel
theorem dX4_write_39 : decode cX4_write 39 = .ok (.iload_n 2, 1) := by decide +kernel
theorem dX4_write_40 : decode cX4_write 40 = .ok (.iconst 3, 1) := by decide +kernel
theorem dX4_write_41 : decode cX4_write 41 = .ok (.iadd, 1) := by decide +kernel
theorem dX4_write_42 : decode cX4_write 42 = .ok (.aload_n 0, 1) := by decide +kernel
theorem dX4_write_43 : decode cX4_write 43 = .ok (.getfield 21, 3) := by decide +kernel
theorem dX4_write_46 : decode cX4_write 46 = .ok (.iastore, 1) := by decide +kernel
theorem dX4_write_47 : decode cX4_write 47 = .ok (.aload_n 1, 1) := by decide +kernel
theorem dX4_write_48 : decode cX4_write 48 = .ok (.iload_n 2, 1) := by decide +kernel
theorem dX4_write_49 : decode cX4_write 49 = .ok (.iconst 4, 1) := by decide +kernel
theorem dX4_write_50 : decode cX4_write 50 = .ok (.iadd, 1) := by decide +kernel
theorem dX4_write_51 : decode cX4_write 51 = .ok (.aload_n 0, 1) := by decide +kernel
theorem dX4_write_52 : decode cX4_write 52 = .ok (.getfield 24, 3) := by decide +kernel
theorem dX4_write_55 : decode cX4_write 55 = .ok (.iastore, 1) := by decide +kernel
theorem dX4_write_56 : decode cX4_write 56 = .ok (.return_, 1) := by decide +kernel
theorem dX4_read_0 : decode cX4_read 0 = .ok (.iload_n 2, 1) := by decide +kernel
theorem dX4_read_1 : decode cX4_read 1 = .ok (.ifCond .lt 11, 3) := by decide +kernel
theorem dX4_read_4 : decode cX4_read 4 = .ok (.iload_n 2, 1) := by decide +kernel
theorem dX4_read_5 : decode cX4_read 5 = .ok (.aload_n 1, 1) := by decide +kernel
theorem dX4_read_6 : decode cX4_read 6 = .ok (.arraylength, 1) := by decide +kernel
theorem dX4_read_7 : decode cX4_read 7 = .ok (.iconst 5, 1) := by decide +kernel
theorem dX4_read_8 : decode cX4_read 8 = .ok (.isub, 1) := by decide +kernel
theorem dX4_read_9 : decode cX4_read 9 = .ok (.if_icmp .le 4, 3) := by decide +kernel
theorem dX4_read_12 : decode cX4_read 12 = .ok (.return_, 1) := by decide +kernel
theorem dX4_read_13 : decode cX4_read 13 = .ok (.aload_n 0, 1) := by decide +kernel
theorem dX4_read_14 : decode cX4_read 14 = .ok (.aload_n 1, 1) := by decide +kernel
theorem dX4_read_15 : decode cX4_read 15 = .ok (.iload_n 2, 1) := by decide +kernel
theorem dX4_read_16 : decode cX4_read 16 = .ok (.iaload, 1) := by decide +kernel
theorem dX4_read_17 : decode cX4_read 17 = .ok (.putfield 9, 3) := by decide +kernel
theorem dX4_read_20 : decode cX4_read 20 = .ok (.aload_n 0, 1) := by decide +kernel
theorem dX4_read_21 : decode cX4_read 21 = .ok (.aload_n 1, 1) := by decide +kernel
theorem dX4_read_22 : decode cX4_read 22 = .ok (.iload_n 2, 1) := by decide +kernel
theorem dX4_read_23 : decode cX4_read 23 = .ok (.iconst 1, 1) := by decide +kernel
theorem dX4_read_24 : decode cX4_read 24 = .ok (.iadd, 1) := by decide +kernel
theorem dX4_read_25 : decode cX4_read 25 = .ok (.iaload, 1) := by decide +kernel
theorem dX4_read_26 : decode cX4_read 26 = .ok (.putfield 15, 3) := by decide +kernel
theorem dX4_read_29 : decode cX4_read 29 = .ok (.aload_n 0, 1) := by decide +kernel
theorem dX4_read_30 : decode cX4_read 30 = .ok (.aload_n 1, 1) := by decide +kernel
theorem dX4_read_31 : decode cX4_read 31 = .ok (.iload_n 2, 1) := by decide +kernel
theorem dX4_read_32 : decode cX4_read 32 = .ok (.iconst 2, 1) := by decide +kernel
theorem dX4_read_33 : decode cX4_read 33 = .ok (.iadd, 1) := by decide +kernel
theorem dX4_read_34 : decode cX4_read 34 = .ok (.iaload, 1) := by decide +kernel
theorem dX4_read_35 : decode cX4_read 35 = .ok (.putfield 18, 3) := by decide +kernel
theorem dX4_read_38 : decode cX4_read 38 = .ok (.aload_n 0, 1) := by decide +kernel
theorem dX4_read_39 : decode cX4_read 39 = .ok (.aload_n 1, 1) := by decide +kernel
theorem dX4_read_40 : decode cX4_read 40 = .ok (.iload_n 2, 1) := by decide +kernel
theorem dX4_read_41 : decode cX4_read 41 = .ok (.iconst 3, 1) := by decide +kernel
theorem dX4_read_42 : decode cX4_read 42 = .ok (.iadd, 1) := by decide +kernel
theorem dX4_read_43 : decode cX4_read 43 = .ok (.iaload, 1) := by decide +kernel
theorem dX4_read_44 : decode cX4_read 44 = .ok (.putfield 21, 3) := by decide +kernel
theorem dX4_read_47 : decode cX4_read 47 = .ok (.aload_n 0, 1) := by decide +kernel
theorem dX4_read_48 : decode cX4_read 48 = .ok (.aload_n 1, 1) := by decide +kernel
theorem dX4_read_49 : decode cX4_read 49 = .ok (.iload_n 2, 1) := by decide +kernel
theorem dX4_read_50 : decode cX4_read 50 = .ok (.iconst 4, 1) := by decide +kernel
theorem dX4_read_51 : decode cX4_read 51 = .ok (.iadd, 1) := by decide +kernel
theorem dX4_read_52 : decode cX4_read 52 = .ok (.iaload, 1) := by decide +kernel
theorem dX4_read_53 : decode cX4_read 53 = .ok (.putfield 24, 3) := by decide +kernel
theorem dX4_read_56 : decode cX4_read 56 = .ok (.return_, 1) := by decide +kernel
theorem dX4_addSore_0 : decode cX4_addSore 0 = .ok (.aload_n 0, 1) := by decide +kernel
theorem dX4_addSore_1 : decode cX4_addSore 1 = .ok (.iconst 0, 1) := by decide +kernel
theorem dX4_addSore_2 : decode cX4_addSore 2 = .ok (.bipush 9, 2) := by decide +kernel
theorem dX4_addSore_4 : decode cX4_addSore 4 = .ok (.aload_n 0, 1) := by decide +kernel
theorem dX4_addSore_5 : decode cX4_addSore 5 = .ok (.getfield 15, 3) := by decide +kernel
theorem dX4_addSore_8 : decode cX4_addSore 8 = .ok (.iload_n 1, 1) := by decide +kernel
theorem dX4_addSore_9 : decode cX4_addSore 9 = .ok (.iadd, 1) := by decide +kernel
theorem dX4_addSore_10 : decode cX4_addSore 10 = .ok (.invokestatic 30, 3) := by decide +kernel
theorem dX4_addSore_13 : decode cX4_addSore 13 = .ok (.invokestatic 36, 3) := by decide +kernel
theorem dX4_addSore_16 : decode cX4_addSore 16 = .ok (.putfield 15, 3) := by decide +kernel
theorem dX4_addSore_19 : decode cX4_addSore 19 = .ok (.return_, 1) := by decide +kernel
theorem dX4_isAwayIn_0 : decode cX4_isAwayIn 0 = .ok (.aload_n 0, 1) := by decide +kernel
theorem dX4_isAwayIn_1 : decode cX4_isAwayIn 1 = .ok (.getfield 24, 3) := by decide +kernel
theorem dX4_isAwayIn_4 : decode cX4_isAwayIn 4 = .ok (.iload_n 1, 1) := by decide +kernel
theorem dX4_isAwayIn_5 : decode cX4_isAwayIn 5 = .ok (.iconst 1, 1) := by decide +kernel
theorem dX4_isAwayIn_6 : decode cX4_isAwayIn 6 = .ok (.isub, 1) := by decide +kernel
theorem dX4_isAwayIn_7 : decode cX4_isAwayIn 7 = .ok (.ishr, 1) := by decide +kernel
theorem dX4_isAwayIn_8 : decode cX4_isAwayIn 8 = .ok (.iconst 1, 1) := by decide +kernel
theorem dX4_isAwayIn_9 : decode cX4_isAwayIn 9 = .ok (.iand, 1) := by decide +kernel
theorem dX4_isAwayIn_10 : decode cX4_isAwayIn 10 = .ok (.iconst 1, 1) := by decide +kernel
theorem dX4_isAwayIn_11 : decode cX4_isAwayIn 11 = .ok (.if_icmp .ne 7, 3) := by decide +kernel
theorem dX4_isAwayIn_14 : decode cX4_isAwayIn 14 = .ok (.iconst 1, 1) := by decide +kernel
theorem dX4_isAwayIn_15 : decode cX4_isAwayIn 15 = .ok (.goto 4, 3) := by decide +kernel
theorem dX4_isAwayIn_18 : decode cX4_isAwayIn 18 = .ok (.iconst 0, 1) := by decide +kernel
theorem dX4_isAwayIn_19 : decode cX4_isAwayIn 19 = .ok (.ireturn, 1) := by decide +kernel
theorem dX5_init_0 : decode cX5_init 0 = .ok (.aload_n 0, 1) := by decide +kernel
theorem dX5_init_1 : decode cX5_init 1 = .ok (.invokespecial 3, 3) := by decide +kernel
theorem dX5_init_4 : decode cX5_init 4 = .ok (.aload_n 0, 1) := by decide +kernel
theorem dX5_init_5 : decode cX5_init 5 = .ok (.sipush 700, 3) := by decide +kernel
theorem dX5_init_8 : decode cX5_init 8 = .ok (.newarray .byte, 2) := by decide +kernel
theorem dX5_init_10 : decode cX5_init 10 = .ok (.putfield 9, 3) := by decide +kernel
theorem dX5_init_13 : decode cX5_init 13 = .ok (.aload_n 0, 1) := by decide +kernel
theorem dX5_init_14 : decode cX5_init 14 = .ok (.new 15, 3) := by decide +kernel
theorem dX5_init_17 : decode cX5_init 17 = .ok (.dup, 1) := by decide +kernel
theorem dX5_init_18 : decode cX5_init 18 = .ok (.invokespecial 17, 3) := by decide +kernel
theorem dX5_init_21 : decode cX5_init 21 = .ok (.putfield 18, 3) := by decide +kernel
theorem dX5_init_24 : decode cX5_init 24 = .ok (.return_, 1) := by decide +kernel
theorem dX5_readSchool_0 : decode cX5_readSchool 0 = .ok (.aload_n 0, 1) := by decide +kernel
theorem dX5_readSchool_1 : decode cX5_readSchool 1 = .ok (.iconst 0, 1) := by decide +kernel
theorem dX5_readSchool_2 : decode cX5_readSchool 2 = .ok (.iload_n 1, 1) := by decide +kernel
theorem dX5_readSchool_3 : decode cX5_readSchool 3 = .ok (.aload_n 0, 1) := by decide +kernel
theorem dX5_readSchool_4 : decode cX5_readSchool 4 = .ok (.getfield 9, 3) := by decide +kernel
theorem dX5_readSchool_7 : decode cX5_readSchool 7 = .ok (.arraylength, 1) := by decide +kernel
theorem dX5_readSchool_8 : decode cX5_readSchool 8 = .ok (.invokestatic 22, 3) := by decide +kernel
theorem dX5_readSchool_11 : decode cX5_readSchool 11 = .ok (.invokestatic 28, 3) := by decide +kernel
theorem dX5_readSchool_14 : decode cX5_readSchool 14 = .ok (.putfield 31, 3) := by decide +kernel
theorem dX5_readSchool_17 : decode cX5_readSchool 17 = .ok (.aload_n 0, 1) := by decide +kernel
theorem dX5_readSchool_18 : decode cX5_readSchool 18 = .ok (.getfield 18, 3) := by decide +kernel
theorem dX5_readSchool_21 : decode cX5_readSchool 21 = .ok (.invokevirtual 35, 3) := by decide +kernel
theorem dX5_readSchool_24 : decode cX5_readSchool 24 = .ok (.aload_n 0, 1) := by decide +kernel
theorem dX5_readSchool_25 : decode cX5_readSchool 25 = .ok (.iconst 0, 1) := by decide +kernel
theorem dX5_readSchool_26 : decode cX5_readSchool 26 = .ok (.putfield 38, 3) := by decide +kernel
theorem dX5_readSchool_29 : decode cX5_readSchool 29 = .ok (.aload_n 0, 1) := by decide +kernel
theorem dX5_readSchool_30 : decode cX5_readSchool 30 = .ok (.iconst 0, 1) := by decide +kernel
theorem dX5_readSchool_31 : decode cX5_readSchool 31 = .ok (.putfield 41, 3) := by decide +kernel
theorem dX5_readSchool_34 : decode cX5_readSchool 34 = .ok (.aload_n 0, 1) := by decide +kernel
theorem dX5_readSchool_35 : decode cX5_readSchool 35 = .ok (.iconst (-1), 1) := by decide +kernel
theorem dX5_readSchool_36 : decode cX5_readSchool 36 = .ok (.putfield 44, 3) := by decide +kernel
theorem dX5_readSchool_39 : decode cX5_readSchool 39 = .ok (.aload_n 0, 1) := by decide +kernel
theorem dX5_readSchool_40 : decode cX5_readSchool 40 = .ok (.iconst 0, 1) := by decide +kernel
theorem dX5_readSchool_41 : decode cX5_readSchool 41 = .ok (.putfield 47, 3) := by decide +kernel
theorem dX5_readSchool_44 : decode cX5_readSchool 44 = .ok (.aload_n 0, 1) := by decide +kernel
theorem dX5_readSchool_45 : decode cX5_readSchool 45 = .ok (.invokevirtual 51, 3) := by decide +kernel
theorem dX5_readSchool_48 : decode cX5_readSchool 48 = .ok (.iconst 0, 1) := by decide +kernel
theorem dX5_readSchool_49 : decode cX5_readSchool 49 = .ok (.istore_n 2, 1) := by decide +kernel
theorem dX5_readSchool_50 : decode cX5_readSchool 50 = .ok (.iload_n 2, 1) := by decide +kernel
theorem dX5_readSchool_51 : decode cX5_readSchool 51 = .ok (.sipush 700, 3) := by decide +kernel
theorem dX5_readSchool_54 : decode cX5_readSchool 54 = .ok (.if_icmp .ge 27, 3) := by decide +kernel
theorem dX5_readSchool_57 : decode cX5_readSchool 57 = .ok (.aload_n 0, 1) := by decide +kernel
theorem dX5_readSchool_58 : decode cX5_readSchool 58 = .ok (.getfield 54, 3) := by decide +kernel
theorem dX5_readSchool_61 : decode cX5_readSchool 61 = .ok (.ifCond .eq 20, 3) := by decide +kernel
theorem dX5_readSchool_64 : decode cX5_readSchool 64 = .ok (.aload_n 0, 1) := by decide +kernel
theorem dX5_readSchool_65 : decode cX5_readSchool 65 = .ok (.getfield 41, 3) := by decide +kernel
theorem dX5_readSchool_68 : decode cX5_readSchool 68 = .ok (.ifCond .ne 13, 3) := by decide +kernel
theorem dX5_readSchool_71 : decode cX5_readSchool 71 = .ok (.aload_n 0, 1) := by decide +kernel
theorem dX5_readSchool_72 : decode cX5_readSchool 72 = .ok (.invokevirtual 57, 3) := by decide +kernel
theorem dX5_readSchool_75 : decode cX5_readSchool 75 = .ok (.iinc 2 1, 3) := by decide +kernel
theorem dX5_readSchool_78 : decode cX5_readSchool 78 = .ok (.goto (-28), 3) := by decide +kernel
theorem dX5_readSchool_81 : decode cX5_readSchool 81 = .ok (.return_, 1) := by decide +kernel
theorem dX5_readLine_0 : decode cX5_readLine 0 = .ok (.aload_n 0, 1) := by decide +kernel
theorem dX5_readLine_1 : decode cX5_readLine 1 = .ok (.ldc 60, 2) := by decide +kernel
theorem dX5_readLine_3 : decode cX5_readLine 3 = .ok (.invokevirtual 62, 3) := by decide +kernel
theorem dX5_readLine_6 : decode cX5_readLine 6 = .ok (.ifCond .ne 12, 3) := by decide +kernel
theorem dX5_readLine_9 : decode cX5_readLine 9 = .ok (.aload_n 0, 1) := by decide +kernel
theorem dX5_readLine_10 : decode cX5_readLine 10 = .ok (.ldc 66, 2) := by decide +kernel
theorem dX5_readLine_12 : decode cX5_readLine 12 = .ok (.invokevirtual 62, 3) := by decide +kernel
theorem dX5_readLine_15 : decode cX5_readLine 15 = .ok (.ifCond .eq 10, 3) := by decide +kernel
theorem dX5_readLine_18 : decode cX5_readLine 18 = .ok (.aload_n 0, 1) := by decide +kernel
theorem dX5_readLine_19 : decode cX5_readLine 19 = .ok (.invokevirtual 68, 3) := by decide +kernel
theorem dX5_readLine_22 : decode cX5_readLine 22 = .ok (.goto 65, 3) := by decide +kernel
theorem dX5_readLine_25 : decode cX5_readLine 25 = .ok (.aload_n 0, 1) := by decide +kernel
theorem dX5_readLine_26 : decode cX5_readLine 26 = .ok (.ldc 71, 2) := by decide +kernel
theorem dX5_readLine_28 : decode cX5_readLine 28 = .ok (.invokevirtual 62, 3) := by decide +kernel
theorem dX5_readLine_31 : decode cX5_readLine 31 = .ok (.ifCond .ne 12, 3) := by decide +kernel
theorem dX5_readLine_34 : decode cX5_readLine 34 = .ok (.aload_n 0, 1) := by decide +kernel
theorem dX5_readLine_35 : decode cX5_readLine 35 = .ok (.ldc 73, 2) := by decide +kernel
theorem dX5_readLine_37 : decode cX5_readLine 37 = .ok (.invokevirtual 62, 3) := by decide +kernel
theorem dX5_readLine_40 : decode cX5_readLine 40 = .ok (.ifCond .eq 10, 3) := by decide +kernel
theorem dX5_readLine_43 : decode cX5_readLine 43 = .ok (.aload_n 0, 1) := by decide +kernel
theorem dX5_readLine_44 : decode cX5_readLine 44 = .ok (.invokevirtual 75, 3) := by decide +kernel
theorem dX5_readLine_47 : decode cX5_readLine 47 = .ok (.goto 40, 3) := by decide +kernel
theorem dX5_readLine_50 : decode cX5_readLine 50 = .ok (.aload_n 0, 1) := by decide +kernel
theorem dX5_readLine_51 : decode cX5_readLine 51 = .ok (.ldc 78, 2) := by decide +kernel
theorem dX5_readLine_53 : decode cX5_readLine 53 = .ok (.invokevirtual 62, 3) := by decide +kernel
theorem dX5_readLine_56 : decode cX5_readLine 56 = .ok (.ifCond .eq 10, 3) := by decide +kernel
theorem dX5_readLine_59 : decode cX5_readLine 59 = .ok (.aload_n 0, 1) := by decide +kernel
theorem dX5_readLine_60 : decode cX5_readLine 60 = .ok (.invokevirtual 80, 3) := by decide +kernel
theorem dX5_readLine_63 : decode cX5_readLine 63 = .ok (.goto 24, 3) := by decide +kernel
theorem dX5_readLine_66 : decode cX5_readLine 66 = .ok (.aload_n 0, 1) := by decide +kernel
theorem dX5_readLine_67 : decode cX5_readLine 67 = .ok (.ldc 83, 2) := by decide +kernel
theorem dX5_readLine_69 : decode cX5_readLine 69 = .ok (.invokevirtual 62, 3) := by decide +kernel
theorem dX5_readLine_72 : decode cX5_readLine 72 = .ok (.ifCond .eq 10, 3) := by decide +kernel
theorem dX5_readLine_75 : decode cX5_readLine 75 = .ok (.aload_n 0, 1) := by decide +kernel
theorem dX5_readLine_76 : decode cX5_readLine 76 = .ok (.invokevirtual 85, 3) := by decide +kernel
theorem dX5_readLine_79 : decode cX5_readLine 79 = .ok (.goto 8, 3) := by decide +kernel
theorem dX5_readLine_82 : decode cX5_readLine 82 = .ok (.aload_n 0, 1) := by decide +kernel
theorem dX5_readLine_83 : decode cX5_readLine 83 = .ok (.iconst 1, 1) := by decide +kernel
theorem dX5_readLine_84 : decode cX5_readLine 84 = .ok (.invokevirtual 88, 3) := by decide +kernel
theorem dX5_readLine_87 : decode cX5_readLine 87 = .ok (.aload_n 0, 1) := by decide +kernel
theorem dX5_readLine_88 : decode cX5_readLine 88 = .ok (.bipush 59, 2) := by decide +kernel
theorem dX5_readLine_90 : decode cX5_readLine 90 = .ok (.invokevirtual 92, 3) := by decide +kernel
theorem dX5_readLine_93 : decode cX5_readLine 93 = .ok (.return_, 1) := by decide +kernel
theorem dX5_readPiece_0 : decode cX5_readPiece 0 = .ok (.aload_n 0, 1) := by decide +kernel
theorem dX5_readPiece_1 : decode cX5_readPiece 1 = .ok (.getfield 18, 3) := by decide +kernel
theorem dX5_readPiece_4 : decode cX5_readPiece 4 = .ok (.getfield 96, 3) := by decide +kernel
theorem dX5_readPiece_7 : decode cX5_readPiece 7 = .ok (.istore_n 1, 1) := by decide +kernel
theorem dX5_readPiece_8 : decode cX5_readPiece 8 = .ok (.iload_n 1, 1) := by decide +kernel
theorem dX5_readPiece_9 : decode cX5_readPiece 9 = .ok (.bipush 6, 2) := by decide +kernel
theorem dX5_readPiece_11 : decode cX5_readPiece 11 = .ok (.if_icmp .lt 9, 3) := by decide +kernel
theorem dX5_readPiece_14 : decode cX5_readPiece 14 = .ok (.aload_n 0, 1) := by decide +kernel
theorem dX5_readPiece_15 : decode cX5_readPiece 15 = .ok (.iconst 2, 1) := by decide +kernel
theorem dX5_readPiece_16 : decode cX5_readPiece 16 = .ok (.invokevirtual 88, 3) := by decide +kernel
theorem dX5_readPiece_19 : decode cX5_readPiece 19 = .ok (.return_, 1) := by decide +kernel
theorem dX5_readPiece_20 : decode cX5_readPiece 20 = .ok (.aload_n 0, 1) := by decide +kernel
theorem dX5_readPiece_21 : decode cX5_readPiece 21 = .ok (.getfield 18, 3) := by decide +kernel
theorem dX5_readPiece_24 : decode cX5_readPiece 24 = .ok (.getfield 99, 3) := by decide +kernel
theorem dX5_readPiece_27 : decode cX5_readPiece 27 = .ok (.iload_n 1, 1) := by decide +kernel
theorem dX5_readPiece_28 : decode cX5_readPiece 28 = .ok (.aload_n 0, 1) := by decide +kernel
theorem dX5_readPiece_29 : decode cX5_readPiece 29 = .ok (.ldc 66, 2) := by decide +kernel
theorem dX5_readPiece_31 : decode cX5_readPiece 31 = .ok (.invokevirtual 62, 3) := by decide +kernel
theorem dX5_readPiece_34 : decode cX5_readPiece 34 = .ok (.ifCond .eq 7, 3) := by decide +kernel
theorem dX5_readPiece_37 : decode cX5_readPiece 37 = .ok (.iconst 1, 1) := by decide +kernel
theorem dX5_readPiece_38 : decode cX5_readPiece 38 = .ok (.goto 4, 3) := by decide +kernel
theorem dX5_readPiece_41 : decode cX5_readPiece 41 = .ok (.iconst 0, 1) := by decide +kernel
theorem dX5_readPiece_42 : decode cX5_readPiece 42 = .ok (.iastore, 1) := by decide +kernel
theorem dX5_readPiece_43 : decode cX5_readPiece 43 = .ok (.aload_n 0, 1) := by decide +kernel
theorem dX5_readPiece_44 : decode cX5_readPiece 44 = .ok (.getfield 18, 3) := by decide +kernel
theorem dX5_readPiece_47 : decode cX5_readPiece 47 = .ok (.getfield 102, 3) := by decide +kernel
theorem dX5_readPiece_50 : decode cX5_readPiece 50 = .ok (.iload_n 1, 1) := by decide +kernel
theorem dX5_readPiece_51 : decode cX5_readPiece 51 = .ok (.iconst 0, 1) := by decide +kernel
theorem dX5_readPiece_52 : decode cX5_readPiece 52 = .ok (.iastore, 1) := by decide +kernel
theorem dX5_readPiece_53 : decode cX5_readPiece 53 = .ok (.aload_n 0, 1) := by decide +kernel
theorem dX5_readPiece_54 : decode cX5_readPiece 54 = .ok (.invokevirtual 51, 3) := by decide +kernel
theorem dX5_readPiece_57 : decode cX5_readPiece 57 = .ok (.aload_n 0, 1) := by decide +kernel
theorem dX5_readPiece_58 : decode cX5_readPiece 58 = .ok (.iload_n 1, 1) := by decide +kernel
theorem dX5_readPiece_59 : decode cX5_readPiece 59 = .ok (.invokevirtual 105, 3) := by decide +kernel
theorem dX5_readPiece_62 : decode cX5_readPiece 62 = .ok (.iconst 1, 1) := by decide +kernel
theorem dX5_readPiece_63 : decode cX5_readPiece 63 = .ok (.istore_n 2, 1) := by decide +kernel
theorem dX5_readPiece_64 : decode cX5_readPiece 64 = .ok (.iload_n 2, 1) := by decide +kernel
theorem dX5_readPiece_65 : decode cX5_readPiece 65 = .ok (.bipush 8, 2) := by decide +kernel
theorem dX5_readPiece_67 : decode cX5_readPiece 67 = .ok (.if_icmp .gt 22, 3) := by decide +kernel
theorem dX5_readPiece_70 : decode cX5_readPiece 70 = .ok (.aload_n 0, 1) := by decide +kernel
theorem dX5_readPiece_71 : decode cX5_readPiece 71 = .ok (.getfield 54, 3) := by decide +kernel
theorem dX5_readPiece_74 : decode cX5_readPiece 74 = .ok (.iconst 1, 1) := by decide +kernel
theorem dX5_readPiece_75 : decode cX5_readPiece 75 = .ok (.if_icmp .ne 14, 3) := by decide +kernel
theorem dX5_readPiece_78 : decode cX5_readPiece 78 = .ok (.aload_n 0, 1) := by decide +kernel
theorem dX5_readPiece_79 : decode cX5_readPiece 79 = .ok (.iload_n 1, 1) := by decide +kernel
theorem dX5_readPiece_80 : decode cX5_readPiece 80 = .ok (.invokevirtual 105, 3) := by decide +kernel
theorem dX5_readPiece_83 : decode cX5_readPiece 83 = .ok (.iinc 2 1, 3) := by decide +kernel
theorem dX5_readPiece_86 : decode cX5_readPiece 86 = .ok (.goto (-22), 3) := by decide +kernel
theorem dX5_readPiece_89 : decode cX5_readPiece 89 = .ok (.aload_n 0, 1) := by decide +kernel
theorem dX5_readPiece_90 : decode cX5_readPiece 90 = .ok (.getfield 18, 3) := by decide +kernel
theorem dX5_readPiece_93 : decode cX5_readPiece 93 = .ok (.dup, 1) := by decide +kernel
theorem dX5_readPiece_94 : decode cX5_readPiece 94 = .ok (.getfield 96, 3) := by decide +kernel
theorem dX5_readPiece_97 : decode cX5_readPiece 97 = .ok (.iconst 1, 1) := by decide +kernel
theorem dX5_readPiece_98 : decode cX5_readPiece 98 = .ok (.iadd, 1) := by decide +kernel
theorem dX5_readPiece_99 : decode cX5_readPiece 99 = .ok (.putfield 96, 3) := by decide +kernel
theorem dX5_readPiece_102 : decode cX5_readPiece 102 = .ok (.return_, 1) := by decide +kernel
theorem dX5_readBar_0 : decode cX5_readBar 0 = .ok (.aload_n 0, 1) := by decide +kernel
theorem dX5_readBar_1 : decode cX5_readBar 1 = .ok (.getfield 18, 3) := by decide +kernel
theorem dX5_readBar_4 : decode cX5_readBar 4 = .ok (.getfield 102, 3) := by decide +kernel
theorem dX5_readBar_7 : decode cX5_readBar 7 = .ok (.iload_n 1, 1) := by decide +kernel
theorem dX5_readBar_8 : decode cX5_readBar 8 = .ok (.iaload, 1) := by decide +kernel
theorem dX5_readBar_9 : decode cX5_readBar 9 = .ok (.istore_n 2, 1) := by decide +kernel
theorem dX5_readBar_10 : decode cX5_readBar 10 = .ok (.aload_n 0, 1) := by decide +kernel
theorem dX5_readBar_11 : decode cX5_readBar 11 = .ok (.getfield 54, 3) := by decide +kernel
theorem dX5_readBar_14 : decode cX5_readBar 14 = .ok (.iconst 1, 1) := by decide +kernel
theorem dX5_readBar_15 : decode cX5_readBar 15 = .ok (.if_icmp .ne 15, 3) := by decide +kernel
theorem dX5_readBar_18 : decode cX5_readBar 18 = .ok (.iload_n 2, 1) := by decide +kernel
theorem dX5_readBar_19 : decode cX5_readBar 19 = .ok (.bipush 8, 2) := by decide +kernel
theorem dX5_readBar_21 : decode cX5_readBar 21 = .ok (.if_icmp .lt 9, 3) := by decide +kernel
theorem dX5_readBar_24 : decode cX5_readBar 24 = .ok (.aload_n 0, 1) := by decide +kernel
theorem dX5_readBar_25 : decode cX5_readBar 25 = .ok (.iconst 2, 1) := by decide +kernel
theorem dX5_readBar_26 : decode cX5_readBar 26 = .ok (.invokevirtual 88, 3) := by decide +kernel
theorem dX5_readBar_29 : decode cX5_readBar 29 = .ok (.return_, 1) := by decide +kernel
theorem dX5_readBar_30 : decode cX5_readBar 30 = .ok (.aload_n 0, 1) := by decide +kernel
theorem dX5_readBar_31 : decode cX5_readBar 31 = .ok (.iconst 1, 1) := by decide +kernel
theorem dX5_readBar_32 : decode cX5_readBar 32 = .ok (.bipush 99, 2) := by decide +kernel
theorem dX5_readBar_34 : decode cX5_readBar 34 = .ok (.invokevirtual 108, 3) := by decide +kernel
theorem dX5_readBar_37 : decode cX5_readBar 37 = .ok (.istore_n 3, 1) := by decide +kernel
theorem dX5_readBar_38 : decode cX5_readBar 38 = .ok (.iload_n 2, 1) := by decide +kernel
theorem dX5_readBar_39 : decode cX5_readBar 39 = .ok (.bipush 8, 2) := by decide +kernel
theorem dX5_readBar_41 : decode cX5_readBar 41 = .ok (.if_icmp .ge 31, 3) := by decide +kernel
theorem dX5_readBar_44 : decode cX5_readBar 44 = .ok (.aload_n 0, 1) := by decide +kernel
theorem dX5_readBar_45 : decode cX5_readBar 45 = .ok (.getfield 18, 3) := by decide +kernel
theorem dX5_readBar_48 : decode cX5_readBar 48 = .ok (.getfield 111, 3) := by decide +kernel
theorem dX5_readBar_51 : decode cX5_readBar 51 = .ok (.iload_n 1, 1) := by decide +kernel
theorem dX5_readBar_52 : decode cX5_readBar 52 = .ok (.bipush 8, 2) := by decide +kernel
theorem dX5_readBar_54 : decode cX5_readBar 54 = .ok (.imul, 1) := by decide +kernel
theorem dX5_readBar_55 : decode cX5_readBar 55 = .ok (.iload_n 2, 1) := by decide +kernel
theorem dX5_readBar_56 : decode cX5_readBar 56 = .ok (.iadd, 1) := by decide +kernel
theorem dX5_readBar_57 : decode cX5_readBar 57 = .ok (.iload_n 3, 1) := by decide +kernel
theorem dX5_readBar_58 : decode cX5_readBar 58 = .ok (.iastore, 1) := by decide +kernel
theorem dX5_readBar_59 : decode cX5_readBar 59 = .ok (.aload_n 0, 1) := by decide +kernel
theorem dX5_readBar_60 : decode cX5_readBar 60 = .ok (.getfield 18, 3) := by decide +kernel
theorem dX5_readBar_63 : decode cX5_readBar 63 = .ok (.getfield 102, 3) := by decide +kernel
theorem dX5_readBar_66 : decode cX5_readBar 66 = .ok (.iload_n 1, 1) := by decide +kernel
theorem dX5_readBar_67 : decode cX5_readBar 67 = .ok (.dup2, 1) := by decide +kernel
theorem dX5_readBar_68 : decode cX5_readBar 68 = .ok (.iaload, 1) := by decide +kernel
theorem dX5_readBar_69 : decode cX5_readBar 69 = .ok (.iconst 1, 1) := by decide +kernel
theorem dX5_readBar_70 : decode cX5_readBar 70 = .ok (.iadd, 1) := by decide +kernel
theorem dX5_readBar_71 : decode cX5_readBar 71 = .ok (.iastore, 1) := by decide +kernel
theorem dX5_readBar_72 : decode cX5_readBar 72 = .ok (.return_, 1) := by decide +kernel
theorem dX5_readPupil_0 : decode cX5_readPupil 0 = .ok (.aload_n 0, 1) := by decide +kernel
theorem dX5_readPupil_1 : decode cX5_readPupil 1 = .ok (.getfield 18, 3) := by decide +kernel
theorem dX5_readPupil_4 : decode cX5_readPupil 4 = .ok (.getfield 114, 3) := by decide +kernel
theorem dX5_readPupil_7 : decode cX5_readPupil 7 = .ok (.getfield 118, 3) := by decide +kernel
theorem dX5_readPupil_10 : decode cX5_readPupil 10 = .ok (.istore_n 1, 1) := by decide +kernel
theorem dX5_readPupil_11 : decode cX5_readPupil 11 = .ok (.iload_n 1, 1) := by decide +kernel
theorem dX5_readPupil_12 : decode cX5_readPupil 12 = .ok (.bipush 7, 2) := by decide +kernel
theorem dX5_readPupil_14 : decode cX5_readPupil 14 = .ok (.if_icmp .lt 9, 3) := by decide +kernel
theorem dX5_readPupil_17 : decode cX5_readPupil 17 = .ok (.aload_n 0, 1) := by decide +kernel
theorem dX5_readPupil_18 : decode cX5_readPupil 18 = .ok (.iconst 2, 1) := by decide +kernel
theorem dX5_readPupil_19 : decode cX5_readPupil 19 = .ok (.invokevirtual 88, 3) := by decide +kernel
theorem dX5_readPupil_22 : decode cX5_readPupil 22 = .ok (.return_, 1) := by decide +kernel
theorem dX5_readPupil_23 : decode cX5_readPupil 23 = .ok (.aload_n 0, 1) := by decide +kernel
theorem dX5_readPupil_24 : decode cX5_readPupil 24 = .ok (.getfield 18, 3) := by decide +kernel
theorem dX5_readPupil_27 : decode cX5_readPupil 27 = .ok (.getfield 114, 3) := by decide +kernel
theorem dX5_readPupil_30 : decode cX5_readPupil 30 = .ok (.getfield 123, 3) := by decide +kernel
theorem dX5_readPupil_33 : decode cX5_readPupil 33 = .ok (.iload_n 1, 1) := by decide +kernel
theorem dX5_readPupil_34 : decode cX5_readPupil 34 = .ok (.aaload, 1) := by decide +kernel
theorem dX5_readPupil_35 : decode cX5_readPupil 35 = .ok (.astore_n 2, 1) := by decide +kernel
theorem dX5_readPupil_36 : decode cX5_readPupil 36 = .ok (.aload_n 2, 1) := by decide +kernel
theorem dX5_readPupil_37 : decode cX5_readPupil 37 = .ok (.aload_n 0, 1) := by decide +kernel
theorem dX5_readPupil_38 : decode cX5_readPupil 38 = .ok (.ldc 73, 2) := by decide +kernel
theorem dX5_readPupil_40 : decode cX5_readPupil 40 = .ok (.invokevirtual 62, 3) := by decide +kernel
theorem dX5_readPupil_43 : decode cX5_readPupil 43 = .ok (.ifCond .eq 7, 3) := by decide +kernel
theorem dX5_readPupil_46 : decode cX5_readPupil 46 = .ok (.iconst 1, 1) := by decide +kernel
theorem dX5_readPupil_47 : decode cX5_readPupil 47 = .ok (.goto 4, 3) := by decide +kernel
theorem dX5_readPupil_50 : decode cX5_readPupil 50 = .ok (.iconst 0, 1) := by decide +kernel
theorem dX5_readPupil_51 : decode cX5_readPupil 51 = .ok (.putfield 127, 3) := by decide +kernel
theorem dX5_readPupil_54 : decode cX5_readPupil 54 = .ok (.aload_n 0, 1) := by decide +kernel
theorem dX5_readPupil_55 : decode cX5_readPupil 55 = .ok (.invokevirtual 51, 3) := by decide +kernel
theorem dX5_readPupil_58 : decode cX5_readPupil 58 = .ok (.aload_n 2, 1) := by decide +kernel
theorem dX5_readPupil_59 : decode cX5_readPupil 59 = .ok (.aload_n 0, 1) := by decide +kernel
theorem dX5_readPupil_60 : decode cX5_readPupil 60 = .ok (.iconst 0, 1) := by decide +kernel
theorem dX5_readPupil_61 : decode cX5_readPupil 61 = .ok (.bipush 99, 2) := by decide +kernel
theorem dX5_readPupil_63 : decode cX5_readPupil 63 = .ok (.invokevirtual 108, 3) := by decide +kernel
theorem dX5_readPupil_66 : decode cX5_readPupil 66 = .ok (.putfield 131, 3) := by decide +kernel
theorem dX5_readPupil_69 : decode cX5_readPupil 69 = .ok (.aload_n 2, 1) := by decide +kernel
theorem dX5_readPupil_70 : decode cX5_readPupil 70 = .ok (.aload_n 0, 1) := by decide +kernel
theorem dX5_readPupil_71 : decode cX5_readPupil 71 = .ok (.iconst 0, 1) := by decide +kernel
theorem dX5_readPupil_72 : decode cX5_readPupil 72 = .ok (.bipush 9, 2) := by decide +kernel
theorem dX5_readPupil_74 : decode cX5_readPupil 74 = .ok (.invokevirtual 108, 3) := by decide +kernel
theorem dX5_readPupil_77 : decode cX5_readPupil 77 = .ok (.putfield 134, 3) := by decide +kernel
theorem dX5_readPupil_80 : decode cX5_readPupil 80 = .ok (.aload_n 0, 1) := by decide +kernel
theorem dX5_readPupil_81 : decode cX5_readPupil 81 = .ok (.getfield 54, 3) := by decide +kernel
theorem dX5_readPupil_84 : decode cX5_readPupil 84 = .ok (.iconst 1, 1) := by decide +kernel
theorem dX5_readPupil_85 : decode cX5_readPupil 85 = .ok (.if_icmp .ne 35, 3) := by decide +kernel
theorem dX5_readPupil_88 : decode cX5_readPupil 88 = .ok (.aload_n 0, 1) := by decide +kernel
theorem dX5_readPupil_89 : decode cX5_readPupil 89 = .ok (.getfield 38, 3) := by decide +kernel
theorem dX5_readPupil_92 : decode cX5_readPupil 92 = .ok (.aload_n 0, 1) := by decide +kernel
theorem dX5_readPupil_93 : decode cX5_readPupil 93 = .ok (.getfield 137, 3) := by decide +kernel
theorem dX5_readPupil_96 : decode cX5_readPupil 96 = .ok (.isub, 1) := by decide +kernel
theorem dX5_readPupil_97 : decode cX5_readPupil 97 = .ok (.iconst 4, 1) := by decide +kernel
theorem dX5_readPupil_98 : decode cX5_readPupil 98 = .ok (.if_icmp .gt 22, 3) := by decide +kernel
theorem dX5_readPupil_101 : decode cX5_readPupil 101 = .ok (.aload_n 0, 1) := by decide +kernel
theorem dX5_readPupil_102 : decode cX5_readPupil 102 = .ok (.getfield 140, 3) := by decide +kernel
theorem dX5_readPupil_105 : decode cX5_readPupil 105 = .ok (.aload_n 0, 1) := by decide +kernel
theorem dX5_readPupil_106 : decode cX5_readPupil 106 = .ok (.getfield 18, 3) := by decide +kernel
theorem dX5_readPupil_109 : decode cX5_readPupil 109 = .ok (.getfield 96, 3) := by decide +kernel
theorem dX5_readPupil_112 : decode cX5_readPupil 112 = .ok (.if_icmp .lt 8, 3) := by decide +kernel
theorem dX5_readPupil_115 : decode cX5_readPupil 115 = .ok (.aload_n 0, 1) := by decide +kernel
theorem dX5_readPupil_116 : decode cX5_readPupil 116 = .ok (.iconst 3, 1) := by decide +kernel
theorem dX5_readPupil_117 : decode cX5_readPupil 117 = .ok (.invokevirtual 88, 3) := by decide +kernel
theorem dX5_readPupil_120 : decode cX5_readPupil 120 = .ok (.aload_n 2, 1) := by decide +kernel
theorem dX5_readPupil_121 : decode cX5_readPupil 121 = .ok (.aload_n 0, 1) := by decide +kernel
theorem dX5_readPupil_122 : decode cX5_readPupil 122 = .ok (.iconst 0, 1) := by decide +kernel
theorem dX5_readPupil_123 : decode cX5_readPupil 123 = .ok (.bipush 6, 2) := by decide +kernel
theorem dX5_readPupil_125 : decode cX5_readPupil 125 = .ok (.invokevirtual 108, 3) := by decide +kernel
theorem dX5_readPupil_128 : decode cX5_readPupil 128 = .ok (.putfield 143, 3) := by decide +kernel
theorem dX5_readPupil_131 : decode cX5_readPupil 131 = .ok (.aload_n 2, 1) := by decide +kernel
theorem dX5_readPupil_132 : decode cX5_readPupil 132 = .ok (.iconst 0, 1) := by decide +kernel
theorem dX5_readPupil_133 : decode cX5_readPupil 133 = .ok (.putfield 145, 3) := by decide +kernel
theorem dX5_readPupil_136 : decode cX5_readPupil 136 = .ok (.aload_n 2, 1) := by decide +kernel
theorem dX5_readPupil_137 : decode cX5_readPupil 137 = .ok (.iconst 0, 1) := by decide +kernel
theorem dX5_readPupil_138 : decode cX5_readPupil 138 = .ok (.putfield 147, 3) := by decide +kernel
theorem dX5_readPupil_141 : decode cX5_readPupil 141 = .ok (.aload_n 0, 1) := by decide +kernel
theorem dX5_readPupil_142 : decode cX5_readPupil 142 = .ok (.getfield 18, 3) := by decide +kernel
theorem dX5_readPupil_145 : decode cX5_readPupil 145 = .ok (.getfield 114, 3) := by decide +kernel
theorem dX5_readPupil_148 : decode cX5_readPupil 148 = .ok (.dup, 1) := by decide +kernel
theorem dX5_readPupil_149 : decode cX5_readPupil 149 = .ok (.getfield 118, 3) := by decide +kernel
theorem dX5_readPupil_152 : decode cX5_readPupil 152 = .ok (.iconst 1, 1) := by decide +kernel
theorem dX5_readPupil_153 : decode cX5_readPupil 153 = .ok (.iadd, 1) := by decide +kernel
theorem dX5_readPupil_154 : decode cX5_readPupil 154 = .ok (.putfield 118, 3) := by decide +kernel
theorem dX5_readPupil_157 : decode cX5_readPupil 157 = .ok (.return_, 1) := by decide +kernel
theorem dX5_readPianos_0 : decode cX5_readPianos 0 = .ok (.aload_n 0, 1) := by decide +kernel
theorem dX5_readPianos_1 : decode cX5_readPianos 1 = .ok (.getfield 47, 3) := by decide +kernel
theorem dX5_readPianos_4 : decode cX5_readPianos 4 = .ok (.ifCond .eq 9, 3) := by decide +kernel
theorem dX5_readPianos_7 : decode cX5_readPianos 7 = .ok (.aload_n 0, 1) := by decide +kernel
theorem dX5_readPianos_8 : decode cX5_readPianos 8 = .ok (.iconst 5, 1) := by decide +kernel
theorem dX5_readPianos_9 : decode cX5_readPianos 9 = .ok (.invokevirtual 88, 3) := by decide +kernel
theorem dX5_readPianos_12 : decode cX5_readPianos 12 = .ok (.return_, 1) := by decide +kernel
theorem dX5_readPianos_13 : decode cX5_readPianos 13 = .ok (.aload_n 0, 1) := by decide +kernel
theorem dX5_readPianos_14 : decode cX5_readPianos 14 = .ok (.iconst 1, 1) := by decide +kernel
theorem dX5_readPianos_15 : decode cX5_readPianos 15 = .ok (.putfield 47, 3) := by decide +kernel
theorem dX5_readPianos_18 : decode cX5_readPianos 18 = .ok (.aload_n 0, 1) := by decide +kernel
theorem dX5_readPianos_19 : decode cX5_readPianos 19 = .ok (.invokevirtual 51, 3) := by decide +kernel
theorem dX5_readPianos_22 : decode cX5_readPianos 22 = .ok (.aload_n 0, 1) := by decide +kernel
theorem dX5_readPianos_23 : decode cX5_readPianos 23 = .ok (.getfield 18, 3) := by decide +kernel
theorem dX5_readPianos_26 : decode cX5_readPianos 26 = .ok (.getfield 114, 3) := by decide +kernel
theorem dX5_readPianos_29 : decode cX5_readPianos 29 = .ok (.aload_n 0, 1) := by decide +kernel
theorem dX5_readPianos_30 : decode cX5_readPianos 30 = .ok (.iconst 1, 1) := by decide +kernel
theorem dX5_readPianos_31 : decode cX5_readPianos 31 = .ok (.iconst 4, 1) := by decide +kernel
theorem dX5_readPianos_32 : decode cX5_readPianos 32 = .ok (.invokevirtual 108, 3) := by decide +kernel
theorem dX5_readPianos_35 : decode cX5_readPianos 35 = .ok (.putfield 150, 3) := by decide +kernel
theorem dX5_readPianos_38 : decode cX5_readPianos 38 = .ok (.return_, 1) := by decide +kernel
theorem dX5_readLearns_0 : decode cX5_readLearns 0 = .ok (.aload_n 0, 1) := by decide +kernel
theorem dX5_readLearns_1 : decode cX5_readLearns 1 = .ok (.getfield 18, 3) := by decide +kernel
theorem dX5_readLearns_4 : decode cX5_readLearns 4 = .ok (.getfield 152, 3) := by decide +kernel
theorem dX5_readLearns_7 : decode cX5_readLearns 7 = .ok (.getfield 156, 3) := by decide +kernel
theorem dX5_readLearns_10 : decode cX5_readLearns 10 = .ok (.ifCond .eq 9, 3) := by decide +kernel
theorem dX5_readLearns_13 : decode cX5_readLearns 13 = .ok (.aload_n 0, 1) := by decide +kernel
theorem dX5_readLearns_14 : decode cX5_readLearns 14 = .ok (.iconst 5, 1) := by decide +kernel
theorem dX5_readLearns_15 : decode cX5_readLearns 15 = .ok (.invokevirtual 88, 3) := by decide +kernel
theorem dX5_readLearns_18 : decode cX5_readLearns 18 = .ok (.return_, 1) := by decide +kernel
theorem dX5_readLearns_19 : decode cX5_readLearns 19 = .ok (.aload_n 0, 1) := by decide +kernel
theorem dX5_readLearns_20 : decode cX5_readLearns 20 = .ok (.getfield 18, 3) := by decide +kernel
theorem dX5_readLearns_23 : decode cX5_readLearns 23 = .ok (.getfield 152, 3) := by decide +kernel
theorem dX5_readLearns_26 : decode cX5_readLearns 26 = .ok (.iconst 1, 1) := by decide +kernel
theorem dX5_readLearns_27 : decode cX5_readLearns 27 = .ok (.putfield 156, 3) := by decide +kernel
theorem dX5_readLearns_30 : decode cX5_readLearns 30 = .ok (.aload_n 0, 1) := by decide +kernel
theorem dX5_readLearns_31 : decode cX5_readLearns 31 = .ok (.invokevirtual 51, 3) := by decide +kernel
theorem dX5_readLearns_34 : decode cX5_readLearns 34 = .ok (.aload_n 0, 1) := by decide +kernel
theorem dX5_readLearns_35 : decode cX5_readLearns 35 = .ok (.iconst 0, 1) := by decide +kernel
theorem dX5_readLearns_36 : decode cX5_readLearns 36 = .ok (.iconst 0, 1) := by decide +kernel
theorem dX5_readLearns_37 : decode cX5_readLearns 37 = .ok (.invokevirtual 161, 3) := by decide +kernel
theorem dX5_readLearns_40 : decode cX5_readLearns 40 = .ok (.return_, 1) := by decide +kernel
theorem dX5_readLevel_0 : decode cX5_readLevel 0 = .ok (.iload_n 2, 1) := by decide +kernel
theorem dX5_readLevel_1 : decode cX5_readLevel 1 = .ok (.bipush 6, 2) := by decide +kernel
theorem dX5_readLevel_3 : decode cX5_readLevel 3 = .ok (.if_icmp .lt 38, 3) := by decide +kernel
theorem dX5_readLevel_6 : decode cX5_readLevel 6 = .ok (.aload_n 0, 1) := by decide +kernel
theorem dX5_readLevel_7 : decode cX5_readLevel 7 = .ok (.aload_n 0, 1) := by decide +kernel
theorem dX5_readLevel_8 : decode cX5_readLevel 8 = .ok (.getfield 54, 3) := by decide +kernel
theorem dX5_readLevel_11 : decode cX5_readLevel 11 = .ok (.iconst 1, 1) := by decide +kernel
theorem dX5_readLevel_12 : decode cX5_readLevel 12 = .ok (.if_icmp .eq 20, 3) := by decide +kernel
theorem dX5_readLevel_15 : decode cX5_readLevel 15 = .ok (.aload_n 0, 1) := by decide +kernel
theorem dX5_readLevel_16 : decode cX5_readLevel 16 = .ok (.getfield 54, 3) := by decide +kernel
theorem dX5_readLevel_19 : decode cX5_readLevel 19 = .ok (.iconst 2, 1) := by decide +kernel
theorem dX5_readLevel_20 : decode cX5_readLevel 20 = .ok (.if_icmp .eq 12, 3) := by decide +kernel
theorem dX5_readLevel_23 : decode cX5_readLevel 23 = .ok (.aload_n 0, 1) := by decide +kernel
theorem dX5_readLevel_24 : decode cX5_readLevel 24 = .ok (.bipush 40, 2) := by decide +kernel
theorem dX5_readLevel_26 : decode cX5_readLevel 26 = .ok (.invokevirtual 165, 3) := by decide +kernel
theorem dX5_readLevel_29 : decode cX5_readLevel 29 = .ok (.ifCond .eq 7, 3) := by decide +kernel
theorem dX5_readLevel_32 : decode cX5_readLevel 32 = .ok (.iconst 2, 1) := by decide +kernel
theorem dX5_readLevel_33 : decode cX5_readLevel 33 = .ok (.goto 4, 3) := by decide +kernel
theorem dX5_readLevel_36 : decode cX5_readLevel 36 = .ok (.iconst 1, 1) := by decide +kernel
theorem dX5_readLevel_37 : decode cX5_readLevel 37 = .ok (.invokevirtual 88, 3) := by decide +kernel
theorem dX5_readLevel_40 : decode cX5_readLevel 40 = .ok (.return_, 1) := by decide +kernel
theorem dX5_readLevel_41 : decode cX5_readLevel 41 = .ok (.iload_n 1, 1) := by decide +kernel
theorem dX5_readLevel_42 : decode cX5_readLevel 42 = .ok (.bipush 6, 2) := by decide +kernel
theorem dX5_readLevel_44 : decode cX5_readLevel 44 = .ok (.if_icmp .lt 9, 3) := by decide +kernel
theorem dX5_readLevel_47 : decode cX5_readLevel 47 = .ok (.aload_n 0, 1) := by decide +kernel
theorem dX5_readLevel_48 : decode cX5_readLevel 48 = .ok (.iload_n 2, 1) := by decide +kernel
theorem dX5_readLevel_49 : decode cX5_readLevel 49 = .ok (.invokevirtual 169, 3) := by decide +kernel
theorem dX5_readLevel_52 : decode cX5_readLevel 52 = .ok (.return_, 1) := by decide +kernel
theorem dX5_readLevel_53 : decode cX5_readLevel 53 = .ok (.iload_n 1, 1) := by decide +kernel
theorem dX5_readLevel_54 : decode cX5_readLevel 54 = .ok (.iconst 2, 1) := by decide +kernel
theorem dX5_readLevel_55 : decode cX5_readLevel 55 = .ok (.if_icmp .ne 10, 3) := by decide +kernel
theorem dX5_readLevel_58 : decode cX5_readLevel 58 = .ok (.aload_n 0, 1) := by decide +kernel
theorem dX5_readLevel_59 : decode cX5_readLevel 59 = .ok (.invokevirtual 172, 3) := by decide +kernel
theorem dX5_readLevel_62 : decode cX5_readLevel 62 = .ok (.goto 4, 3) := by decide +kernel
theorem dX5_readLevel_65 : decode cX5_readLevel 65 = .ok (.iconst 0, 1) := by decide +kernel
theorem dX5_readLevel_66 : decode cX5_readLevel 66 = .ok (.istore_n 3, 1) := by decide +kernel
theorem dX5_readLevel_67 : decode cX5_readLevel 67 = .ok (.aload_n 0, 1) := by decide +kernel
theorem dX5_readLevel_68 : decode cX5_readLevel 68 = .ok (.iload_n 1, 1) := by decide +kernel
theorem dX5_readLevel_69 : decode cX5_readLevel 69 = .ok (.iconst 1, 1) := by decide +kernel
theorem dX5_readLevel_70 : decode cX5_readLevel 70 = .ok (.iadd, 1) := by decide +kernel
theorem dX5_readLevel_71 : decode cX5_readLevel 71 = .ok (.iload_n 2, 1) := by decide +kernel
theorem dX5_readLevel_72 : decode cX5_readLevel 72 = .ok (.invokevirtual 161, 3) := by decide +kernel
theorem dX5_readLevel_75 : decode cX5_readLevel 75 = .ok (.iconst 0, 1) := by decide +kernel
theorem dX5_readLevel_76 : decode cX5_readLevel 76 = .ok (.istore 4, 2) := by decide +kernel
theorem dX5_readLevel_78 : decode cX5_readLevel 78 = .ok (.iload 4, 2) := by decide +kernel
theorem dX5_readLevel_80 : decode cX5_readLevel 80 = .ok (.iload_n 3, 1) := by decide +kernel
theorem dX5_readLevel_81 : decode cX5_readLevel 81 = .ok (.if_icmp .ge 22, 3) := by decide +kernel
theorem dX5_readLevel_84 : decode cX5_readLevel 84 = .ok (.aload_n 0, 1) := by decide +kernel
theorem dX5_readLevel_85 : decode cX5_readLevel 85 = .ok (.getfield 18, 3) := by decide +kernel
theorem dX5_readLevel_88 : decode cX5_readLevel 88 = .ok (.getfield 152, 3) := by decide +kernel
theorem dX5_readLevel_91 : decode cX5_readLevel 91 = .ok (.sipush 20002, 3) := by decide +kernel
theorem dX5_readLevel_94 : decode cX5_readLevel 94 = .ok (.invokevirtual 176, 3) := by decide +kernel
theorem dX5_readLevel_97 : decode cX5_readLevel 97 = .ok (.iinc 4 1, 3) := by decide +kernel
theorem dX5_readLevel_100 : decode cX5_readLevel 100 = .ok (.goto (-22), 3) := by decide +kernel
theorem dX5_readLevel_103 : decode cX5_readLevel 103 = .ok (.iload_n 1, 1) := by decide +kernel
theorem dX5_readLevel_104 : decode cX5_readLevel 104 = .ok (.iconst 3, 1) := by decide +kernel
theorem dX5_readLevel_105 : decode cX5_readLevel 105 = .ok (.if_icmp .ne 7, 3) := by decide +kernel
theorem dX5_readLevel_108 : decode cX5_readLevel 108 = .ok (.iconst 1, 1) := by decide +kernel
theorem dX5_readLevel_109 : decode cX5_readLevel 109 = .ok (.goto 6, 3) := by decide +kernel
theorem dX5_readLevel_112 : decode cX5_readLevel 112 = .ok (.sipush 700, 3) := by decide +kernel
theorem dX5_readLevel_115 : decode cX5_readLevel 115 = .ok (.istore 4, 2) := by decide +kernel
theorem dX5_readLevel_117 : decode cX5_readLevel 117 = .ok (.aload_n 0, 1) := by decide +kernel
theorem dX5_readLevel_118 : decode cX5_readLevel 118 = .ok (.iload_n 1, 1) := by decide +kernel
theorem dX5_readLevel_119 : decode cX5_readLevel 119 = .ok (.invokevirtual 179, 3) := by decide +kernel
theorem dX5_readLevel_122 : decode cX5_readLevel 122 = .ok (.istore 5, 2) := by decide +kernel
theorem dX5_readLevel_124 : decode cX5_readLevel 124 = .ok (.iconst 0, 1) := by decide +kernel
theorem dX5_readLevel_125 : decode cX5_readLevel 125 = .ok (.istore 6, 2) := by decide +kernel
theorem dX5_readLevel_127 : decode cX5_readLevel 127 = .ok (.iload 6, 2) := by decide +kernel
theorem dX5_readLevel_129 : decode cX5_readLevel 129 = .ok (.iload 4, 2) := by decide +kernel
theorem dX5_readLevel_131 : decode cX5_readLevel 131 = .ok (.if_icmp .ge 46, 3) := by decide +kernel
theorem dX5_readLevel_134 : decode cX5_readLevel 134 = .ok (.iload 5, 2) := by decide +kernel
theorem dX5_readLevel_136 : decode cX5_readLevel 136 = .ok (.iconst (-1), 1) := by decide +kernel
theorem dX5_readLevel_137 : decode cX5_readLevel 137 = .ok (.if_icmp .eq 40, 3) := by decide +kernel
theorem dX5_readLevel_140 : decode cX5_readLevel 140 = .ok (.aload_n 0, 1) := by decide +kernel
theorem dX5_readLevel_141 : decode cX5_readLevel 141 = .ok (.invokevirtual 51, 3) := by decide +kernel
theorem dX5_readLevel_144 : decode cX5_readLevel 144 = .ok (.aload_n 0, 1) := by decide +kernel
theorem dX5_readLevel_145 : decode cX5_readLevel 145 = .ok (.iload_n 1, 1) := by decide +kernel
theorem dX5_readLevel_146 : decode cX5_readLevel 146 = .ok (.iconst 1, 1) := by decide +kernel
theorem dX5_readLevel_147 : decode cX5_readLevel 147 = .ok (.iadd, 1) := by decide +kernel
theorem dX5_readLevel_148 : decode cX5_readLevel 148 = .ok (.iload_n 2, 1) := by decide +kernel
theorem dX5_readLevel_149 : decode cX5_readLevel 149 = .ok (.invokevirtual 161, 3) := by decide +kernel
theorem dX5_readLevel_152 : decode cX5_readLevel 152 = .ok (.aload_n 0, 1) := by decide +kernel
theorem dX5_readLevel_153 : decode cX5_readLevel 153 = .ok (.getfield 18, 3) := by decide +kernel
theorem dX5_readLevel_156 : decode cX5_readLevel 156 = .ok (.getfield 152, 3) := by decide +kernel
theorem dX5_readLevel_159 : decode cX5_readLevel 159 = .ok (.iload 5, 2) := by decide +kernel
theorem dX5_readLevel_161 : decode cX5_readLevel 161 = .ok (.invokevirtual 176, 3) := by decide +kernel
theorem dX5_readLevel_164 : decode cX5_readLevel 164 = .ok (.aload_n 0, 1) := by decide +kernel
theorem dX5_readLevel_165 : decode cX5_readLevel 165 = .ok (.iload_n 1, 1) := by decide +kernel
theorem dX5_readLevel_166 : decode cX5_readLevel 166 = .ok (.invokevirtual 179, 3) := by decide +kernel
theorem dX5_readLevel_169 : decode cX5_readLevel 169 = .ok (.istore 5, 2) := by decide +kernel
theorem dX5_readLevel_171 : decode cX5_readLevel 171 = .ok (.iinc 6 1, 3) := by decide +kernel
theorem dX5_readLevel_174 : decode cX5_readLevel 174 = .ok (.goto (-47), 3) := by decide +kernel
theorem dX5_readLevel_177 : decode cX5_readLevel 177 = .ok (.return_, 1) := by decide +kernel
theorem dX5_skipNots_0 : decode cX5_skipNots 0 = .ok (.iconst 0, 1) := by decide +kernel
theorem dX5_skipNots_1 : decode cX5_skipNots 1 = .ok (.istore_n 1, 1) := by decide +kernel
theorem dX5_skipNots_2 : decode cX5_skipNots 2 = .ok (.iload_n 1, 1) := by decide +kernel
theorem dX5_skipNots_3 : decode cX5_skipNots 3 = .ok (.bipush 6, 2) := by decide +kernel
theorem dX5_skipNots_5 : decode cX5_skipNots 5 = .ok (.if_icmp .ge 22, 3) := by decide +kernel
theorem dX5_skipNots_8 : decode cX5_skipNots 8 = .ok (.aload_n 0, 1) := by decide +kernel
theorem dX5_skipNots_9 : decode cX5_skipNots 9 = .ok (.ldc 183, 2) := by decide +kernel
theorem dX5_skipNots_11 : decode cX5_skipNots 11 = .ok (.invokevirtual 62, 3) := by decide +kernel
theorem dX5_skipNots_14 : decode cX5_skipNots 14 = .ok (.ifCond .eq 13, 3) := by decide +kernel
theorem dX5_skipNots_17 : decode cX5_skipNots 17 = .ok (.aload_n 0, 1) := by decide +kernel
theorem dX5_skipNots_18 : decode cX5_skipNots 18 = .ok (.invokevirtual 51, 3) := by decide +kernel
theorem dX5_skipNots_21 : decode cX5_skipNots 21 = .ok (.iinc 1 1, 3) := by decide +kernel
theorem dX5_skipNots_24 : decode cX5_skipNots 24 = .ok (.goto (-22), 3) := by decide +kernel
theorem dX5_skipNots_27 : decode cX5_skipNots 27 = .ok (.aload_n 0, 1) := by decide +kernel
theorem dX5_skipNots_28 : decode cX5_skipNots 28 = .ok (.ldc 183, 2) := by decide +kernel
theorem dX5_skipNots_30 : decode cX5_skipNots 30 = .ok (.invokevirtual 62, 3) := by decide +kernel
theorem dX5_skipNots_33 : decode cX5_skipNots 33 = .ok (.ifCond .eq 14, 3) := by decide +kernel
theorem dX5_skipNots_36 : decode cX5_skipNots 36 = .ok (.iload_n 1, 1) := by decide +kernel
theorem dX5_skipNots_37 : decode cX5_skipNots 37 = .ok (.bipush 6, 2) := by decide +kernel
theorem dX5_skipNots_39 : decode cX5_skipNots 39 = .ok (.if_icmp .ne 8, 3) := by decide +kernel
theorem dX5_skipNots_42 : decode cX5_skipNots 42 = .ok (.aload_n 0, 1) := by decide +kernel
theorem dX5_skipNots_43 : decode cX5_skipNots 43 = .ok (.iconst 2, 1) := by decide +kernel
theorem dX5_skipNots_44 : decode cX5_skipNots 44 = .ok (.invokevirtual 88, 3) := by decide +kernel
theorem dX5_skipNots_47 : decode cX5_skipNots 47 = .ok (.iload_n 1, 1) := by decide +kernel
theorem dX5_skipNots_48 : decode cX5_skipNots 48 = .ok (.ireturn, 1) := by decide +kernel
theorem dX5_operatorHere_0 : decode cX5_operatorHere 0 = .ok (.iload_n 1, 1) := by decide +kernel
theorem dX5_operatorHere_1 : decode cX5_operatorHere 1 = .ok (.tableswitch 169 0 5 #[39, 56, 169, 73, 105, 137], 39) := by decide +kernel
theorem dX5_operatorHere_40 : decode cX5_operatorHere 40 = .ok (.aload_n 0, 1) := by decide +kernel
theorem dX5_operatorHere_41 : decode cX5_operatorHere 41 = .ok (.ldc 185, 2) := by decide +kernel
theorem dX5_operatorHere_43 : decode cX5_operatorHere 43 = .ok (.invokevirtual 62, 3) := by decide +kernel
theorem dX5_operatorHere_46 : decode cX5_operatorHere 46 = .ok (.ifCond .eq 9, 3) := by decide +kernel
theorem dX5_operatorHere_49 : decode cX5_operatorHere 49 = .ok (.sipush 20000, 3) := by decide +kernel
theorem dX5_operatorHere_52 : decode cX5_operatorHere 52 = .ok (.goto 4, 3) := by decide +kernel
theorem dX5_operatorHere_55 : decode cX5_operatorHere 55 = .ok (.iconst (-1), 1) := by decide +kernel
theorem dX5_operatorHere_56 : decode cX5_operatorHere 56 = .ok (.ireturn, 1) := by decide +kernel
theorem dX5_operatorHere_57 : decode cX5_operatorHere 57 = .ok (.aload_n 0, 1) := by decide +kernel
theorem dX5_operatorHere_58 : decode cX5_operatorHere 58 = .ok (.ldc 187, 2) := by decide +kernel
theorem dX5_operatorHere_60 : decode cX5_operatorHere 60 = .ok (.invokevirtual 62, 3) := by decide +kernel
theorem dX5_operatorHere_63 : decode cX5_operatorHere 63 = .ok (.ifCond .eq 9, 3) := by decide +kernel
theorem dX5_operatorHere_66 : decode cX5_operatorHere 66 = .ok (.sipush 20001, 3) := by decide +kernel
theorem dX5_operatorHere_69 : decode cX5_operatorHere 69 = .ok (.goto 4, 3) := by decide +kernel
theorem dX5_operatorHere_72 : decode cX5_operatorHere 72 = .ok (.iconst (-1), 1) := by decide +kernel
theorem dX5_operatorHere_73 : decode cX5_operatorHere 73 = .ok (.ireturn, 1) := by decide +kernel
theorem dX5_operatorHere_74 : decode cX5_operatorHere 74 = .ok (.aload_n 0, 1) := by decide +kernel
theorem dX5_operatorHere_75 : decode cX5_operatorHere 75 = .ok (.bipush 60, 2) := by decide +kernel
theorem dX5_operatorHere_77 : decode cX5_operatorHere 77 = .ok (.invokevirtual 165, 3) := by decide +kernel
theorem dX5_operatorHere_80 : decode cX5_operatorHere 80 = .ok (.ifCond .eq 9, 3) := by decide +kernel
theorem dX5_operatorHere_83 : decode cX5_operatorHere 83 = .ok (.sipush 20003, 3) := by decide +kernel
theorem dX5_operatorHere_86 : decode cX5_operatorHere 86 = .ok (.goto 19, 3) := by decide +kernel
theorem dX5_operatorHere_89 : decode cX5_operatorHere 89 = .ok (.aload_n 0, 1) := by decide +kernel
theorem dX5_operatorHere_90 : decode cX5_operatorHere 90 = .ok (.bipush 61, 2) := by decide +kernel
theorem dX5_operatorHere_92 : decode cX5_operatorHere 92 = .ok (.invokevirtual 165, 3) := by decide +kernel
theorem dX5_operatorHere_95 : decode cX5_operatorHere 95 = .ok (.ifCond .eq 9, 3) := by decide +kernel
theorem dX5_operatorHere_98 : decode cX5_operatorHere 98 = .ok (.sipush 20004, 3) := by decide +kernel
theorem dX5_operatorHere_101 : decode cX5_operatorHere 101 = .ok (.goto 4, 3) := by decide +kernel
theorem dX5_operatorHere_104 : decode cX5_operatorHere 104 = .ok (.iconst (-1), 1) := by decide +kernel
theorem dX5_operatorHere_105 : decode cX5_operatorHere 105 = .ok (.ireturn, 1) := by decide +kernel
theorem dX5_operatorHere_106 : decode cX5_operatorHere 106 = .ok (.aload_n 0, 1) := by decide +kernel
theorem dX5_operatorHere_107 : decode cX5_operatorHere 107 = .ok (.bipush 43, 2) := by decide +kernel
theorem dX5_operatorHere_109 : decode cX5_operatorHere 109 = .ok (.invokevirtual 165, 3) := by decide +kernel
theorem dX5_operatorHere_112 : decode cX5_operatorHere 112 = .ok (.ifCond .eq 9, 3) := by decide +kernel
theorem dX5_operatorHere_115 : decode cX5_operatorHere 115 = .ok (.sipush 20005, 3) := by decide +kernel
theorem dX5_operatorHere_118 : decode cX5_operatorHere 118 = .ok (.goto 19, 3) := by decide +kernel
theorem dX5_operatorHere_121 : decode cX5_operatorHere 121 = .ok (.aload_n 0, 1) := by decide +kernel
theorem dX5_operatorHere_122 : decode cX5_operatorHere 122 = .ok (.bipush 45, 2) := by decide +kernel
theorem dX5_operatorHere_124 : decode cX5_operatorHere 124 = .ok (.invokevirtual 165, 3) := by decide +kernel
theorem dX5_operatorHere_127 : decode cX5_operatorHere 127 = .ok (.ifCond .eq 9, 3) := by decide +kernel
theorem dX5_operatorHere_130 : decode cX5_operatorHere 130 = .ok (.sipush 20006, 3) := by decide +kernel
theorem dX5_operatorHere_133 : decode cX5_operatorHere 133 = .ok (.goto 4, 3) := by decide +kernel
theorem dX5_operatorHere_136 : decode cX5_operatorHere 136 = .ok (.iconst (-1), 1) := by decide +kernel
theorem dX5_operatorHere_137 : decode cX5_operatorHere 137 = .ok (.ireturn, 1) := by decide +kernel
theorem dX5_operatorHere_138 : decode cX5_operatorHere 138 = .ok (.aload_n 0, 1) := by decide +kernel
theorem dX5_operatorHere_139 : decode cX5_operatorHere 139 = .ok (.bipush 42, 2) := by decide +kernel
theorem dX5_operatorHere_141 : decode cX5_operatorHere 141 = .ok (.invokevirtual 165, 3) := by decide +kernel
theorem dX5_operatorHere_144 : decode cX5_operatorHere 144 = .ok (.ifCond .eq 9, 3) := by decide +kernel
theorem dX5_operatorHere_147 : decode cX5_operatorHere 147 = .ok (.sipush 20007, 3) := by decide +kernel
theorem dX5_operatorHere_150 : decode cX5_operatorHere 150 = .ok (.goto 19, 3) := by decide +kernel
theorem dX5_operatorHere_153 : decode cX5_operatorHere 153 = .ok (.aload_n 0, 1) := by decide +kernel
theorem dX5_operatorHere_154 : decode cX5_operatorHere 154 = .ok (.bipush 47, 2) := by decide +kernel
theorem dX5_operatorHere_156 : decode cX5_operatorHere 156 = .ok (.invokevirtual 165, 3) := by decide +kernel
theorem dX5_operatorHere_159 : decode cX5_operatorHere 159 = .ok (.ifCond .eq 9, 3) := by decide +kernel
theorem dX5_operatorHere_162 : decode cX5_operatorHere 162 = .ok (.sipush 20008, 3) := by decide +kernel
theorem dX5_operatorHere_165 : decode cX5_operatorHere 165 = .ok (.goto 4, 3) := by decide +kernel
theorem dX5_operatorHere_168 : decode cX5_operatorHere 168 = .ok (.iconst (-1), 1) := by decide +kernel
theorem dX5_operatorHere_169 : decode cX5_operatorHere 169 = .ok (.ireturn, 1) := by decide +kernel
theorem dX5_operatorHere_170 : decode cX5_operatorHere 170 = .ok (.iconst (-1), 1) := by decide +kernel
theorem dX5_operatorHere_171 : decode cX5_operatorHere 171 = .ok (.ireturn, 1) := by decide +kernel
theorem dX5_readPart_0 : decode cX5_readPart 0 = .ok (.aload_n 0, 1) := by decide +kernel
theorem dX5_readPart_1 : decode cX5_readPart 1 = .ok (.getfield 54, 3) := by decide +kernel
theorem dX5_readPart_4 : decode cX5_readPart 4 = .ok (.iconst 1, 1) := by decide +kernel
theorem dX5_readPart_5 : decode cX5_readPart 5 = .ok (.if_icmp .ne 24, 3) := by decide +kernel
theorem dX5_readPart_8 : decode cX5_readPart 8 = .ok (.aload_n 0, 1) := by decide +kernel
theorem dX5_readPart_9 : decode cX5_readPart 9 = .ok (.getfield 18, 3) := by decide +kernel
theorem dX5_readPart_12 : decode cX5_readPart 12 = .ok (.getfield 152, 3) := by decide +kernel
theorem dX5_readPart_15 : decode cX5_readPart 15 = .ok (.aload_n 0, 1) := by decide +kernel
theorem dX5_readPart_16 : decode cX5_readPart 16 = .ok (.iconst 0, 1) := by decide +kernel
theorem dX5_readPart_17 : decode cX5_readPart 17 = .ok (.sipush 9999, 3) := by decide +kernel
theorem dX5_readPart_20 : decode cX5_readPart 20 = .ok (.invokevirtual 108, 3) := by decide +kernel
theorem dX5_readPart_23 : decode cX5_readPart 23 = .ok (.invokevirtual 176, 3) := by decide +kernel
theorem dX5_readPart_26 : decode cX5_readPart 26 = .ok (.goto 95, 3) := by decide +kernel
theorem dX5_readPart_29 : decode cX5_readPart 29 = .ok (.aload_n 0, 1) := by decide +kernel
theorem dX5_readPart_30 : decode cX5_readPart 30 = .ok (.getfield 54, 3) := by decide +kernel
theorem dX5_readPart_33 : decode cX5_readPart 33 = .ok (.iconst 2, 1) := by decide +kernel
theorem dX5_readPart_34 : decode cX5_readPart 34 = .ok (.if_icmp .ne 19, 3) := by decide +kernel
theorem dX5_readPart_37 : decode cX5_readPart 37 = .ok (.aload_n 0, 1) := by decide +kernel
theorem dX5_readPart_38 : decode cX5_readPart 38 = .ok (.invokevirtual 189, 3) := by decide +kernel
theorem dX5_readPart_41 : decode cX5_readPart 41 = .ok (.iconst (-1), 1) := by decide +kernel
theorem dX5_readPart_42 : decode cX5_readPart 42 = .ok (.if_icmp .ne 11, 3) := by decide +kernel
theorem dX5_readPart_45 : decode cX5_readPart 45 = .ok (.aload_n 0, 1) := by decide +kernel
theorem dX5_readPart_46 : decode cX5_readPart 46 = .ok (.iconst 3, 1) := by decide +kernel
theorem dX5_readPart_47 : decode cX5_readPart 47 = .ok (.invokevirtual 88, 3) := by decide +kernel
theorem dX5_readPart_50 : decode cX5_readPart 50 = .ok (.goto 71, 3) := by decide +kernel
theorem dX5_readPart_53 : decode cX5_readPart 53 = .ok (.aload_n 0, 1) := by decide +kernel
theorem dX5_readPart_54 : decode cX5_readPart 54 = .ok (.getfield 54, 3) := by decide +kernel
theorem dX5_readPart_57 : decode cX5_readPart 57 = .ok (.iconst 2, 1) := by decide +kernel
theorem dX5_readPart_58 : decode cX5_readPart 58 = .ok (.if_icmp .ne 28, 3) := by decide +kernel
theorem dX5_readPart_61 : decode cX5_readPart 61 = .ok (.aload_n 0, 1) := by decide +kernel
theorem dX5_readPart_62 : decode cX5_readPart 62 = .ok (.getfield 18, 3) := by decide +kernel
theorem dX5_readPart_65 : decode cX5_readPart 65 = .ok (.getfield 152, 3) := by decide +kernel
theorem dX5_readPart_68 : decode cX5_readPart 68 = .ok (.sipush 10000, 3) := by decide +kernel
theorem dX5_readPart_71 : decode cX5_readPart 71 = .ok (.aload_n 0, 1) := by decide +kernel
theorem dX5_readPart_72 : decode cX5_readPart 72 = .ok (.invokevirtual 189, 3) := by decide +kernel
theorem dX5_readPart_75 : decode cX5_readPart 75 = .ok (.iadd, 1) := by decide +kernel
theorem dX5_readPart_76 : decode cX5_readPart 76 = .ok (.invokevirtual 176, 3) := by decide +kernel
theorem dX5_readPart_79 : decode cX5_readPart 79 = .ok (.aload_n 0, 1) := by decide +kernel
theorem dX5_readPart_80 : decode cX5_readPart 80 = .ok (.invokevirtual 51, 3) := by decide +kernel
theorem dX5_readPart_83 : decode cX5_readPart 83 = .ok (.goto 38, 3) := by decide +kernel
theorem dX5_readPart_86 : decode cX5_readPart 86 = .ok (.aload_n 0, 1) := by decide +kernel
theorem dX5_readPart_87 : decode cX5_readPart 87 = .ok (.bipush 40, 2) := by decide +kernel
theorem dX5_readPart_89 : decode cX5_readPart 89 = .ok (.invokevirtual 165, 3) := by decide +kernel
theorem dX5_readPart_92 : decode cX5_readPart 92 = .ok (.ifCond .eq 24, 3) := by decide +kernel
theorem dX5_readPart_95 : decode cX5_readPart 95 = .ok (.aload_n 0, 1) := by decide +kernel
theorem dX5_readPart_96 : decode cX5_readPart 96 = .ok (.invokevirtual 51, 3) := by decide +kernel
theorem dX5_readPart_99 : decode cX5_readPart 99 = .ok (.aload_n 0, 1) := by decide +kernel
theorem dX5_readPart_100 : decode cX5_readPart 100 = .ok (.iconst 0, 1) := by decide +kernel
theorem dX5_readPart_101 : decode cX5_readPart 101 = .ok (.iload_n 1, 1) := by decide +kernel
theorem dX5_readPart_102 : decode cX5_readPart 102 = .ok (.iconst 1, 1) := by decide +kernel
theorem dX5_readPart_103 : decode cX5_readPart 103 = .ok (.iadd, 1) := by decide +kernel
theorem dX5_readPart_104 : decode cX5_readPart 104 = .ok (.invokevirtual 161, 3) := by decide +kernel
theorem dX5_readPart_107 : decode cX5_readPart 107 = .ok (.aload_n 0, 1) := by decide +kernel
theorem dX5_readPart_108 : decode cX5_readPart 108 = .ok (.bipush 41, 2) := by decide +kernel
theorem dX5_readPart_110 : decode cX5_readPart 110 = .ok (.invokevirtual 92, 3) := by decide +kernel
theorem dX5_readPart_113 : decode cX5_readPart 113 = .ok (.goto 8, 3) := by decide +kernel
theorem dX5_readPart_116 : decode cX5_readPart 116 = .ok (.aload_n 0, 1) := by decide +kernel
theorem dX5_readPart_117 : decode cX5_readPart 117 = .ok (.iconst 1, 1) := by decide +kernel
theorem dX5_readPart_118 : decode cX5_readPart 118 = .ok (.invokevirtual 88, 3) := by decide +kernel
theorem dX5_readPart_121 : decode cX5_readPart 121 = .ok (.return_, 1) := by decide +kernel
theorem dX5_valueHere_0 : decode cX5_valueHere 0 = .ok (.aload_n 0, 1) := by decide +kernel
theorem dX5_valueHere_1 : decode cX5_valueHere 1 = .ok (.ldc 192, 2) := by decide +kernel
theorem dX5_valueHere_3 : decode cX5_valueHere 3 = .ok (.invokevirtual 62, 3) := by decide +kernel
theorem dX5_valueHere_6 : decode cX5_valueHere 6 = .ok (.ifCond .eq 5, 3) := by decide +kernel
theorem dX5_valueHere_9 : decode cX5_valueHere 9 = .ok (.iconst 0, 1) := by decide +kernel
theorem dX5_valueHere_10 : decode cX5_valueHere 10 = .ok (.ireturn, 1) := by decide +kernel
theorem dX5_valueHere_11 : decode cX5_valueHere 11 = .ok (.aload_n 0, 1) := by decide +kernel
theorem dX5_valueHere_12 : decode cX5_valueHere 12 = .ok (.ldc 193, 2) := by decide +kernel
theorem dX5_valueHere_14 : decode cX5_valueHere 14 = .ok (.invokevirtual 62, 3) := by decide +kernel
theorem dX5_valueHere_17 : decode cX5_valueHere 17 = .ok (.ifCond .eq 5, 3) := by decide +kernel
theorem dX5_valueHere_20 : decode cX5_valueHere 20 = .ok (.iconst 1, 1) := by decide +kernel
theorem dX5_valueHere_21 : decode cX5_valueHere 21 = .ok (.ireturn, 1) := by decide +kernel
theorem dX5_valueHere_22 : decode cX5_valueHere 22 = .ok (.aload_n 0, 1) := by decide +kernel
theorem dX5_valueHere_23 : decode cX5_valueHere 23 = .ok (.ldc 194, 2) := by decide +kernel
theorem dX5_valueHere_25 : decode cX5_valueHere 25 = .ok (.invokevirtual 62, 3) := by decide +kernel
theorem dX5_valueHere_28 : decode cX5_valueHere 28 = .ok (.ifCond .eq 5, 3) := by decide +kernel
theorem dX5_valueHere_31 : decode cX5_valueHere 31 = .ok (.iconst 2, 1) := by decide +kernel
theorem dX5_valueHere_32 : decode cX5_valueHere 32 = .ok (.ireturn, 1) := by decide +kernel
theorem dX5_valueHere_33 : decode cX5_valueHere 33 = .ok (.aload_n 0, 1) := by decide +kernel
theorem dX5_valueHere_34 : decode cX5_valueHere 34 = .ok (.ldc 195, 2) := by decide +kernel
theorem dX5_valueHere_36 : decode cX5_valueHere 36 = .ok (.invokevirtual 62, 3) := by decide +kernel
theorem dX5_valueHere_39 : decode cX5_valueHere 39 = .ok (.ifCond .eq 5, 3) := by decide +kernel
theorem dX5_valueHere_42 : decode cX5_valueHere 42 = .ok (.iconst 3, 1) := by decide +kernel
theorem dX5_valueHere_43 : decode cX5_valueHere 43 = .ok (.ireturn, 1) := by decide +kernel
theorem dX5_valueHere_44 : decode cX5_valueHere 44 = .ok (.aload_n 0, 1) := by decide +kernel
theorem dX5_valueHere_45 : decode cX5_valueHere 45 = .ok (.ldc 197, 2) := by decide +kernel
theorem dX5_valueHere_47 : decode cX5_valueHere 47 = .ok (.invokevirtual 62, 3) := by decide +kernel
theorem dX5_valueHere_50 : decode cX5_valueHere 50 = .ok (.ifCond .eq 5, 3) := by decide +kernel
theorem dX5_valueHere_53 : decode cX5_valueHere 53 = .ok (.iconst 4, 1) := by decide +kernel
theorem dX5_valueHere_54 : decode cX5_valueHere 54 = .ok (.ireturn, 1) := by decide +kernel
theorem dX5_valueHere_55 : decode cX5_valueHere 55 = .ok (.aload_n 0, 1) := by decide +kernel
theorem dX5_valueHere_56 : decode cX5_valueHere 56 = .ok (.ldc 198, 2) := by decide +kernel
theorem dX5_valueHere_58 : decode cX5_valueHere 58 = .ok (.invokevirtual 62, 3) := by decide +kernel
theorem dX5_valueHere_61 : decode cX5_valueHere 61 = .ok (.ifCond .eq 7, 3) := by decide +kernel
theorem dX5_valueHere_64 : decode cX5_valueHere 64 = .ok (.iconst 5, 1) := by decide +kernel
theorem dX5_valueHere_65 : decode cX5_valueHere 65 = .ok (.goto 4, 3) := by decide +kernel
theorem dX5_valueHere_68 : decode cX5_valueHere 68 = .ok (.iconst (-1), 1) := by decide +kernel
theorem dX5_valueHere_69 : decode cX5_valueHere 69 = .ok (.ireturn, 1) := by decide +kernel
theorem dX5_readNumber_0 : decode cX5_readNumber 0 = .ok (.aload_n 0, 1) := by decide +kernel
theorem dX5_readNumber_1 : decode cX5_readNumber 1 = .ok (.getfield 54, 3) := by decide +kernel
theorem dX5_readNumber_4 : decode cX5_readNumber 4 = .ok (.iconst 1, 1) := by decide +kernel
theorem dX5_readNumber_5 : decode cX5_readNumber 5 = .ok (.if_icmp .eq 10, 3) := by decide +kernel
theorem dX5_readNumber_8 : decode cX5_readNumber 8 = .ok (.aload_n 0, 1) := by decide +kernel
theorem dX5_readNumber_9 : decode cX5_readNumber 9 = .ok (.iconst 1, 1) := by decide +kernel
theorem dX5_readNumber_10 : decode cX5_readNumber 10 = .ok (.invokevirtual 88, 3) := by decide +kernel
theorem dX5_readNumber_13 : decode cX5_readNumber 13 = .ok (.iconst 0, 1) := by decide +kernel
theorem dX5_readNumber_14 : decode cX5_readNumber 14 = .ok (.ireturn, 1) := by decide +kernel
theorem dX5_readNumber_15 : decode cX5_readNumber 15 = .ok (.aload_n 0, 1) := by decide +kernel
theorem dX5_readNumber_16 : decode cX5_readNumber 16 = .ok (.getfield 38, 3) := by decide +kernel
theorem dX5_readNumber_19 : decode cX5_readNumber 19 = .ok (.aload_n 0, 1) := by decide +kernel
theorem dX5_readNumber_20 : decode cX5_readNumber 20 = .ok (.getfield 137, 3) := by decide +kernel
theorem dX5_readNumber_23 : decode cX5_readNumber 23 = .ok (.isub, 1) := by decide +kernel
theorem dX5_readNumber_24 : decode cX5_readNumber 24 = .ok (.iconst 4, 1) := by decide +kernel
theorem dX5_readNumber_25 : decode cX5_readNumber 25 = .ok (.if_icmp .gt 19, 3) := by decide +kernel
theorem dX5_readNumber_28 : decode cX5_readNumber 28 = .ok (.aload_n 0, 1) := by decide +kernel
theorem dX5_readNumber_29 : decode cX5_readNumber 29 = .ok (.getfield 140, 3) := by decide +kernel
theorem dX5_readNumber_32 : decode cX5_readNumber 32 = .ok (.iload_n 1, 1) := by decide +kernel
theorem dX5_readNumber_33 : decode cX5_readNumber 33 = .ok (.if_icmp .lt 11, 3) := by decide +kernel
theorem dX5_readNumber_36 : decode cX5_readNumber 36 = .ok (.aload_n 0, 1) := by decide +kernel
theorem dX5_readNumber_37 : decode cX5_readNumber 37 = .ok (.getfield 140, 3) := by decide +kernel
theorem dX5_readNumber_40 : decode cX5_readNumber 40 = .ok (.iload_n 2, 1) := by decide +kernel
theorem dX5_readNumber_41 : decode cX5_readNumber 41 = .ok (.if_icmp .le 10, 3) := by decide +kernel
theorem dX5_readNumber_44 : decode cX5_readNumber 44 = .ok (.aload_n 0, 1) := by decide +kernel
theorem dX5_readNumber_45 : decode cX5_readNumber 45 = .ok (.iconst 2, 1) := by decide +kernel
theorem dX5_readNumber_46 : decode cX5_readNumber 46 = .ok (.invokevirtual 88, 3) := by decide +kernel
theorem dX5_readNumber_49 : decode cX5_readNumber 49 = .ok (.iconst 0, 1) := by decide +kernel
theorem dX5_readNumber_50 : decode cX5_readNumber 50 = .ok (.ireturn, 1) := by decide +kernel
theorem dX5_readNumber_51 : decode cX5_readNumber 51 = .ok (.aload_n 0, 1) := by decide +kernel
theorem dX5_readNumber_52 : decode cX5_readNumber 52 = .ok (.getfield 140, 3) := by decide +kernel
theorem dX5_readNumber_55 : decode cX5_readNumber 55 = .ok (.istore_n 3, 1) := by decide +kernel
theorem dX5_readNumber_56 : decode cX5_readNumber 56 = .ok (.aload_n 0, 1) := by decide +kernel
theorem dX5_readNumber_57 : decode cX5_readNumber 57 = .ok (.invokevirtual 51, 3) := by decide +kernel
theorem dX5_readNumber_60 : decode cX5_readNumber 60 = .ok (.iload_n 3, 1) := by decide +kernel
theorem dX5_readNumber_61 : decode cX5_readNumber 61 = .ok (.ireturn, 1) := by decide +kernel
theorem dX5_skipSign_0 : decode cX5_skipSign 0 = .ok (.aload_n 0, 1) := by decide +kernel
theorem dX5_skipSign_1 : decode cX5_skipSign 1 = .ok (.iload_n 1, 1) := by decide +kernel
theorem dX5_skipSign_2 : decode cX5_skipSign 2 = .ok (.invokevirtual 165, 3) := by decide +kernel
theorem dX5_skipSign_5 : decode cX5_skipSign 5 = .ok (.ifCond .eq 10, 3) := by decide +kernel
theorem dX5_skipSign_8 : decode cX5_skipSign 8 = .ok (.aload_n 0, 1) := by decide +kernel
theorem dX5_skipSign_9 : decode cX5_skipSign 9 = .ok (.invokevirtual 51, 3) := by decide +kernel
theorem dX5_skipSign_12 : decode cX5_skipSign 12 = .ok (.goto 8, 3) := by decide +kernel
theorem dX5_skipSign_15 : decode cX5_skipSign 15 = .ok (.aload_n 0, 1) := by decide +kernel
theorem dX5_skipSign_16 : decode cX5_skipSign 16 = .ok (.iconst 1, 1) := by decide +kernel
theorem dX5_skipSign_17 : decode cX5_skipSign 17 = .ok (.invokevirtual 88, 3) := by decide +kernel
theorem dX5_skipSign_20 : decode cX5_skipSign 20 = .ok (.return_, 1) := by decide +kernel
theorem dX5_stop_0 : decode cX5_stop 0 = .ok (.aload_n 0, 1) := by decide +kernel
theorem dX5_stop_1 : decode cX5_stop 1 = .ok (.getfield 41, 3) := by decide +kernel
theorem dX5_stop_4 : decode cX5_stop 4 = .ok (.ifCond .ne 16, 3) := by decide +kernel
theorem dX5_stop_7 : decode cX5_stop 7 = .ok (.aload_n 0, 1) := by decide +kernel
theorem dX5_stop_8 : decode cX5_stop 8 = .ok (.iload_n 1, 1) := by decide +kernel
theorem dX5_stop_9 : decode cX5_stop 9 = .ok (.putfield 41, 3) := by decide +kernel
theorem dX5_stop_12 : decode cX5_stop 12 = .ok (.aload_n 0, 1) := by decide +kernel
theorem dX5_stop_13 : decode cX5_stop 13 = .ok (.aload_n 0, 1) := by decide +kernel
theorem dX5_stop_14 : decode cX5_stop 14 = .ok (.getfield 137, 3) := by decide +kernel
theorem dX5_stop_17 : decode cX5_stop 17 = .ok (.putfield 44, 3) := by decide +kernel
theorem dX5_stop_20 : decode cX5_stop 20 = .ok (.aload_n 0, 1) := by decide +kernel
theorem dX5_stop_21 : decode cX5_stop 21 = .ok (.iconst 4, 1) := by decide +kernel
theorem dX5_stop_22 : decode cX5_stop 22 = .ok (.putfield 54, 3) := by decide +kernel
theorem dX5_stop_25 : decode cX5_stop 25 = .ok (.return_, 1) := by decide +kernel
theorem dX5_isSign_0 : decode cX5_isSign 0 = .ok (.aload_n 0, 1) := by decide +kernel
theorem dX5_isSign_1 : decode cX5_isSign 1 = .ok (.getfield 54, 3) := by decide +kernel
theorem dX5_isSign_4 : decode cX5_isSign 4 = .ok (.iconst 3, 1) := by decide +kernel
theorem dX5_isSign_5 : decode cX5_isSign 5 = .ok (.if_icmp .ne 15, 3) := by decide +kernel
theorem dX5_isSign_8 : decode cX5_isSign 8 = .ok (.aload_n 0, 1) := by decide +kernel
theorem dX5_isSign_9 : decode cX5_isSign 9 = .ok (.getfield 199, 3) := by decide +kernel
theorem dX5_isSign_12 : decode cX5_isSign 12 = .ok (.iload_n 1, 1) := by decide +kernel
theorem dX5_isSign_13 : decode cX5_isSign 13 = .ok (.if_icmp .ne 7, 3) := by decide +kernel
theorem dX5_isSign_16 : decode cX5_isSign 16 = .ok (.iconst 1, 1) := by decide +kernel
theorem dX5_isSign_17 : decode cX5_isSign 17 = .ok (.goto 4, 3) := by decide +kernel
theorem dX5_isSign_20 : decode cX5_isSign 20 = .ok (.iconst 0, 1) := by decide +kernel
theorem dX5_isSign_21 : decode cX5_isSign 21 = .ok (.ireturn, 1) := by decide +kernel
theorem dX5_isWord_0 : decode cX5_isWord 0 = .ok (.aload_n 0, 1) := by decide +kernel
theorem dX5_isWord_1 : decode cX5_isWord 1 = .ok (.getfield 54, 3) := by decide +kernel
theorem dX5_isWord_4 : decode cX5_isWord 4 = .ok (.iconst 2, 1) := by decide +kernel
theorem dX5_isWord_5 : decode cX5_isWord 5 = .ok (.if_icmp .ne 19, 3) := by decide +kernel
theorem dX5_isWord_8 : decode cX5_isWord 8 = .ok (.aload_n 0, 1) := by decide +kernel
theorem dX5_isWord_9 : decode cX5_isWord 9 = .ok (.getfield 38, 3) := by decide +kernel
theorem dX5_isWord_12 : decode cX5_isWord 12 = .ok (.aload_n 0, 1) := by decide +kernel
theorem dX5_isWord_13 : decode cX5_isWord 13 = .ok (.getfield 137, 3) := by decide +kernel
theorem dX5_isWord_16 : decode cX5_isWord 16 = .ok (.isub, 1) := by decide +kernel
theorem dX5_isWord_17 : decode cX5_isWord 17 = .ok (.aload_n 1, 1) := by decide +kernel
theorem dX5_isWord_18 : decode cX5_isWord 18 = .ok (.invokevirtual 202, 3) := by decide +kernel
theorem dX5_isWord_21 : decode cX5_isWord 21 = .ok (.if_icmp .eq 5, 3) := by decide +kernel
theorem dX5_isWord_24 : decode cX5_isWord 24 = .ok (.iconst 0, 1) := by decide +kernel
theorem dX5_isWord_25 : decode cX5_isWord 25 = .ok (.ireturn, 1) := by decide +kernel
theorem dX5_isWord_26 : decode cX5_isWord 26 = .ok (.aload_n 0, 1) := by decide +kernel
theorem dX5_isWord_27 : decode cX5_isWord 27 = .ok (.getfield 137, 3) := by decide +kernel
theorem dX5_isWord_30 : decode cX5_isWord 30 = .ok (.istore_n 2, 1) := by decide +kernel
theorem dX5_isWord_31 : decode cX5_isWord 31 = .ok (.iload_n 2, 1) := by decide +kernel
theorem dX5_isWord_32 : decode cX5_isWord 32 = .ok (.aload_n 0, 1) := by decide +kernel
theorem dX5_isWord_33 : decode cX5_isWord 33 = .ok (.getfield 38, 3) := by decide +kernel
theorem dX5_isWord_36 : decode cX5_isWord 36 = .ok (.if_icmp .ge 30, 3) := by decide +kernel
theorem dX5_isWord_39 : decode cX5_isWord 39 = .ok (.aload_n 0, 1) := by decide +kernel
theorem dX5_isWord_40 : decode cX5_isWord 40 = .ok (.getfield 9, 3) := by decide +kernel
theorem dX5_isWord_43 : decode cX5_isWord 43 = .ok (.iload_n 2, 1) := by decide +kernel
theorem dX5_isWord_44 : decode cX5_isWord 44 = .ok (.baload, 1) := by decide +kernel
theorem dX5_isWord_45 : decode cX5_isWord 45 = .ok (.aload_n 1, 1) := by decide +kernel
theorem dX5_isWord_46 : decode cX5_isWord 46 = .ok (.iload_n 2, 1) := by decide +kernel
theorem dX5_isWord_47 : decode cX5_isWord 47 = .ok (.aload_n 0, 1) := by decide +kernel
theorem dX5_isWord_48 : decode cX5_isWord 48 = .ok (.getfield 137, 3) := by decide +kernel
theorem dX5_isWord_51 : decode cX5_isWord 51 = .ok (.isub, 1) := by decide +kernel
theorem dX5_isWord_52 : decode cX5_isWord 52 = .ok (.invokevirtual 206, 3) := by decide +kernel
theorem dX5_isWord_55 : decode cX5_isWord 55 = .ok (.if_icmp .eq 5, 3) := by decide +kernel
theorem dX5_isWord_58 : decode cX5_isWord 58 = .ok (.iconst 0, 1) := by decide +kernel
theorem dX5_isWord_59 : decode cX5_isWord 59 = .ok (.ireturn, 1) := by decide +kernel
theorem dX5_isWord_60 : decode cX5_isWord 60 = .ok (.iinc 2 1, 3) := by decide +kernel
theorem dX5_isWord_63 : decode cX5_isWord 63 = .ok (.goto (-32), 3) := by decide +kernel
theorem dX5_isWord_66 : decode cX5_isWord 66 = .ok (.iconst 1, 1) := by decide +kernel
theorem dX5_isWord_67 : decode cX5_isWord 67 = .ok (.ireturn, 1) := by decide +kernel
theorem dX5_advance_0 : decode cX5_advance 0 = .ok (.aload_n 0, 1) := by decide +kernel
theorem dX5_advance_1 : decode cX5_advance 1 = .ok (.getfield 41, 3) := by decide +kernel
theorem dX5_advance_4 : decode cX5_advance 4 = .ok (.ifCond .eq 4, 3) := by decide +kernel
theorem dX5_advance_7 : decode cX5_advance 7 = .ok (.return_, 1) := by decide +kernel
theorem dX5_advance_8 : decode cX5_advance 8 = .ok (.aload_n 0, 1) := by decide +kernel
theorem dX5_advance_9 : decode cX5_advance 9 = .ok (.aload_n 0, 1) := by decide +kernel
theorem dX5_advance_10 : decode cX5_advance 10 = .ok (.getfield 38, 3) := by decide +kernel
theorem dX5_advance_13 : decode cX5_advance 13 = .ok (.putfield 137, 3) := by decide +kernel
theorem dX5_advance_16 : decode cX5_advance 16 = .ok (.aload_n 0, 1) := by decide +kernel
theorem dX5_advance_17 : decode cX5_advance 17 = .ok (.getfield 137, 3) := by decide +kernel
theorem dX5_advance_20 : decode cX5_advance 20 = .ok (.aload_n 0, 1) := by decide +kernel
theorem dX5_advance_21 : decode cX5_advance 21 = .ok (.getfield 31, 3) := by decide +kernel
theorem dX5_advance_24 : decode cX5_advance 24 = .ok (.if_icmp .ge 44, 3) := by decide +kernel
theorem dX5_advance_27 : decode cX5_advance 27 = .ok (.aload_n 0, 1) := by decide +kernel
theorem dX5_advance_28 : decode cX5_advance 28 = .ok (.getfield 9, 3) := by decide +kernel
theorem dX5_advance_31 : decode cX5_advance 31 = .ok (.aload_n 0, 1) := by decide +kernel
theorem dX5_advance_32 : decode cX5_advance 32 = .ok (.getfield 137, 3) := by decide +kernel
theorem dX5_advance_35 : decode cX5_advance 35 = .ok (.baload, 1) := by decide +kernel
theorem dX5_advance_36 : decode cX5_advance 36 = .ok (.bipush 32, 2) := by decide +kernel
theorem dX5_advance_38 : decode cX5_advance 38 = .ok (.if_icmp .eq 17, 3) := by decide +kernel
theorem dX5_advance_41 : decode cX5_advance 41 = .ok (.aload_n 0, 1) := by decide +kernel
theorem dX5_advance_42 : decode cX5_advance 42 = .ok (.getfield 9, 3) := by decide +kernel
theorem dX5_advance_45 : decode cX5_advance 45 = .ok (.aload_n 0, 1) := by decide +kernel
theorem dX5_advance_46 : decode cX5_advance 46 = .ok (.getfield 137, 3) := by decide +kernel
theorem dX5_advance_49 : decode cX5_advance 49 = .ok (.baload, 1) := by decide +kernel
theorem dX5_advance_50 : decode cX5_advance 50 = .ok (.bipush 10, 2) := by decide +kernel
theorem dX5_advance_52 : decode cX5_advance 52 = .ok (.if_icmp .ne 16, 3) := by decide +kernel
theorem dX5_advance_55 : decode cX5_advance 55 = .ok (.aload_n 0, 1) := by decide +kernel
theorem dX5_advance_56 : decode cX5_advance 56 = .ok (.dup, 1) := by decide +kernel
theorem dX5_advance_57 : decode cX5_advance 57 = .ok (.getfield 137, 3) := by decide +kernel
theorem dX5_advance_60 : decode cX5_advance 60 = .ok (.iconst 1, 1) := by decide +kernel
theorem dX5_advance_61 : decode cX5_advance 61 = .ok (.iadd, 1) := by decide +kernel
theorem dX5_advance_62 : decode cX5_advance 62 = .ok (.putfield 137, 3) := by decide +kernel
theorem dX5_advance_65 : decode cX5_advance 65 = .ok (.goto (-49), 3) := by decide +kernel
theorem dX5_advance_68 : decode cX5_advance 68 = .ok (.aload_n 0, 1) := by decide +kernel
theorem dX5_advance_69 : decode cX5_advance 69 = .ok (.aload_n 0, 1) := by decide +kernel
theorem dX5_advance_70 : decode cX5_advance 70 = .ok (.getfield 137, 3) := by decide +kernel
theorem dX5_advance_73 : decode cX5_advance 73 = .ok (.putfield 38, 3) := by decide +kernel
theorem dX5_advance_76 : decode cX5_advance 76 = .ok (.aload_n 0, 1) := by decide +kernel
theorem dX5_advance_77 : decode cX5_advance 77 = .ok (.getfield 38, 3) := by decide +kernel
theorem dX5_advance_80 : decode cX5_advance 80 = .ok (.aload_n 0, 1) := by decide +kernel
theorem dX5_advance_81 : decode cX5_advance 81 = .ok (.getfield 31, 3) := by decide +kernel
theorem dX5_advance_84 : decode cX5_advance 84 = .ok (.if_icmp .ge 44, 3) := by decide +kernel
theorem dX5_advance_87 : decode cX5_advance 87 = .ok (.aload_n 0, 1) := by decide +kernel
theorem dX5_advance_88 : decode cX5_advance 88 = .ok (.getfield 9, 3) := by decide +kernel
theorem dX5_advance_91 : decode cX5_advance 91 = .ok (.aload_n 0, 1) := by decide +kernel
theorem dX5_advance_92 : decode cX5_advance 92 = .ok (.getfield 38, 3) := by decide +kernel
theorem dX5_advance_95 : decode cX5_advance 95 = .ok (.baload, 1) := by decide +kernel
theorem dX5_advance_96 : decode cX5_advance 96 = .ok (.bipush 97, 2) := by decide +kernel
theorem dX5_advance_98 : decode cX5_advance 98 = .ok (.if_icmp .lt 30, 3) := by decide +kernel
theorem dX5_advance_101 : decode cX5_advance 101 = .ok (.aload_n 0, 1) := by decide +kernel
theorem dX5_advance_102 : decode cX5_advance 102 = .ok (.getfield 9, 3) := by decide +kernel
theorem dX5_advance_105 : decode cX5_advance 105 = .ok (.aload_n 0, 1) := by decide +kernel
theorem dX5_advance_106 : decode cX5_advance 106 = .ok (.getfield 38, 3) := by decide +kernel
theorem dX5_advance_109 : decode cX5_advance 109 = .ok (.baload, 1) := by decide +kernel
theorem dX5_advance_110 : decode cX5_advance 110 = .ok (.bipush 122, 2) := by decide +kernel
theorem dX5_advance_112 : decode cX5_advance 112 = .ok (.if_icmp .gt 16, 3) := by decide +kernel
theorem dX5_advance_115 : decode cX5_advance 115 = .ok (.aload_n 0, 1) := by decide +kernel
theorem dX5_advance_116 : decode cX5_advance 116 = .ok (.dup, 1) := by decide +kernel
theorem dX5_advance_117 : decode cX5_advance 117 = .ok (.getfield 38, 3) := by decide +kernel
theorem dX5_advance_120 : decode cX5_advance 120 = .ok (.iconst 1, 1) := by decide +kernel
theorem dX5_advance_121 : decode cX5_advance 121 = .ok (.iadd, 1) := by decide +kernel
theorem dX5_advance_122 : decode cX5_advance 122 = .ok (.putfield 38, 3) := by decide +kernel
theorem dX5_advance_125 : decode cX5_advance 125 = .ok (.goto (-49), 3) := by decide +kernel
theorem dX5_advance_128 : decode cX5_advance 128 = .ok (.aload_n 0, 1) := by decide +kernel
theorem dX5_advance_129 : decode cX5_advance 129 = .ok (.getfield 38, 3) := by decide +kernel
theorem dX5_advance_132 : decode cX5_advance 132 = .ok (.aload_n 0, 1) := by decide +kernel
theorem dX5_advance_133 : decode cX5_advance 133 = .ok (.getfield 137, 3) := by decide +kernel
theorem dX5_advance_136 : decode cX5_advance 136 = .ok (.if_icmp .le 9, 3) := by decide +kernel
theorem dX5_advance_139 : decode cX5_advance 139 = .ok (.aload_n 0, 1) := by decide +kernel
theorem dX5_advance_140 : decode cX5_advance 140 = .ok (.iconst 2, 1) := by decide +kernel
theorem dX5_advance_141 : decode cX5_advance 141 = .ok (.putfield 54, 3) := by decide +kernel
theorem dX5_advance_144 : decode cX5_advance 144 = .ok (.return_, 1) := by decide +kernel
theorem dX5_advance_145 : decode cX5_advance 145 = .ok (.aload_n 0, 1) := by decide +kernel
theorem dX5_advance_146 : decode cX5_advance 146 = .ok (.iconst 0, 1) := by decide +kernel
theorem dX5_advance_147 : decode cX5_advance 147 = .ok (.putfield 140, 3) := by decide +kernel
theorem dX5_advance_150 : decode cX5_advance 150 = .ok (.aload_n 0, 1) := by decide +kernel
theorem dX5_advance_151 : decode cX5_advance 151 = .ok (.getfield 38, 3) := by decide +kernel
theorem dX5_advance_154 : decode cX5_advance 154 = .ok (.aload_n 0, 1) := by decide +kernel
theorem dX5_advance_155 : decode cX5_advance 155 = .ok (.getfield 31, 3) := by decide +kernel
theorem dX5_advance_158 : decode cX5_advance 158 = .ok (.if_icmp .ge 68, 3) := by decide +kernel
theorem dX5_advance_161 : decode cX5_advance 161 = .ok (.aload_n 0, 1) := by decide +kernel
theorem dX5_advance_162 : decode cX5_advance 162 = .ok (.getfield 9, 3) := by decide +kernel
theorem dX5_advance_165 : decode cX5_advance 165 = .ok (.aload_n 0, 1) := by decide +kernel
theorem dX5_advance_166 : decode cX5_advance 166 = .ok (.getfield 38, 3) := by decide +kernel
theorem dX5_advance_169 : decode cX5_advance 169 = .ok (.baload, 1) := by decide +kernel
theorem dX5_advance_170 : decode cX5_advance 170 = .ok (.bipush 48, 2) := by decide +kernel
theorem dX5_advance_172 : decode cX5_advance 172 = .ok (.if_icmp .lt 54, 3) := by decide +kernel
theorem dX5_advance_175 : decode cX5_advance 175 = .ok (.aload_n 0, 1) := by decide +kernel
theorem dX5_advance_176 : decode cX5_advance 176 = .ok (.getfield 9, 3) := by decide +kernel
theorem dX5_advance_179 : decode cX5_advance 179 = .ok (.aload_n 0, 1) := by decide +kernel
theorem dX5_advance_180 : decode cX5_advance 180 = .ok (.getfield 38, 3) := by decide +kernel
theorem dX5_advance_183 : decode cX5_advance 183 = .ok (.baload, 1) := by decide +kernel
theorem dX5_advance_184 : decode cX5_advance 184 = .ok (.bipush 57, 2) := by decide +kernel
theorem dX5_advance_186 : decode cX5_advance 186 = .ok (.if_icmp .gt 40, 3) := by decide +kernel
theorem dX5_advance_189 : decode cX5_advance 189 = .ok (.aload_n 0, 1) := by decide +kernel
theorem dX5_advance_190 : decode cX5_advance 190 = .ok (.aload_n 0, 1) := by decide +kernel
theorem dX5_advance_191 : decode cX5_advance 191 = .ok (.getfield 140, 3) := by decide +kernel
theorem dX5_advance_194 : decode cX5_advance 194 = .ok (.bipush 10, 2) := by decide +kernel
theorem dX5_advance_196 : decode cX5_advance 196 = .ok (.imul, 1) := by decide +kernel
theorem dX5_advance_197 : decode cX5_advance 197 = .ok (.aload_n 0, 1) := by decide +kernel
theorem dX5_advance_198 : decode cX5_advance 198 = .ok (.getfield 9, 3) := by decide +kernel
theorem dX5_advance_201 : decode cX5_advance 201 = .ok (.aload_n 0, 1) := by decide +kernel
theorem dX5_advance_202 : decode cX5_advance 202 = .ok (.getfield 38, 3) := by decide +kernel
theorem dX5_advance_205 : decode cX5_advance 205 = .ok (.baload, 1) := by decide +kernel
theorem dX5_advance_206 : decode cX5_advance 206 = .ok (.iadd, 1) := by decide +kernel
theorem dX5_advance_207 : decode cX5_advance 207 = .ok (.bipush 48, 2) := by decide +kernel
theorem dX5_advance_209 : decode cX5_advance 209 = .ok (.isub, 1) := by decide +kernel
theorem dX5_advance_210 : decode cX5_advance 210 = .ok (.putfield 140, 3) := by decide +kernel
theorem dX5_advance_213 : decode cX5_advance 213 = .ok (.aload_n 0, 1) := by decide +kernel
theorem dX5_advance_214 : decode cX5_advance 214 = .ok (.dup, 1) := by decide +kernel
theorem dX5_advance_215 : decode cX5_advance 215 = .ok (.getfield 38, 3) := by decide +kernel
theorem dX5_advance_218 : decode cX5_advance 218 = .ok (.iconst 1, 1) := by decide +kernel
theorem dX5_advance_219 : decode cX5_advance 219 = .ok (.iadd, 1) := by decide +kernel
theorem dX5_advance_220 : decode cX5_advance 220 = .ok (.putfield 38, 3) := by decide +kernel
theorem dX5_advance_223 : decode cX5_advance 223 = .ok (.goto (-73), 3) := by decide +kernel
theorem dX5_advance_226 : decode cX5_advance 226 = .ok (.aload_n 0, 1) := by decide +kernel
theorem dX5_advance_227 : decode cX5_advance 227 = .ok (.getfield 38, 3) := by decide +kernel
theorem dX5_advance_230 : decode cX5_advance 230 = .ok (.aload_n 0, 1) := by decide +kernel
theorem dX5_advance_231 : decode cX5_advance 231 = .ok (.getfield 137, 3) := by decide +kernel
theorem dX5_advance_234 : decode cX5_advance 234 = .ok (.if_icmp .le 11, 3) := by decide +kernel
theorem dX5_advance_237 : decode cX5_advance 237 = .ok (.aload_n 0, 1) := by decide +kernel
theorem dX5_advance_238 : decode cX5_advance 238 = .ok (.iconst 1, 1) := by decide +kernel
theorem dX5_advance_239 : decode cX5_advance 239 = .ok (.putfield 54, 3) := by decide +kernel
theorem dX5_advance_242 : decode cX5_advance 242 = .ok (.goto 50, 3) := by decide +kernel
theorem dX5_advance_245 : decode cX5_advance 245 = .ok (.aload_n 0, 1) := by decide +kernel
theorem dX5_advance_246 : decode cX5_advance 246 = .ok (.getfield 137, 3) := by decide +kernel
theorem dX5_advance_249 : decode cX5_advance 249 = .ok (.aload_n 0, 1) := by decide +kernel
theorem dX5_advance_250 : decode cX5_advance 250 = .ok (.getfield 31, 3) := by decide +kernel
theorem dX5_advance_253 : decode cX5_advance 253 = .ok (.if_icmp .lt 11, 3) := by decide +kernel
theorem dX5_advance_256 : decode cX5_advance 256 = .ok (.aload_n 0, 1) := by decide +kernel
theorem dX5_advance_257 : decode cX5_advance 257 = .ok (.iconst 0, 1) := by decide +kernel
theorem dX5_advance_258 : decode cX5_advance 258 = .ok (.putfield 54, 3) := by decide +kernel
theorem dX5_advance_261 : decode cX5_advance 261 = .ok (.goto 31, 3) := by decide +kernel
theorem dX5_advance_264 : decode cX5_advance 264 = .ok (.aload_n 0, 1) := by decide +kernel
theorem dX5_advance_265 : decode cX5_advance 265 = .ok (.iconst 3, 1) := by decide +kernel
theorem dX5_advance_266 : decode cX5_advance 266 = .ok (.putfield 54, 3) := by decide +kernel
theorem dX5_advance_269 : decode cX5_advance 269 = .ok (.aload_n 0, 1) := by decide +kernel
theorem dX5_advance_270 : decode cX5_advance 270 = .ok (.aload_n 0, 1) := by decide +kernel
theorem dX5_advance_271 : decode cX5_advance 271 = .ok (.getfield 9, 3) := by decide +kernel
theorem dX5_advance_274 : decode cX5_advance 274 = .ok (.aload_n 0, 1) := by decide +kernel
theorem dX5_advance_275 : decode cX5_advance 275 = .ok (.getfield 137, 3) := by decide +kernel
theorem dX5_advance_278 : decode cX5_advance 278 = .ok (.baload, 1) := by decide +kernel
theorem dX5_advance_279 : decode cX5_advance 279 = .ok (.putfield 199, 3) := by decide +kernel
theorem dX5_advance_282 : decode cX5_advance 282 = .ok (.aload_n 0, 1) := by decide +kernel
theorem dX5_advance_283 : decode cX5_advance 283 = .ok (.dup, 1) := by decide +kernel
theorem dX5_advance_284 : decode cX5_advance 284 = .ok (.getfield 38, 3) := by decide +kernel
theorem dX5_advance_287 : decode cX5_advance 287 = .ok (.iconst 1, 1) := by decide +kernel
theorem dX5_advance_288 : decode cX5_advance 288 = .ok (.iadd, 1) := by decide +kernel
theorem dX5_advance_289 : decode cX5_advance 289 = .ok (.putfield 38, 3) := by decide +kernel
theorem dX5_advance_292 : decode cX5_advance 292 = .ok (.return_, 1) := by decide +kernel
theorem dX6_init_0 : decode cX6_init 0 = .ok (.aload_n 0, 1) := by decide +kernel
theorem dX6_init_1 : decode cX6_init 1 = .ok (.invokespecial 3, 3) := by decide +kernel
theorem dX6_init_4 : decode cX6_init 4 = .ok (.aload_n 0, 1) := by decide +kernel
theorem dX6_init_5 : decode cX6_init 5 = .ok (.sipush 700, 3) := by decide +kernel
theorem dX6_init_8 : decode cX6_init 8 = .ok (.newarray .int, 2) := by decide +kernel
theorem dX6_init_10 : decode cX6_init 10 = .ok (.putfield 9, 3) := by decide +kernel
theorem dX6_init_13 : decode cX6_init 13 = .ok (.aload_n 0, 1) := by decide +kernel
theorem dX6_init_14 : decode cX6_init 14 = .ok (.bipush 64, 2) := by decide +kernel
theorem dX6_init_16 : decode cX6_init 16 = .ok (.newarray .int, 2) := by decide +kernel
theorem dX6_init_18 : decode cX6_init 18 = .ok (.putfield 15, 3) := by decide +kernel
theorem dX6_init_21 : decode cX6_init 21 = .ok (.return_, 1) := by decide +kernel
theorem dX6_clear_0 : decode cX6_clear 0 = .ok (.aload_n 0, 1) := by decide +kernel
theorem dX6_clear_1 : decode cX6_clear 1 = .ok (.iconst 0, 1) := by decide +kernel
theorem dX6_clear_2 : decode cX6_clear 2 = .ok (.putfield 18, 3) := by decide +kernel
theorem dX6_clear_5 : decode cX6_clear 5 = .ok (.aload_n 0, 1) := by decide +kernel
theorem dX6_clear_6 : decode cX6_clear 6 = .ok (.iconst 0, 1) := by decide +kernel
theorem dX6_clear_7 : decode cX6_clear 7 = .ok (.putfield 22, 3) := by decide +kernel
theorem dX6_clear_10 : decode cX6_clear 10 = .ok (.return_, 1) := by decide +kernel
theorem dX6_add_0 : decode cX6_add 0 = .ok (.aload_n 0, 1) := by decide +kernel
theorem dX6_add_1 : decode cX6_add 1 = .ok (.getfield 18, 3) := by decide +kernel
theorem dX6_add_4 : decode cX6_add 4 = .ok (.aload_n 0, 1) := by decide +kernel
theorem dX6_add_5 : decode cX6_add 5 = .ok (.getfield 9, 3) := by decide +kernel
theorem dX6_add_8 : decode cX6_add 8 = .ok (.arraylength, 1) := by decide +kernel
theorem dX6_add_9 : decode cX6_add 9 = .ok (.if_icmp .ge 23, 3) := by decide +kernel
theorem dX6_add_12 : decode cX6_add 12 = .ok (.aload_n 0, 1) := by decide +kernel
theorem dX6_add_13 : decode cX6_add 13 = .ok (.getfield 9, 3) := by decide +kernel
theorem dX6_add_16 : decode cX6_add 16 = .ok (.aload_n 0, 1) := by decide +kernel
theorem dX6_add_17 : decode cX6_add 17 = .ok (.getfield 18, 3) := by decide +kernel
theorem dX6_add_20 : decode cX6_add 20 = .ok (.iload_n 1, 1) := by decide +kernel
theorem dX6_add_21 : decode cX6_add 21 = .ok (.iastore, 1) := by decide +kernel
theorem dX6_add_22 : decode cX6_add 22 = .ok (.aload_n 0, 1) := by decide +kernel
theorem dX6_add_23 : decode cX6_add 23 = .ok (.dup, 1) := by decide +kernel
theorem dX6_add_24 : decode cX6_add 24 = .ok (.getfield 18, 3) := by decide +kernel
theorem dX6_add_27 : decode cX6_add 27 = .ok (.iconst 1, 1) := by decide +kernel
theorem dX6_add_28 : decode cX6_add 28 = .ok (.iadd, 1) := by decide +kernel
theorem dX6_add_29 : decode cX6_add 29 = .ok (.putfield 18, 3) := by decide +kernel
theorem dX6_add_32 : decode cX6_add 32 = .ok (.return_, 1) := by decide +kernel
theorem dX6_value_0 : decode cX6_value 0 = .ok (.iconst 0, 1) := by decide +kernel
theorem dX6_value_1 : decode cX6_value 1 = .ok (.istore_n 2, 1) := by decide +kernel
theorem dX6_value_2 : decode cX6_value 2 = .ok (.iconst 0, 1) := by decide +kernel
theorem dX6_value_3 : decode cX6_value 3 = .ok (.istore_n 3, 1) := by decide +kernel
theorem dX6_value_4 : decode cX6_value 4 = .ok (.iload_n 3, 1) := by decide +kernel
theorem dX6_value_5 : decode cX6_value 5 = .ok (.aload_n 0, 1) := by decide +kernel
theorem dX6_value_6 : decode cX6_value 6 = .ok (.getfield 18, 3) := by decide +kernel
theorem dX6_value_9 : decode cX6_value 9 = .ok (.if_icmp .ge 148, 3) := by decide +kernel
theorem dX6_value_12 : decode cX6_value 12 = .ok (.aload_n 0, 1) := by decide +kernel
theorem dX6_value_13 : decode cX6_value 13 = .ok (.getfield 9, 3) := by decide +kernel
theorem dX6_value_16 : decode cX6_value 16 = .ok (.iload_n 3, 1) := by decide +kernel
theorem dX6_value_17 : decode cX6_value 17 = .ok (.iaload, 1) := by decide +kernel
theorem dX6_value_18 : decode cX6_value 18 = .ok (.istore 4, 2) := by decide +kernel
theorem dX6_value_20 : decode cX6_value 20 = .ok (.iload 4, 2) := by decide +kernel
theorem dX6_value_22 : decode cX6_value 22 = .ok (.sipush 20000, 3) := by decide +kernel
theorem dX6_value_25 : decode cX6_value 25 = .ok (.if_icmp .ge 47, 3) := by decide +kernel
theorem dX6_value_28 : decode cX6_value 28 = .ok (.iload_n 2, 1) := by decide +kernel
theorem dX6_value_29 : decode cX6_value 29 = .ok (.aload_n 0, 1) := by decide +kernel
theorem dX6_value_30 : decode cX6_value 30 = .ok (.getfield 15, 3) := by decide +kernel
theorem dX6_value_33 : decode cX6_value 33 = .ok (.arraylength, 1) := by decide +kernel
theorem dX6_value_34 : decode cX6_value 34 = .ok (.if_icmp .lt 5, 3) := by decide +kernel
theorem dX6_value_37 : decode cX6_value 37 = .ok (.iconst 0, 1) := by decide +kernel
theorem dX6_value_38 : decode cX6_value 38 = .ok (.ireturn, 1) := by decide +kernel
theorem dX6_value_39 : decode cX6_value 39 = .ok (.aload_n 0, 1) := by decide +kernel
theorem dX6_value_40 : decode cX6_value 40 = .ok (.getfield 15, 3) := by decide +kernel
theorem dX6_value_43 : decode cX6_value 43 = .ok (.iload_n 2, 1) := by decide +kernel
theorem dX6_value_44 : decode cX6_value 44 = .ok (.iload 4, 2) := by decide +kernel
theorem dX6_value_46 : decode cX6_value 46 = .ok (.sipush 10000, 3) := by decide +kernel
theorem dX6_value_49 : decode cX6_value 49 = .ok (.if_icmp .ge 8, 3) := by decide +kernel
theorem dX6_value_52 : decode cX6_value 52 = .ok (.iload 4, 2) := by decide +kernel
theorem dX6_value_54 : decode cX6_value 54 = .ok (.goto 11, 3) := by decide +kernel
theorem dX6_value_57 : decode cX6_value 57 = .ok (.aload_n 1, 1) := by decide +kernel
theorem dX6_value_58 : decode cX6_value 58 = .ok (.iload 4, 2) := by decide +kernel
theorem dX6_value_60 : decode cX6_value 60 = .ok (.sipush 10000, 3) := by decide +kernel
theorem dX6_value_63 : decode cX6_value 63 = .ok (.isub, 1) := by decide +kernel
theorem dX6_value_64 : decode cX6_value 64 = .ok (.iaload, 1) := by decide +kernel
theorem dX6_value_65 : decode cX6_value 65 = .ok (.iastore, 1) := by decide +kernel
theorem dX6_value_66 : decode cX6_value 66 = .ok (.iinc 2 1, 3) := by decide +kernel
theorem dX6_value_69 : decode cX6_value 69 = .ok (.goto 82, 3) := by decide +kernel
theorem dX6_value_72 : decode cX6_value 72 = .ok (.iload 4, 2) := by decide +kernel
theorem dX6_value_74 : decode cX6_value 74 = .ok (.sipush 20002, 3) := by decide +kernel
theorem dX6_value_77 : decode cX6_value 77 = .ok (.if_icmp .ne 37, 3) := by decide +kernel
theorem dX6_value_80 : decode cX6_value 80 = .ok (.iload_n 2, 1) := by decide +kernel
theorem dX6_value_81 : decode cX6_value 81 = .ok (.iconst 1, 1) := by decide +kernel
theorem dX6_value_82 : decode cX6_value 82 = .ok (.if_icmp .ge 5, 3) := by decide +kernel
theorem dX6_value_85 : decode cX6_value 85 = .ok (.iconst 0, 1) := by decide +kernel
theorem dX6_value_86 : decode cX6_value 86 = .ok (.ireturn, 1) := by decide +kernel
theorem dX6_value_87 : decode cX6_value 87 = .ok (.aload_n 0, 1) := by decide +kernel
theorem dX6_value_88 : decode cX6_value 88 = .ok (.getfield 15, 3) := by decide +kernel
theorem dX6_value_91 : decode cX6_value 91 = .ok (.iload_n 2, 1) := by decide +kernel
theorem dX6_value_92 : decode cX6_value 92 = .ok (.iconst 1, 1) := by decide +kernel
theorem dX6_value_93 : decode cX6_value 93 = .ok (.isub, 1) := by decide +kernel
theorem dX6_value_94 : decode cX6_value 94 = .ok (.aload_n 0, 1) := by decide +kernel
theorem dX6_value_95 : decode cX6_value 95 = .ok (.getfield 15, 3) := by decide +kernel
theorem dX6_value_98 : decode cX6_value 98 = .ok (.iload_n 2, 1) := by decide +kernel
theorem dX6_value_99 : decode cX6_value 99 = .ok (.iconst 1, 1) := by decide +kernel
theorem dX6_value_100 : decode cX6_value 100 = .ok (.isub, 1) := by decide +kernel
theorem dX6_value_101 : decode cX6_value 101 = .ok (.iaload, 1) := by decide +kernel
theorem dX6_value_102 : decode cX6_value 102 = .ok (.ifCond .ne 7, 3) := by decide +kernel
theorem dX6_value_105 : decode cX6_value 105 = .ok (.iconst 1, 1) := by decide +kernel
theorem dX6_value_106 : decode cX6_value 106 = .ok (.goto 4, 3) := by decide +kernel
theorem dX6_value_109 : decode cX6_value 109 = .ok (.iconst 0, 1) := by decide +kernel
theorem dX6_value_110 : decode cX6_value 110 = .ok (.iastore, 1) := by decide +kernel
theorem dX6_value_111 : decode cX6_value 111 = .ok (.goto 40, 3) := by decide +kernel
theorem dX6_value_114 : decode cX6_value 114 = .ok (.iload_n 2, 1) := by decide +kernel
theorem dX6_value_115 : decode cX6_value 115 = .ok (.iconst 2, 1) := by decide +kernel
theorem dX6_value_116 : decode cX6_value 116 = .ok (.if_icmp .ge 5, 3) := by decide +kernel
theorem dX6_value_119 : decode cX6_value 119 = .ok (.iconst 0, 1) := by decide +kernel
theorem dX6_value_120 : decode cX6_value 120 = .ok (.ireturn, 1) := by decide +kernel
theorem dX6_value_121 : decode cX6_value 121 = .ok (.iinc 2 (-1), 3) := by decide +kernel
theorem dX6_value_124 : decode cX6_value 124 = .ok (.aload_n 0, 1) := by decide +kernel
theorem dX6_value_125 : decode cX6_value 125 = .ok (.getfield 15, 3) := by decide +kernel
theorem dX6_value_128 : decode cX6_value 128 = .ok (.iload_n 2, 1) := by decide +kernel
theorem dX6_value_129 : decode cX6_value 129 = .ok (.iconst 1, 1) := by decide +kernel
theorem dX6_value_130 : decode cX6_value 130 = .ok (.isub, 1) := by decide +kernel
theorem dX6_value_131 : decode cX6_value 131 = .ok (.iload 4, 2) := by decide +kernel
theorem dX6_value_133 : decode cX6_value 133 = .ok (.aload_n 0, 1) := by decide +kernel
theorem dX6_value_134 : decode cX6_value 134 = .ok (.getfield 15, 3) := by decide +kernel
theorem dX6_value_137 : decode cX6_value 137 = .ok (.iload_n 2, 1) := by decide +kernel
theorem dX6_value_138 : decode cX6_value 138 = .ok (.iconst 1, 1) := by decide +kernel
theorem dX6_value_139 : decode cX6_value 139 = .ok (.isub, 1) := by decide +kernel
theorem dX6_value_140 : decode cX6_value 140 = .ok (.iaload, 1) := by decide +kernel
theorem dX6_value_141 : decode cX6_value 141 = .ok (.aload_n 0, 1) := by decide +kernel
theorem dX6_value_142 : decode cX6_value 142 = .ok (.getfield 15, 3) := by decide +kernel
theorem dX6_value_145 : decode cX6_value 145 = .ok (.iload_n 2, 1) := by decide +kernel
theorem dX6_value_146 : decode cX6_value 146 = .ok (.iaload, 1) := by decide +kernel
theorem dX6_value_147 : decode cX6_value 147 = .ok (.invokestatic 26, 3) := by decide +kernel
theorem dX6_value_150 : decode cX6_value 150 = .ok (.iastore, 1) := by decide +kernel
theorem dX6_value_151 : decode cX6_value 151 = .ok (.iinc 3 1, 3) := by decide +kernel
theorem dX6_value_154 : decode cX6_value 154 = .ok (.goto (-150), 3) := by decide +kernel
theorem dX6_value_157 : decode cX6_value 157 = .ok (.iload_n 2, 1) := by decide +kernel
theorem dX6_value_158 : decode cX6_value 158 = .ok (.iconst 1, 1) := by decide +kernel
theorem dX6_value_159 : decode cX6_value 159 = .ok (.if_icmp .ge 7, 3) := by decide +kernel
theorem dX6_value_162 : decode cX6_value 162 = .ok (.iconst 0, 1) := by decide +kernel
theorem dX6_value_163 : decode cX6_value 163 = .ok (.goto 9, 3) := by decide +kernel
theorem dX6_value_166 : decode cX6_value 166 = .ok (.aload_n 0, 1) := by decide +kernel
theorem dX6_value_167 : decode cX6_value 167 = .ok (.getfield 15, 3) := by decide +kernel
theorem dX6_value_170 : decode cX6_value 170 = .ok (.iconst 0, 1) := by decide +kernel
theorem dX6_value_171 : decode cX6_value 171 = .ok (.iaload, 1) := by decide +kernel
theorem dX6_value_172 : decode cX6_value 172 = .ok (.ireturn, 1) := by decide +kernel
theorem dX6_ofTwo_0 : decode cX6_ofTwo 0 = .ok (.iload_n 0, 1) := by decide +kernel
theorem dX6_ofTwo_1 : decode cX6_ofTwo 1 = .ok (.tableswitch 109 20000 20007 #[47, 61, 109, 75, 86, 97, 101, 105], 47) := by decide +kernel
theorem dX6_ofTwo_48 : decode cX6_ofTwo 48 = .ok (.iload_n 1, 1) := by decide +kernel
theorem dX6_ofTwo_49 : decode cX6_ofTwo 49 = .ok (.ifCond .ne 7, 3) := by decide +kernel
theorem dX6_ofTwo_52 : decode cX6_ofTwo 52 = .ok (.iload_n 2, 1) := by decide +kernel
theorem dX6_ofTwo_53 : decode cX6_ofTwo 53 = .ok (.ifCond .eq 7, 3) := by decide +kernel
theorem dX6_ofTwo_56 : decode cX6_ofTwo 56 = .ok (.iconst 1, 1) := by decide +kernel
theorem dX6_ofTwo_57 : decode cX6_ofTwo 57 = .ok (.goto 4, 3) := by decide +kernel
theorem dX6_ofTwo_60 : decode cX6_ofTwo 60 = .ok (.iconst 0, 1) := by decide +kernel
theorem dX6_ofTwo_61 : decode cX6_ofTwo 61 = .ok (.ireturn, 1) := by decide +kernel
theorem dX6_ofTwo_62 : decode cX6_ofTwo 62 = .ok (.iload_n 1, 1) := by decide +kernel
theorem dX6_ofTwo_63 : decode cX6_ofTwo 63 = .ok (.ifCond .eq 11, 3) := by decide +kernel
theorem dX6_ofTwo_66 : decode cX6_ofTwo 66 = .ok (.iload_n 2, 1) := by decide +kernel
theorem dX6_ofTwo_67 : decode cX6_ofTwo 67 = .ok (.ifCond .eq 7, 3) := by decide +kernel
theorem dX6_ofTwo_70 : decode cX6_ofTwo 70 = .ok (.iconst 1, 1) := by decide +kernel
theorem dX6_ofTwo_71 : decode cX6_ofTwo 71 = .ok (.goto 4, 3) := by decide +kernel
theorem dX6_ofTwo_74 : decode cX6_ofTwo 74 = .ok (.iconst 0, 1) := by decide +kernel
theorem dX6_ofTwo_75 : decode cX6_ofTwo 75 = .ok (.ireturn, 1) := by decide +kernel
theorem dX6_ofTwo_76 : decode cX6_ofTwo 76 = .ok (.iload_n 1, 1) := by decide +kernel
theorem dX6_ofTwo_77 : decode cX6_ofTwo 77 = .ok (.iload_n 2, 1) := by decide +kernel
theorem dX6_ofTwo_78 : decode cX6_ofTwo 78 = .ok (.if_icmp .ge 7, 3) := by decide +kernel
theorem dX6_ofTwo_81 : decode cX6_ofTwo 81 = .ok (.iconst 1, 1) := by decide +kernel
theorem dX6_ofTwo_82 : decode cX6_ofTwo 82 = .ok (.goto 4, 3) := by decide +kernel
theorem dX6_ofTwo_85 : decode cX6_ofTwo 85 = .ok (.iconst 0, 1) := by decide +kernel
theorem dX6_ofTwo_86 : decode cX6_ofTwo 86 = .ok (.ireturn, 1) := by decide +kernel
theorem dX6_ofTwo_87 : decode cX6_ofTwo 87 = .ok (.iload_n 1, 1) := by decide +kernel
theorem dX6_ofTwo_88 : decode cX6_ofTwo 88 = .ok (.iload_n 2, 1) := by decide +kernel
theorem dX6_ofTwo_89 : decode cX6_ofTwo 89 = .ok (.if_icmp .ne 7, 3) := by decide +kernel
theorem dX6_ofTwo_92 : decode cX6_ofTwo 92 = .ok (.iconst 1, 1) := by decide +kernel
theorem dX6_ofTwo_93 : decode cX6_ofTwo 93 = .ok (.goto 4, 3) := by decide +kernel
theorem dX6_ofTwo_96 : decode cX6_ofTwo 96 = .ok (.iconst 0, 1) := by decide +kernel
theorem dX6_ofTwo_97 : decode cX6_ofTwo 97 = .ok (.ireturn, 1) := by decide +kernel
theorem dX6_ofTwo_98 : decode cX6_ofTwo 98 = .ok (.iload_n 1, 1) := by decide +kernel
theorem dX6_ofTwo_99 : decode cX6_ofTwo 99 = .ok (.iload_n 2, 1) := by decide +kernel
theorem dX6_ofTwo_100 : decode cX6_ofTwo 100 = .ok (.iadd, 1) := by decide +kernel
theorem dX6_ofTwo_101 : decode cX6_ofTwo 101 = .ok (.ireturn, 1) := by decide +kernel
theorem dX6_ofTwo_102 : decode cX6_ofTwo 102 = .ok (.iload_n 1, 1) := by decide +kernel
theorem dX6_ofTwo_103 : decode cX6_ofTwo 103 = .ok (.iload_n 2, 1) := by decide +kernel
theorem dX6_ofTwo_104 : decode cX6_ofTwo 104 = .ok (.isub, 1) := by decide +kernel
theorem dX6_ofTwo_105 : decode cX6_ofTwo 105 = .ok (.ireturn, 1) := by decide +kernel
theorem dX6_ofTwo_106 : decode cX6_ofTwo 106 = .ok (.iload_n 1, 1) := by decide +kernel
theorem dX6_ofTwo_107 : decode cX6_ofTwo 107 = .ok (.iload_n 2, 1) := by decide +kernel
theorem dX6_ofTwo_108 : decode cX6_ofTwo 108 = .ok (.imul, 1) := by decide +kernel
theorem dX6_ofTwo_109 : decode cX6_ofTwo 109 = .ok (.ireturn, 1) := by decide +kernel
theorem dX6_ofTwo_110 : decode cX6_ofTwo 110 = .ok (.iload_n 2, 1) := by decide +kernel
theorem dX6_ofTwo_111 : decode cX6_ofTwo 111 = .ok (.ifCond .ne 7, 3) := by decide +kernel
theorem dX6_ofTwo_114 : decode cX6_ofTwo 114 = .ok (.iconst 0, 1) := by decide +kernel
theorem dX6_ofTwo_115 : decode cX6_ofTwo 115 = .ok (.goto 6, 3) := by decide +kernel
theorem dX6_ofTwo_118 : decode cX6_ofTwo 118 = .ok (.iload_n 1, 1) := by decide +kernel
theorem dX6_ofTwo_119 : decode cX6_ofTwo 119 = .ok (.iload_n 2, 1) := by decide +kernel
theorem dX6_ofTwo_120 : decode cX6_ofTwo 120 = .ok (.idiv, 1) := by decide +kernel
theorem dX6_ofTwo_121 : decode cX6_ofTwo 121 = .ok (.ireturn, 1) := by decide +kernel
theorem dX7_init_0 : decode cX7_init 0 = .ok (.aload_n 0, 1) := by decide +kernel
theorem dX7_init_1 : decode cX7_init 1 = .ok (.invokespecial 3, 3) := by decide +kernel
theorem dX7_init_4 : decode cX7_init 4 = .ok (.aload_n 0, 1) := by decide +kernel
theorem dX7_init_5 : decode cX7_init 5 = .ok (.bipush 6, 2) := by decide +kernel
theorem dX7_init_7 : decode cX7_init 7 = .ok (.newarray .int, 2) := by decide +kernel
theorem dX7_init_9 : decode cX7_init 9 = .ok (.putfield 9, 3) := by decide +kernel
theorem dX7_init_12 : decode cX7_init 12 = .ok (.aload_n 0, 1) := by decide +kernel
theorem dX7_init_13 : decode cX7_init 13 = .ok (.bipush 6, 2) := by decide +kernel
theorem dX7_init_15 : decode cX7_init 15 = .ok (.newarray .int, 2) := by decide +kernel
theorem dX7_init_17 : decode cX7_init 17 = .ok (.putfield 15, 3) := by decide +kernel
theorem dX7_init_20 : decode cX7_init 20 = .ok (.aload_n 0, 1) := by decide +kernel
theorem dX7_init_21 : decode cX7_init 21 = .ok (.bipush 48, 2) := by decide +kernel
theorem dX7_init_23 : decode cX7_init 23 = .ok (.newarray .int, 2) := by decide +kernel
theorem dX7_init_25 : decode cX7_init 25 = .ok (.putfield 18, 3) := by decide +kernel
theorem dX7_init_28 : decode cX7_init 28 = .ok (.aload_n 0, 1) := by decide +kernel
theorem dX7_init_29 : decode cX7_init 29 = .ok (.new 21, 3) := by decide +kernel
theorem dX7_init_32 : decode cX7_init 32 = .ok (.dup, 1) := by decide +kernel
theorem dX7_init_33 : decode cX7_init 33 = .ok (.invokespecial 23, 3) := by decide +kernel
theorem dX7_init_36 : decode cX7_init 36 = .ok (.putfield 24, 3) := by decide +kernel
theorem dX7_init_39 : decode cX7_init 39 = .ok (.aload_n 0, 1) := by decide +kernel
theorem dX7_init_40 : decode cX7_init 40 = .ok (.new 28, 3) := by decide +kernel
theorem dX7_init_43 : decode cX7_init 43 = .ok (.dup, 1) := by decide +kernel
theorem dX7_init_44 : decode cX7_init 44 = .ok (.invokespecial 30, 3) := by decide +kernel
theorem dX7_init_47 : decode cX7_init 47 = .ok (.putfield 31, 3) := by decide +kernel
theorem dX7_init_50 : decode cX7_init 50 = .ok (.aload_n 0, 1) := by decide +kernel
theorem dX7_init_51 : decode cX7_init 51 = .ok (.bipush 6, 2) := by decide +kernel
theorem dX7_init_53 : decode cX7_init 53 = .ok (.newarray .int, 2) := by decide +kernel
theorem dX7_init_55 : decode cX7_init 55 = .ok (.putfield 35, 3) := by decide +kernel
theorem dX7_init_58 : decode cX7_init 58 = .ok (.aload_n 0, 1) := by decide +kernel
theorem dX7_init_59 : decode cX7_init 59 = .ok (.bipush 9, 2) := by decide +kernel
theorem dX7_init_61 : decode cX7_init 61 = .ok (.newarray .int, 2) := by decide +kernel
theorem dX7_init_63 : decode cX7_init 63 = .ok (.putfield 38, 3) := by decide +kernel
theorem dX7_init_66 : decode cX7_init 66 = .ok (.aload_n 0, 1) := by decide +kernel
theorem dX7_init_67 : decode cX7_init 67 = .ok (.bipush 9, 2) := by decide +kernel
theorem dX7_init_69 : decode cX7_init 69 = .ok (.newarray .int, 2) := by decide +kernel
theorem dX7_init_71 : decode cX7_init 71 = .ok (.putfield 41, 3) := by decide +kernel
theorem dX7_init_74 : decode cX7_init 74 = .ok (.return_, 1) := by decide +kernel
theorem dX7_clear_0 : decode cX7_clear 0 = .ok (.aload_n 0, 1) := by decide +kernel
theorem dX7_clear_1 : decode cX7_clear 1 = .ok (.iconst 0, 1) := by decide +kernel
theorem dX7_clear_2 : decode cX7_clear 2 = .ok (.putfield 44, 3) := by decide +kernel
theorem dX7_clear_5 : decode cX7_clear 5 = .ok (.aload_n 0, 1) := by decide +kernel
theorem dX7_clear_6 : decode cX7_clear 6 = .ok (.getfield 24, 3) := by decide +kernel
theorem dX7_clear_9 : decode cX7_clear 9 = .ok (.invokevirtual 48, 3) := by decide +kernel
theorem dX7_clear_12 : decode cX7_clear 12 = .ok (.aload_n 0, 1) := by decide +kernel
theorem dX7_clear_13 : decode cX7_clear 13 = .ok (.getfield 31, 3) := by decide +kernel
theorem dX7_clear_16 : decode cX7_clear 16 = .ok (.invokevirtual 51, 3) := by decide +kernel
theorem dX7_clear_19 : decode cX7_clear 19 = .ok (.return_, 1) := by decide +kernel
theorem dX7_hardOf_0 : decode cX7_hardOf 0 = .ok (.iload_n 1, 1) := by decide +kernel
theorem dX7_hardOf_1 : decode cX7_hardOf 1 = .ok (.ifCond .lt 25, 3) := by decide +kernel
theorem dX7_hardOf_4 : decode cX7_hardOf 4 = .ok (.iload_n 1, 1) := by decide +kernel
theorem dX7_hardOf_5 : decode cX7_hardOf 5 = .ok (.aload_n 0, 1) := by decide +kernel
theorem dX7_hardOf_6 : decode cX7_hardOf 6 = .ok (.getfield 44, 3) := by decide +kernel
theorem dX7_hardOf_9 : decode cX7_hardOf 9 = .ok (.if_icmp .ge 17, 3) := by decide +kernel
theorem dX7_hardOf_12 : decode cX7_hardOf 12 = .ok (.iload_n 2, 1) := by decide +kernel
theorem dX7_hardOf_13 : decode cX7_hardOf 13 = .ok (.ifCond .lt 13, 3) := by decide +kernel
theorem dX7_hardOf_16 : decode cX7_hardOf 16 = .ok (.iload_n 2, 1) := by decide +kernel
theorem dX7_hardOf_17 : decode cX7_hardOf 17 = .ok (.aload_n 0, 1) := by decide +kernel
theorem dX7_hardOf_18 : decode cX7_hardOf 18 = .ok (.getfield 9, 3) := by decide +kernel
theorem dX7_hardOf_21 : decode cX7_hardOf 21 = .ok (.iload_n 1, 1) := by decide +kernel
theorem dX7_hardOf_22 : decode cX7_hardOf 22 = .ok (.iaload, 1) := by decide +kernel
theorem dX7_hardOf_23 : decode cX7_hardOf 23 = .ok (.if_icmp .lt 5, 3) := by decide +kernel
theorem dX7_hardOf_26 : decode cX7_hardOf 26 = .ok (.iconst 0, 1) := by decide +kernel
theorem dX7_hardOf_27 : decode cX7_hardOf 27 = .ok (.ireturn, 1) := by decide +kernel
theorem dX7_hardOf_28 : decode cX7_hardOf 28 = .ok (.aload_n 0, 1) := by decide +kernel
theorem dX7_hardOf_29 : decode cX7_hardOf 29 = .ok (.getfield 18, 3) := by decide +kernel
theorem dX7_hardOf_32 : decode cX7_hardOf 32 = .ok (.iload_n 1, 1) := by decide +kernel
theorem dX7_hardOf_33 : decode cX7_hardOf 33 = .ok (.bipush 8, 2) := by decide +kernel
theorem dX7_hardOf_35 : decode cX7_hardOf 35 = .ok (.imul, 1) := by decide +kernel
theorem dX7_hardOf_36 : decode cX7_hardOf 36 = .ok (.iload_n 2, 1) := by decide +kernel
theorem dX7_hardOf_37 : decode cX7_hardOf 37 = .ok (.iadd, 1) := by decide +kernel
theorem dX7_hardOf_38 : decode cX7_hardOf 38 = .ok (.iaload, 1) := by decide +kernel
theorem dX7_hardOf_39 : decode cX7_hardOf 39 = .ok (.ireturn, 1) := by decide +kernel
theorem dX7_barsOf_0 : decode cX7_barsOf 0 = .ok (.iload_n 1, 1) := by decide +kernel
theorem dX7_barsOf_1 : decode cX7_barsOf 1 = .ok (.ifCond .lt 11, 3) := by decide +kernel
theorem dX7_barsOf_4 : decode cX7_barsOf 4 = .ok (.iload_n 1, 1) := by decide +kernel
theorem dX7_barsOf_5 : decode cX7_barsOf 5 = .ok (.aload_n 0, 1) := by decide +kernel
theorem dX7_barsOf_6 : decode cX7_barsOf 6 = .ok (.getfield 44, 3) := by decide +kernel
theorem dX7_barsOf_9 : decode cX7_barsOf 9 = .ok (.if_icmp .lt 7, 3) := by decide +kernel
theorem dX7_barsOf_12 : decode cX7_barsOf 12 = .ok (.iconst 0, 1) := by decide +kernel
theorem dX7_barsOf_13 : decode cX7_barsOf 13 = .ok (.goto 9, 3) := by decide +kernel
theorem dX7_barsOf_16 : decode cX7_barsOf 16 = .ok (.aload_n 0, 1) := by decide +kernel
theorem dX7_barsOf_17 : decode cX7_barsOf 17 = .ok (.getfield 9, 3) := by decide +kernel
theorem dX7_barsOf_20 : decode cX7_barsOf 20 = .ok (.iload_n 1, 1) := by decide +kernel
theorem dX7_barsOf_21 : decode cX7_barsOf 21 = .ok (.iaload, 1) := by decide +kernel
theorem dX7_barsOf_22 : decode cX7_barsOf 22 = .ok (.ireturn, 1) := by decide +kernel
theorem dX7_isStudy_0 : decode cX7_isStudy 0 = .ok (.iload_n 1, 1) := by decide +kernel
theorem dX7_isStudy_1 : decode cX7_isStudy 1 = .ok (.ifCond .lt 25, 3) := by decide +kernel
theorem dX7_isStudy_4 : decode cX7_isStudy 4 = .ok (.iload_n 1, 1) := by decide +kernel
theorem dX7_isStudy_5 : decode cX7_isStudy 5 = .ok (.aload_n 0, 1) := by decide +kernel
theorem dX7_isStudy_6 : decode cX7_isStudy 6 = .ok (.getfield 44, 3) := by decide +kernel
theorem dX7_isStudy_9 : decode cX7_isStudy 9 = .ok (.if_icmp .ge 17, 3) := by decide +kernel
theorem dX7_isStudy_12 : decode cX7_isStudy 12 = .ok (.aload_n 0, 1) := by decide +kernel
theorem dX7_isStudy_13 : decode cX7_isStudy 13 = .ok (.getfield 15, 3) := by decide +kernel
theorem dX7_isStudy_16 : decode cX7_isStudy 16 = .ok (.iload_n 1, 1) := by decide +kernel
theorem dX7_isStudy_17 : decode cX7_isStudy 17 = .ok (.iaload, 1) := by decide +kernel
theorem dX7_isStudy_18 : decode cX7_isStudy 18 = .ok (.iconst 1, 1) := by decide +kernel
theorem dX7_isStudy_19 : decode cX7_isStudy 19 = .ok (.if_icmp .ne 7, 3) := by decide +kernel
theorem dX7_isStudy_22 : decode cX7_isStudy 22 = .ok (.iconst 1, 1) := by decide +kernel
theorem dX7_isStudy_23 : decode cX7_isStudy 23 = .ok (.goto 4, 3) := by decide +kernel
theorem dX7_isStudy_26 : decode cX7_isStudy 26 = .ok (.iconst 0, 1) := by decide +kernel
theorem dX7_isStudy_27 : decode cX7_isStudy 27 = .ok (.ireturn, 1) := by decide +kernel
theorem dX7_steps_0 : decode cX7_steps 0 = .ok (.iconst 0, 1) := by decide +kernel
theorem dX7_steps_1 : decode cX7_steps 1 = .ok (.istore_n 2, 1) := by decide +kernel
theorem dX7_steps_2 : decode cX7_steps 2 = .ok (.iconst 1, 1) := by decide +kernel
theorem dX7_steps_3 : decode cX7_steps 3 = .ok (.istore_n 3, 1) := by decide +kernel
theorem dX7_steps_4 : decode cX7_steps 4 = .ok (.iload_n 3, 1) := by decide +kernel
theorem dX7_steps_5 : decode cX7_steps 5 = .ok (.aload_n 0, 1) := by decide +kernel
theorem dX7_steps_6 : decode cX7_steps 6 = .ok (.iload_n 1, 1) := by decide +kernel
theorem dX7_steps_7 : decode cX7_steps 7 = .ok (.invokevirtual 52, 3) := by decide +kernel
theorem dX7_steps_10 : decode cX7_steps 10 = .ok (.if_icmp .ge 29, 3) := by decide +kernel
theorem dX7_steps_13 : decode cX7_steps 13 = .ok (.iload_n 2, 1) := by decide +kernel
theorem dX7_steps_14 : decode cX7_steps 14 = .ok (.aload_n 0, 1) := by decide +kernel
theorem dX7_steps_15 : decode cX7_steps 15 = .ok (.iload_n 1, 1) := by decide +kernel
theorem dX7_steps_16 : decode cX7_steps 16 = .ok (.iload_n 3, 1) := by decide +kernel
theorem dX7_steps_17 : decode cX7_steps 17 = .ok (.invokevirtual 56, 3) := by decide +kernel
theorem dX7_steps_20 : decode cX7_steps 20 = .ok (.aload_n 0, 1) := by decide +kernel
theorem dX7_steps_21 : decode cX7_steps 21 = .ok (.iload_n 1, 1) := by decide +kernel
theorem dX7_steps_22 : decode cX7_steps 22 = .ok (.iload_n 3, 1) := by decide +kernel
theorem dX7_steps_23 : decode cX7_steps 23 = .ok (.iconst 1, 1) := by decide +kernel
theorem dX7_steps_24 : decode cX7_steps 24 = .ok (.isub, 1) := by decide +kernel
theorem dX7_steps_25 : decode cX7_steps 25 = .ok (.invokevirtual 56, 3) := by decide +kernel
theorem dX7_steps_28 : decode cX7_steps 28 = .ok (.isub, 1) := by decide +kernel
theorem dX7_steps_29 : decode cX7_steps 29 = .ok (.invokestatic 60, 3) := by decide +kernel
theorem dX7_steps_32 : decode cX7_steps 32 = .ok (.istore_n 2, 1) := by decide +kernel
theorem dX7_steps_33 : decode cX7_steps 33 = .ok (.iinc 3 1, 3) := by decide +kernel
theorem dX7_steps_36 : decode cX7_steps 36 = .ok (.goto (-32), 3) := by decide +kernel
theorem dX7_steps_39 : decode cX7_steps 39 = .ok (.iload_n 2, 1) := by decide +kernel
theorem dX7_steps_40 : decode cX7_steps 40 = .ok (.ireturn, 1) := by decide +kernel
theorem dX7_barsThatFit_0 : decode cX7_barsThatFit 0 = .ok (.iconst 0, 1) := by decide +kernel
theorem dX7_barsThatFit_1 : decode cX7_barsThatFit 1 = .ok (.istore_n 3, 1) := by decide +kernel
theorem dX7_barsThatFit_2 : decode cX7_barsThatFit 2 = .ok (.iload_n 3, 1) := by decide +kernel
theorem dX7_barsThatFit_3 : decode cX7_barsThatFit 3 = .ok (.aload_n 0, 1) := by decide +kernel
theorem dX7_barsThatFit_4 : decode cX7_barsThatFit 4 = .ok (.iload_n 2, 1) := by decide +kernel
theorem dX7_barsThatFit_5 : decode cX7_barsThatFit 5 = .ok (.invokevirtual 52, 3) := by decide +kernel
theorem dX7_barsThatFit_8 : decode cX7_barsThatFit 8 = .ok (.if_icmp .ge 19, 3) := by decide +kernel
theorem dX7_barsThatFit_11 : decode cX7_barsThatFit 11 = .ok (.aload_n 0, 1) := by decide +kernel
theorem dX7_barsThatFit_12 : decode cX7_barsThatFit 12 = .ok (.iload_n 2, 1) := by decide +kernel
theorem dX7_barsThatFit_13 : decode cX7_barsThatFit 13 = .ok (.iload_n 3, 1) := by decide +kernel
theorem dX7_barsThatFit_14 : decode cX7_barsThatFit 14 = .ok (.invokevirtual 56, 3) := by decide +kernel
theorem dX7_barsThatFit_17 : decode cX7_barsThatFit 17 = .ok (.iload_n 1, 1) := by decide +kernel
theorem dX7_barsThatFit_18 : decode cX7_barsThatFit 18 = .ok (.if_icmp .gt 9, 3) := by decide +kernel
theorem dX7_barsThatFit_21 : decode cX7_barsThatFit 21 = .ok (.iinc 3 1, 3) := by decide +kernel
theorem dX7_barsThatFit_24 : decode cX7_barsThatFit 24 = .ok (.goto (-22), 3) := by decide +kernel
theorem dX7_barsThatFit_27 : decode cX7_barsThatFit 27 = .ok (.iload_n 3, 1) := by decide +kernel
theorem dX7_barsThatFit_28 : decode cX7_barsThatFit 28 = .ok (.ireturn, 1) := by decide +kernel
theorem dX7_longestCommonRow_0 : decode cX7_longestCommonRow 0 = .ok (.iconst 0, 1) := by decide +kernel
theorem dX7_longestCommonRow_1 : decode cX7_longestCommonRow 1 = .ok (.istore_n 3, 1) := by decide +kernel
theorem dX7_longestCommonRow_2 : decode cX7_longestCommonRow 2 = .ok (.iload_n 3, 1) := by decide +kernel
theorem dX7_longestCommonRow_3 : decode cX7_longestCommonRow 3 = .ok (.bipush 8, 2) := by decide +kernel
theorem dX7_longestCommonRow_5 : decode cX7_longestCommonRow 5 = .ok (.if_icmp .gt 23, 3) := by decide +kernel
theorem dX7_longestCommonRow_8 : decode cX7_longestCommonRow 8 = .ok (.aload_n 0, 1) := by decide +kernel
theorem dX7_longestCommonRow_9 : decode cX7_longestCommonRow 9 = .ok (.getfield 38, 3) := by decide +kernel
theorem dX7_longestCommonRow_12 : decode cX7_longestCommonRow 12 = .ok (.iload_n 3, 1) := by decide +kernel
theorem dX7_longestCommonRow_13 : decode cX7_longestCommonRow 13 = .ok (.iconst 0, 1) := by decide +kernel
theorem dX7_longestCommonRow_14 : decode cX7_longestCommonRow 14 = .ok (.iastore, 1) := by decide +kernel
theorem dX7_longestCommonRow_15 : decode cX7_longestCommonRow 15 = .ok (.aload_n 0, 1) := by decide +kernel
theorem dX7_longestCommonRow_16 : decode cX7_longestCommonRow 16 = .ok (.getfield 41, 3) := by decide +kernel
theorem dX7_longestCommonRow_19 : decode cX7_longestCommonRow 19 = .ok (.iload_n 3, 1) := by decide +kernel
theorem dX7_longestCommonRow_20 : decode cX7_longestCommonRow 20 = .ok (.iconst 0, 1) := by decide +kernel
theorem dX7_longestCommonRow_21 : decode cX7_longestCommonRow 21 = .ok (.iastore, 1) := by decide +kernel
theorem dX7_longestCommonRow_22 : decode cX7_longestCommonRow 22 = .ok (.iinc 3 1, 3) := by decide +kernel
theorem dX7_longestCommonRow_25 : decode cX7_longestCommonRow 25 = .ok (.goto (-23), 3) := by decide +kernel
theorem dX7_longestCommonRow_28 : decode cX7_longestCommonRow 28 = .ok (.aload_n 0, 1) := by decide +kernel
theorem dX7_longestCommonRow_29 : decode cX7_longestCommonRow 29 = .ok (.iload_n 2, 1) := by decide +kernel
theorem dX7_longestCommonRow_30 : decode cX7_longestCommonRow 30 = .ok (.invokevirtual 52, 3) := by decide +kernel
theorem dX7_longestCommonRow_33 : decode cX7_longestCommonRow 33 = .ok (.istore_n 3, 1) := by decide +kernel
theorem dX7_longestCommonRow_34 : decode cX7_longestCommonRow 34 = .ok (.iconst 0, 1) := by decide +kernel
theorem dX7_longestCommonRow_35 : decode cX7_longestCommonRow 35 = .ok (.istore 4, 2) := by decide +kernel
theorem dX7_longestCommonRow_37 : decode cX7_longestCommonRow 37 = .ok (.iload 4, 2) := by decide +kernel
theorem dX7_longestCommonRow_39 : decode cX7_longestCommonRow 39 = .ok (.aload_n 0, 1) := by decide +kernel
theorem dX7_longestCommonRow_40 : decode cX7_longestCommonRow 40 = .ok (.iload_n 1, 1) := by decide +kernel
theorem dX7_longestCommonRow_41 : decode cX7_longestCommonRow 41 = .ok (.invokevirtual 52, 3) := by decide +kernel
theorem dX7_longestCommonRow_44 : decode cX7_longestCommonRow 44 = .ok (.if_icmp .ge 111, 3) := by decide +kernel
theorem dX7_longestCommonRow_47 : decode cX7_longestCommonRow 47 = .ok (.iconst 0, 1) := by decide +kernel
theorem dX7_longestCommonRow_48 : decode cX7_longestCommonRow 48 = .ok (.istore 5, 2) := by decide +kernel
theorem dX7_longestCommonRow_50 : decode cX7_longestCommonRow 50 = .ok (.iload 5, 2) := by decide +kernel
theorem dX7_longestCommonRow_52 : decode cX7_longestCommonRow 52 = .ok (.iload_n 3, 1) := by decide +kernel
theorem dX7_longestCommonRow_53 : decode cX7_longestCommonRow 53 = .ok (.if_icmp .ge 78, 3) := by decide +kernel
theorem dX7_longestCommonRow_56 : decode cX7_longestCommonRow 56 = .ok (.aload_n 0, 1) := by decide +kernel
theorem dX7_longestCommonRow_57 : decode cX7_longestCommonRow 57 = .ok (.iload_n 1, 1) := by decide +kernel
theorem dX7_longestCommonRow_58 : decode cX7_longestCommonRow 58 = .ok (.iload 4, 2) := by decide +kernel
theorem dX7_longestCommonRow_60 : decode cX7_longestCommonRow 60 = .ok (.invokevirtual 56, 3) := by decide +kernel
theorem dX7_longestCommonRow_63 : decode cX7_longestCommonRow 63 = .ok (.aload_n 0, 1) := by decide +kernel
theorem dX7_longestCommonRow_64 : decode cX7_longestCommonRow 64 = .ok (.iload_n 2, 1) := by decide +kernel
theorem dX7_longestCommonRow_65 : decode cX7_longestCommonRow 65 = .ok (.iload 5, 2) := by decide +kernel
theorem dX7_longestCommonRow_67 : decode cX7_longestCommonRow 67 = .ok (.invokevirtual 56, 3) := by decide +kernel
theorem dX7_longestCommonRow_70 : decode cX7_longestCommonRow 70 = .ok (.if_icmp .ne 7, 3) := by decide +kernel
theorem dX7_longestCommonRow_73 : decode cX7_longestCommonRow 73 = .ok (.iconst 1, 1) := by decide +kernel
theorem dX7_longestCommonRow_74 : decode cX7_longestCommonRow 74 = .ok (.goto 4, 3) := by decide +kernel
theorem dX7_longestCommonRow_77 : decode cX7_longestCommonRow 77 = .ok (.iconst 0, 1) := by decide +kernel
theorem dX7_longestCommonRow_78 : decode cX7_longestCommonRow 78 = .ok (.istore 6, 2) := by decide +kernel
theorem dX7_longestCommonRow_80 : decode cX7_longestCommonRow 80 = .ok (.aload_n 0, 1) := by decide +kernel
theorem dX7_longestCommonRow_81 : decode cX7_longestCommonRow 81 = .ok (.getfield 41, 3) := by decide +kernel
theorem dX7_longestCommonRow_84 : decode cX7_longestCommonRow 84 = .ok (.iload 5, 2) := by decide +kernel
theorem dX7_longestCommonRow_86 : decode cX7_longestCommonRow 86 = .ok (.iconst 1, 1) := by decide +kernel
theorem dX7_longestCommonRow_87 : decode cX7_longestCommonRow 87 = .ok (.iadd, 1) := by decide +kernel
theorem dX7_longestCommonRow_88 : decode cX7_longestCommonRow 88 = .ok (.iload 6, 2) := by decide +kernel
theorem dX7_longestCommonRow_90 : decode cX7_longestCommonRow 90 = .ok (.ifCond .eq 15, 3) := by decide +kernel
theorem dX7_longestCommonRow_93 : decode cX7_longestCommonRow 93 = .ok (.aload_n 0, 1) := by decide +kernel
theorem dX7_longestCommonRow_94 : decode cX7_longestCommonRow 94 = .ok (.getfield 38, 3) := by decide +kernel
theorem dX7_longestCommonRow_97 : decode cX7_longestCommonRow 97 = .ok (.iload 5, 2) := by decide +kernel
theorem dX7_longestCommonRow_99 : decode cX7_longestCommonRow 99 = .ok (.iaload, 1) := by decide +kernel
theorem dX7_longestCommonRow_100 : decode cX7_longestCommonRow 100 = .ok (.iconst 1, 1) := by decide +kernel
theorem dX7_longestCommonRow_101 : decode cX7_longestCommonRow 101 = .ok (.iadd, 1) := by decide +kernel
theorem dX7_longestCommonRow_102 : decode cX7_longestCommonRow 102 = .ok (.goto 22, 3) := by decide +kernel
theorem dX7_longestCommonRow_105 : decode cX7_longestCommonRow 105 = .ok (.aload_n 0, 1) := by decide +kernel
theorem dX7_longestCommonRow_106 : decode cX7_longestCommonRow 106 = .ok (.getfield 38, 3) := by decide +kernel
theorem dX7_longestCommonRow_109 : decode cX7_longestCommonRow 109 = .ok (.iload 5, 2) := by decide +kernel
theorem dX7_longestCommonRow_111 : decode cX7_longestCommonRow 111 = .ok (.iconst 1, 1) := by decide +kernel
theorem dX7_longestCommonRow_112 : decode cX7_longestCommonRow 112 = .ok (.iadd, 1) := by decide +kernel
theorem dX7_longestCommonRow_113 : decode cX7_longestCommonRow 113 = .ok (.iaload, 1) := by decide +kernel
theorem dX7_longestCommonRow_114 : decode cX7_longestCommonRow 114 = .ok (.aload_n 0, 1) := by decide +kernel
theorem dX7_longestCommonRow_115 : decode cX7_longestCommonRow 115 = .ok (.getfield 41, 3) := by decide +kernel
theorem dX7_longestCommonRow_118 : decode cX7_longestCommonRow 118 = .ok (.iload 5, 2) := by decide +kernel
theorem dX7_longestCommonRow_120 : decode cX7_longestCommonRow 120 = .ok (.iaload, 1) := by decide +kernel
theorem dX7_longestCommonRow_121 : decode cX7_longestCommonRow 121 = .ok (.invokestatic 60, 3) := by decide +kernel
theorem dX7_longestCommonRow_124 : decode cX7_longestCommonRow 124 = .ok (.iastore, 1) := by decide +kernel
theorem dX7_longestCommonRow_125 : decode cX7_longestCommonRow 125 = .ok (.iinc 5 1, 3) := by decide +kernel
theorem dX7_longestCommonRow_128 : decode cX7_longestCommonRow 128 = .ok (.goto (-78), 3) := by decide +kernel
theorem dX7_longestCommonRow_131 : decode cX7_longestCommonRow 131 = .ok (.aload_n 0, 1) := by decide +kernel
theorem dX7_longestCommonRow_132 : decode cX7_longestCommonRow 132 = .ok (.getfield 41, 3) := by decide +kernel
theorem dX7_longestCommonRow_135 : decode cX7_longestCommonRow 135 = .ok (.iconst 0, 1) := by decide +kernel
theorem dX7_longestCommonRow_136 : decode cX7_longestCommonRow 136 = .ok (.aload_n 0, 1) := by decide +kernel
theorem dX7_longestCommonRow_137 : decode cX7_longestCommonRow 137 = .ok (.getfield 38, 3) := by decide +kernel
theorem dX7_longestCommonRow_140 : decode cX7_longestCommonRow 140 = .ok (.iconst 0, 1) := by decide +kernel
theorem dX7_longestCommonRow_141 : decode cX7_longestCommonRow 141 = .ok (.aload_n 0, 1) := by decide +kernel
theorem dX7_longestCommonRow_142 : decode cX7_longestCommonRow 142 = .ok (.getfield 41, 3) := by decide +kernel
theorem dX7_longestCommonRow_145 : decode cX7_longestCommonRow 145 = .ok (.arraylength, 1) := by decide +kernel
theorem dX7_longestCommonRow_146 : decode cX7_longestCommonRow 146 = .ok (.invokestatic 65, 3) := by decide +kernel
theorem dX7_longestCommonRow_149 : decode cX7_longestCommonRow 149 = .ok (.iinc 4 1, 3) := by decide +kernel
theorem dX7_longestCommonRow_152 : decode cX7_longestCommonRow 152 = .ok (.goto (-115), 3) := by decide +kernel
theorem dX7_longestCommonRow_155 : decode cX7_longestCommonRow 155 = .ok (.aload_n 0, 1) := by decide +kernel
theorem dX7_longestCommonRow_156 : decode cX7_longestCommonRow 156 = .ok (.getfield 38, 3) := by decide +kernel
theorem dX7_longestCommonRow_159 : decode cX7_longestCommonRow 159 = .ok (.iload_n 3, 1) := by decide +kernel
theorem dX7_longestCommonRow_160 : decode cX7_longestCommonRow 160 = .ok (.iaload, 1) := by decide +kernel
theorem dX7_longestCommonRow_161 : decode cX7_longestCommonRow 161 = .ok (.ireturn, 1) := by decide +kernel
theorem dX7_isDone_0 : decode cX7_isDone 0 = .ok (.aload_n 1, 1) := by decide +kernel
theorem dX7_isDone_1 : decode cX7_isDone 1 = .ok (.getfield 71, 3) := by decide +kernel
theorem dX7_isDone_4 : decode cX7_isDone 4 = .ok (.aload_n 0, 1) := by decide +kernel
theorem dX7_isDone_5 : decode cX7_isDone 5 = .ok (.aload_n 1, 1) := by decide +kernel
theorem dX7_isDone_6 : decode cX7_isDone 6 = .ok (.getfield 75, 3) := by decide +kernel
theorem dX7_isDone_9 : decode cX7_isDone 9 = .ok (.invokevirtual 52, 3) := by decide +kernel
theorem dX7_isDone_12 : decode cX7_isDone 12 = .ok (.if_icmp .lt 7, 3) := by decide +kernel
theorem dX7_isDone_15 : decode cX7_isDone 15 = .ok (.iconst 1, 1) := by decide +kernel
theorem dX7_isDone_16 : decode cX7_isDone 16 = .ok (.goto 4, 3) := by decide +kernel
theorem dX7_isDone_19 : decode cX7_isDone 19 = .ok (.iconst 0, 1) := by decide +kernel
theorem dX7_isDone_20 : decode cX7_isDone 20 = .ok (.ireturn, 1) := by decide +kernel
theorem dX7_nextHard_0 : decode cX7_nextHard 0 = .ok (.aload_n 0, 1) := by decide +kernel
theorem dX7_nextHard_1 : decode cX7_nextHard 1 = .ok (.aload_n 1, 1) := by decide +kernel
theorem dX7_nextHard_2 : decode cX7_nextHard 2 = .ok (.getfield 75, 3) := by decide +kernel
theorem dX7_nextHard_5 : decode cX7_nextHard 5 = .ok (.aload_n 1, 1) := by decide +kernel
theorem dX7_nextHard_6 : decode cX7_nextHard 6 = .ok (.getfield 71, 3) := by decide +kernel
theorem dX7_nextHard_9 : decode cX7_nextHard 9 = .ok (.invokevirtual 56, 3) := by decide +kernel
theorem dX7_nextHard_12 : decode cX7_nextHard 12 = .ok (.ireturn, 1) := by decide +kernel
theorem dX7_practise_0 : decode cX7_practise 0 = .ok (.aload_n 1, 1) := by decide +kernel
theorem dX7_practise_1 : decode cX7_practise 1 = .ok (.getfield 78, 3) := by decide +kernel
theorem dX7_practise_4 : decode cX7_practise 4 = .ok (.bipush 99, 2) := by decide +kernel
theorem dX7_practise_6 : decode cX7_practise 6 = .ok (.if_icmp .lt 4, 3) := by decide +kernel
theorem dX7_practise_9 : decode cX7_practise 9 = .ok (.return_, 1) := by decide +kernel
theorem dX7_practise_10 : decode cX7_practise 10 = .ok (.iconst 5, 1) := by decide +kernel
theorem dX7_practise_11 : decode cX7_practise 11 = .ok (.aload_n 1, 1) := by decide +kernel
theorem dX7_practise_12 : decode cX7_practise 12 = .ok (.getfield 81, 3) := by decide +kernel
theorem dX7_practise_15 : decode cX7_practise 15 = .ok (.iconst 2, 1) := by decide +kernel
theorem dX7_practise_16 : decode cX7_practise 16 = .ok (.idiv, 1) := by decide +kernel
theorem dX7_practise_17 : decode cX7_practise 17 = .ok (.isub, 1) := by decide +kernel
theorem dX7_practise_18 : decode cX7_practise 18 = .ok (.istore_n 2, 1) := by decide +kernel
theorem dX7_practise_19 : decode cX7_practise 19 = .ok (.aload_n 0, 1) := by decide +kernel
theorem dX7_practise_20 : decode cX7_practise 20 = .ok (.getfield 24, 3) := by decide +kernel
theorem dX7_practise_23 : decode cX7_practise 23 = .ok (.getfield 84, 3) := by decide +kernel
theorem dX7_practise_26 : decode cX7_practise 26 = .ok (.ifCond .eq 92, 3) := by decide +kernel
theorem dX7_practise_29 : decode cX7_practise 29 = .ok (.aload_n 0, 1) := by decide +kernel
theorem dX7_practise_30 : decode cX7_practise 30 = .ok (.getfield 35, 3) := by decide +kernel
theorem dX7_practise_33 : decode cX7_practise 33 = .ok (.iconst 0, 1) := by decide +kernel
theorem dX7_practise_34 : decode cX7_practise 34 = .ok (.aload_n 1, 1) := by decide +kernel
theorem dX7_practise_35 : decode cX7_practise 35 = .ok (.getfield 78, 3) := by decide +kernel
theorem dX7_practise_38 : decode cX7_practise 38 = .ok (.iastore, 1) := by decide +kernel
theorem dX7_practise_39 : decode cX7_practise 39 = .ok (.aload_n 0, 1) := by decide +kernel
theorem dX7_practise_40 : decode cX7_practise 40 = .ok (.getfield 35, 3) := by decide +kernel
theorem dX7_practise_43 : decode cX7_practise 43 = .ok (.iconst 1, 1) := by decide +kernel
theorem dX7_practise_44 : decode cX7_practise 44 = .ok (.aload_n 1, 1) := by decide +kernel
theorem dX7_practise_45 : decode cX7_practise 45 = .ok (.getfield 81, 3) := by decide +kernel
theorem dX7_practise_48 : decode cX7_practise 48 = .ok (.iastore, 1) := by decide +kernel
theorem dX7_practise_49 : decode cX7_practise 49 = .ok (.aload_n 0, 1) := by decide +kernel
theorem dX7_practise_50 : decode cX7_practise 50 = .ok (.getfield 35, 3) := by decide +kernel
theorem dX7_practise_53 : decode cX7_practise 53 = .ok (.iconst 2, 1) := by decide +kernel
theorem dX7_practise_54 : decode cX7_practise 54 = .ok (.aload_n 0, 1) := by decide +kernel
theorem dX7_practise_55 : decode cX7_practise 55 = .ok (.aload_n 1, 1) := by decide +kernel
theorem dX7_practise_56 : decode cX7_practise 56 = .ok (.invokevirtual 88, 3) := by decide +kernel
theorem dX7_practise_59 : decode cX7_practise 59 = .ok (.iastore, 1) := by decide +kernel
theorem dX7_practise_60 : decode cX7_practise 60 = .ok (.aload_n 0, 1) := by decide +kernel
theorem dX7_practise_61 : decode cX7_practise 61 = .ok (.getfield 35, 3) := by decide +kernel
theorem dX7_practise_64 : decode cX7_practise 64 = .ok (.iconst 3, 1) := by decide +kernel
theorem dX7_practise_65 : decode cX7_practise 65 = .ok (.aload_n 1, 1) := by decide +kernel
theorem dX7_practise_66 : decode cX7_practise 66 = .ok (.getfield 71, 3) := by decide +kernel
theorem dX7_practise_69 : decode cX7_practise 69 = .ok (.iastore, 1) := by decide +kernel
theorem dX7_practise_70 : decode cX7_practise 70 = .ok (.aload_n 0, 1) := by decide +kernel
theorem dX7_practise_71 : decode cX7_practise 71 = .ok (.getfield 35, 3) := by decide +kernel
theorem dX7_practise_74 : decode cX7_practise 74 = .ok (.iconst 4, 1) := by decide +kernel
theorem dX7_practise_75 : decode cX7_practise 75 = .ok (.aload_n 0, 1) := by decide +kernel
theorem dX7_practise_76 : decode cX7_practise 76 = .ok (.aload_n 1, 1) := by decide +kernel
theorem dX7_practise_77 : decode cX7_practise 77 = .ok (.getfield 75, 3) := by decide +kernel
theorem dX7_practise_80 : decode cX7_practise 80 = .ok (.invokevirtual 52, 3) := by decide +kernel
theorem dX7_practise_83 : decode cX7_practise 83 = .ok (.iastore, 1) := by decide +kernel
theorem dX7_practise_84 : decode cX7_practise 84 = .ok (.aload_n 0, 1) := by decide +kernel
theorem dX7_practise_85 : decode cX7_practise 85 = .ok (.getfield 35, 3) := by decide +kernel
theorem dX7_practise_88 : decode cX7_practise 88 = .ok (.iconst 5, 1) := by decide +kernel
theorem dX7_practise_89 : decode cX7_practise 89 = .ok (.aload_n 1, 1) := by decide +kernel
theorem dX7_practise_90 : decode cX7_practise 90 = .ok (.getfield 92, 3) := by decide +kernel
theorem dX7_practise_93 : decode cX7_practise 93 = .ok (.invokestatic 95, 3) := by decide +kernel
theorem dX7_practise_96 : decode cX7_practise 96 = .ok (.iastore, 1) := by decide +kernel
theorem dX7_practise_97 : decode cX7_practise 97 = .ok (.iconst 0, 1) := by decide +kernel
theorem dX7_practise_98 : decode cX7_practise 98 = .ok (.bipush 20, 2) := by decide +kernel
theorem dX7_practise_100 : decode cX7_practise 100 = .ok (.aload_n 0, 1) := by decide +kernel
theorem dX7_practise_101 : decode cX7_practise 101 = .ok (.getfield 24, 3) := by decide +kernel
theorem dX7_practise_104 : decode cX7_practise 104 = .ok (.aload_n 0, 1) := by decide +kernel
theorem dX7_practise_105 : decode cX7_practise 105 = .ok (.getfield 35, 3) := by decide +kernel
theorem dX7_practise_108 : decode cX7_practise 108 = .ok (.invokevirtual 100, 3) := by decide +kernel
theorem dX7_practise_111 : decode cX7_practise 111 = .ok (.invokestatic 104, 3) := by decide +kernel
theorem dX7_practise_114 : decode cX7_practise 114 = .ok (.invokestatic 60, 3) := by decide +kernel
theorem dX7_practise_117 : decode cX7_practise 117 = .ok (.istore_n 2, 1) := by decide +kernel
theorem dX7_practise_118 : decode cX7_practise 118 = .ok (.aload_n 1, 1) := by decide +kernel
theorem dX7_practise_119 : decode cX7_practise 119 = .ok (.getfield 107, 3) := by decide +kernel
theorem dX7_practise_122 : decode cX7_practise 122 = .ok (.iconst 1, 1) := by decide +kernel
theorem dX7_practise_123 : decode cX7_practise 123 = .ok (.if_icmp .ne 9, 3) := by decide +kernel
theorem dX7_practise_126 : decode cX7_practise 126 = .ok (.iload_n 2, 1) := by decide +kernel
theorem dX7_practise_127 : decode cX7_practise 127 = .ok (.iload_n 2, 1) := by decide +kernel
theorem dX7_practise_128 : decode cX7_practise 128 = .ok (.iadd, 1) := by decide +kernel
theorem dX7_practise_129 : decode cX7_practise 129 = .ok (.goto 4, 3) := by decide +kernel
theorem dX7_practise_132 : decode cX7_practise 132 = .ok (.iload_n 2, 1) := by decide +kernel
theorem dX7_practise_133 : decode cX7_practise 133 = .ok (.istore_n 3, 1) := by decide +kernel
theorem dX7_practise_134 : decode cX7_practise 134 = .ok (.aload_n 1, 1) := by decide +kernel
theorem dX7_practise_135 : decode cX7_practise 135 = .ok (.bipush 99, 2) := by decide +kernel
theorem dX7_practise_137 : decode cX7_practise 137 = .ok (.aload_n 1, 1) := by decide +kernel
theorem dX7_practise_138 : decode cX7_practise 138 = .ok (.getfield 78, 3) := by decide +kernel
theorem dX7_practise_141 : decode cX7_practise 141 = .ok (.iload_n 3, 1) := by decide +kernel
theorem dX7_practise_142 : decode cX7_practise 142 = .ok (.iadd, 1) := by decide +kernel
theorem dX7_practise_143 : decode cX7_practise 143 = .ok (.invokestatic 104, 3) := by decide +kernel
theorem dX7_practise_146 : decode cX7_practise 146 = .ok (.putfield 78, 3) := by decide +kernel
theorem dX7_practise_149 : decode cX7_practise 149 = .ok (.return_, 1) := by decide +kernel
theorem dX7_haveLesson_0 : decode cX7_haveLesson 0 = .ok (.aload_n 0, 1) := by decide +kernel
theorem dX7_haveLesson_1 : decode cX7_haveLesson 1 = .ok (.aload_n 1, 1) := by decide +kernel
theorem dX7_haveLesson_2 : decode cX7_haveLesson 2 = .ok (.getfield 75, 3) := by decide +kernel
theorem dX7_haveLesson_5 : decode cX7_haveLesson 5 = .ok (.invokevirtual 110, 3) := by decide +kernel
theorem dX7_haveLesson_8 : decode cX7_haveLesson 8 = .ok (.ifCond .eq 8, 3) := by decide +kernel
theorem dX7_haveLesson_11 : decode cX7_haveLesson 11 = .ok (.bipush 8, 2) := by decide +kernel
theorem dX7_haveLesson_13 : decode cX7_haveLesson 13 = .ok (.goto 4, 3) := by decide +kernel
theorem dX7_haveLesson_16 : decode cX7_haveLesson 16 = .ok (.iconst 1, 1) := by decide +kernel
theorem dX7_haveLesson_17 : decode cX7_haveLesson 17 = .ok (.istore_n 2, 1) := by decide +kernel
theorem dX7_haveLesson_18 : decode cX7_haveLesson 18 = .ok (.iconst 0, 1) := by decide +kernel
theorem dX7_haveLesson_19 : decode cX7_haveLesson 19 = .ok (.istore_n 3, 1) := by decide +kernel
theorem dX7_haveLesson_20 : decode cX7_haveLesson 20 = .ok (.iload_n 3, 1) := by decide +kernel
theorem dX7_haveLesson_21 : decode cX7_haveLesson 21 = .ok (.iload_n 2, 1) := by decide +kernel
theorem dX7_haveLesson_22 : decode cX7_haveLesson 22 = .ok (.if_icmp .ge 39, 3) := by decide +kernel
theorem dX7_haveLesson_25 : decode cX7_haveLesson 25 = .ok (.aload_n 0, 1) := by decide +kernel
theorem dX7_haveLesson_26 : decode cX7_haveLesson 26 = .ok (.aload_n 1, 1) := by decide +kernel
theorem dX7_haveLesson_27 : decode cX7_haveLesson 27 = .ok (.invokevirtual 114, 3) := by decide +kernel
theorem dX7_haveLesson_30 : decode cX7_haveLesson 30 = .ok (.ifCond .ne 31, 3) := by decide +kernel
theorem dX7_haveLesson_33 : decode cX7_haveLesson 33 = .ok (.aload_n 1, 1) := by decide +kernel
theorem dX7_haveLesson_34 : decode cX7_haveLesson 34 = .ok (.getfield 78, 3) := by decide +kernel
theorem dX7_haveLesson_37 : decode cX7_haveLesson 37 = .ok (.aload_n 0, 1) := by decide +kernel
theorem dX7_haveLesson_38 : decode cX7_haveLesson 38 = .ok (.aload_n 1, 1) := by decide +kernel
theorem dX7_haveLesson_39 : decode cX7_haveLesson 39 = .ok (.invokevirtual 88, 3) := by decide +kernel
theorem dX7_haveLesson_42 : decode cX7_haveLesson 42 = .ok (.if_icmp .lt 19, 3) := by decide +kernel
theorem dX7_haveLesson_45 : decode cX7_haveLesson 45 = .ok (.aload_n 1, 1) := by decide +kernel
theorem dX7_haveLesson_46 : decode cX7_haveLesson 46 = .ok (.dup, 1) := by decide +kernel
theorem dX7_haveLesson_47 : decode cX7_haveLesson 47 = .ok (.getfield 71, 3) := by decide +kernel
theorem dX7_haveLesson_50 : decode cX7_haveLesson 50 = .ok (.iconst 1, 1) := by decide +kernel
theorem dX7_haveLesson_51 : decode cX7_haveLesson 51 = .ok (.iadd, 1) := by decide +kernel
theorem dX7_haveLesson_52 : decode cX7_haveLesson 52 = .ok (.putfield 71, 3) := by decide +kernel
theorem dX7_haveLesson_55 : decode cX7_haveLesson 55 = .ok (.iinc 3 1, 3) := by decide +kernel
theorem dX7_haveLesson_58 : decode cX7_haveLesson 58 = .ok (.goto (-38), 3) := by decide +kernel
theorem dX7_haveLesson_61 : decode cX7_haveLesson 61 = .ok (.return_, 1) := by decide +kernel
theorem dX7_passWeeks_0 : decode cX7_passWeeks 0 = .ok (.iconst 0, 1) := by decide +kernel
theorem dX7_passWeeks_1 : decode cX7_passWeeks 1 = .ok (.istore_n 3, 1) := by decide +kernel
theorem dX7_passWeeks_2 : decode cX7_passWeeks 2 = .ok (.iload_n 3, 1) := by decide +kernel
theorem dX7_passWeeks_3 : decode cX7_passWeeks 3 = .ok (.iload_n 2, 1) := by decide +kernel
theorem dX7_passWeeks_4 : decode cX7_passWeeks 4 = .ok (.if_icmp .ge 42, 3) := by decide +kernel
theorem dX7_passWeeks_7 : decode cX7_passWeeks 7 = .ok (.aload_n 1, 1) := by decide +kernel
theorem dX7_passWeeks_8 : decode cX7_passWeeks 8 = .ok (.iconst 1, 1) := by decide +kernel
theorem dX7_passWeeks_9 : decode cX7_passWeeks 9 = .ok (.invokevirtual 118, 3) := by decide +kernel
theorem dX7_passWeeks_12 : decode cX7_passWeeks 12 = .ok (.ifCond .ne 18, 3) := by decide +kernel
theorem dX7_passWeeks_15 : decode cX7_passWeeks 15 = .ok (.aload_n 0, 1) := by decide +kernel
theorem dX7_passWeeks_16 : decode cX7_passWeeks 16 = .ok (.aload_n 1, 1) := by decide +kernel
theorem dX7_passWeeks_17 : decode cX7_passWeeks 17 = .ok (.invokevirtual 121, 3) := by decide +kernel
theorem dX7_passWeeks_20 : decode cX7_passWeeks 20 = .ok (.aload_n 0, 1) := by decide +kernel
theorem dX7_passWeeks_21 : decode cX7_passWeeks 21 = .ok (.aload_n 1, 1) := by decide +kernel
theorem dX7_passWeeks_22 : decode cX7_passWeeks 22 = .ok (.invokevirtual 125, 3) := by decide +kernel
theorem dX7_passWeeks_25 : decode cX7_passWeeks 25 = .ok (.aload_n 1, 1) := by decide +kernel
theorem dX7_passWeeks_26 : decode cX7_passWeeks 26 = .ok (.iconst (-1), 1) := by decide +kernel
theorem dX7_passWeeks_27 : decode cX7_passWeeks 27 = .ok (.invokevirtual 128, 3) := by decide +kernel
theorem dX7_passWeeks_30 : decode cX7_passWeeks 30 = .ok (.aload_n 1, 1) := by decide +kernel
theorem dX7_passWeeks_31 : decode cX7_passWeeks 31 = .ok (.aload_n 1, 1) := by decide +kernel
theorem dX7_passWeeks_32 : decode cX7_passWeeks 32 = .ok (.getfield 92, 3) := by decide +kernel
theorem dX7_passWeeks_35 : decode cX7_passWeeks 35 = .ok (.iconst 1, 1) := by decide +kernel
theorem dX7_passWeeks_36 : decode cX7_passWeeks 36 = .ok (.iushr, 1) := by decide +kernel
theorem dX7_passWeeks_37 : decode cX7_passWeeks 37 = .ok (.putfield 92, 3) := by decide +kernel
theorem dX7_passWeeks_40 : decode cX7_passWeeks 40 = .ok (.iinc 3 1, 3) := by decide +kernel
theorem dX7_passWeeks_43 : decode cX7_passWeeks 43 = .ok (.goto (-41), 3) := by decide +kernel
theorem dX7_passWeeks_46 : decode cX7_passWeeks 46 = .ok (.return_, 1) := by decide +kernel
theorem dX7_goThrough_0 : decode cX7_goThrough 0 = .ok (.aload_n 0, 1) := by decide +kernel
theorem dX7_goThrough_1 : decode cX7_goThrough 1 = .ok (.aload_n 1, 1) := by decide +kernel
theorem dX7_goThrough_2 : decode cX7_goThrough 2 = .ok (.invokevirtual 121, 3) := by decide +kernel
theorem dX7_goThrough_5 : decode cX7_goThrough 5 = .ok (.aload_n 1, 1) := by decide +kernel
theorem dX7_goThrough_6 : decode cX7_goThrough 6 = .ok (.iconst 2, 1) := by decide +kernel
theorem dX7_goThrough_7 : decode cX7_goThrough 7 = .ok (.invokevirtual 128, 3) := by decide +kernel
theorem dX7_goThrough_10 : decode cX7_goThrough 10 = .ok (.aload_n 1, 1) := by decide +kernel
theorem dX7_goThrough_11 : decode cX7_goThrough 11 = .ok (.dup, 1) := by decide +kernel
theorem dX7_goThrough_12 : decode cX7_goThrough 12 = .ok (.getfield 92, 3) := by decide +kernel
theorem dX7_goThrough_15 : decode cX7_goThrough 15 = .ok (.iconst 1, 1) := by decide +kernel
theorem dX7_goThrough_16 : decode cX7_goThrough 16 = .ok (.iload_n 2, 1) := by decide +kernel
theorem dX7_goThrough_17 : decode cX7_goThrough 17 = .ok (.iconst 1, 1) := by decide +kernel
theorem dX7_goThrough_18 : decode cX7_goThrough 18 = .ok (.isub, 1) := by decide +kernel
theorem dX7_goThrough_19 : decode cX7_goThrough 19 = .ok (.ishl, 1) := by decide +kernel
theorem dX7_goThrough_20 : decode cX7_goThrough 20 = .ok (.ior, 1) := by decide +kernel
theorem dX7_goThrough_21 : decode cX7_goThrough 21 = .ok (.putfield 92, 3) := by decide +kernel
theorem dX7_goThrough_24 : decode cX7_goThrough 24 = .ok (.return_, 1) := by decide +kernel
theorem dX8_init_0 : decode cX8_init 0 = .ok (.aload_n 0, 1) := by decide +kernel
theorem dX8_init_1 : decode cX8_init 1 = .ok (.invokespecial 3, 3) := by decide +kernel
theorem dX8_init_4 : decode cX8_init 4 = .ok (.aload_n 0, 1) := by decide +kernel
theorem dX8_init_5 : decode cX8_init 5 = .ok (.bipush 7, 2) := by decide +kernel
theorem dX8_init_7 : decode cX8_init 7 = .ok (.newarray .int, 2) := by decide +kernel
theorem dX8_init_9 : decode cX8_init 9 = .ok (.putfield 9, 3) := by decide +kernel
theorem dX8_init_12 : decode cX8_init 12 = .ok (.aload_n 0, 1) := by decide +kernel
theorem dX8_init_13 : decode cX8_init 13 = .ok (.new 15, 3) := by decide +kernel
theorem dX8_init_16 : decode cX8_init 16 = .ok (.dup, 1) := by decide +kernel
theorem dX8_init_17 : decode cX8_init 17 = .ok (.invokespecial 17, 3) := by decide +kernel
theorem dX8_init_20 : decode cX8_init 20 = .ok (.putfield 18, 3) := by decide +kernel
theorem dX8_init_23 : decode cX8_init 23 = .ok (.aload_n 0, 1) := by decide +kernel
theorem dX8_init_24 : decode cX8_init 24 = .ok (.bipush 100, 2) := by decide +kernel
theorem dX8_init_26 : decode cX8_init 26 = .ok (.newarray .boolean, 2) := by decide +kernel
theorem dX8_init_28 : decode cX8_init 28 = .ok (.putfield 22, 3) := by decide +kernel
theorem dX8_init_31 : decode cX8_init 31 = .ok (.return_, 1) := by decide +kernel
theorem dX8_look_0 : decode cX8_look 0 = .ok (.aload_n 0, 1) := by decide +kernel
theorem dX8_look_1 : decode cX8_look 1 = .ok (.aload_n 1, 1) := by decide +kernel
theorem dX8_look_2 : decode cX8_look 2 = .ok (.getfield 26, 3) := by decide +kernel
theorem dX8_look_5 : decode cX8_look 5 = .ok (.getfield 32, 3) := by decide +kernel
theorem dX8_look_8 : decode cX8_look 8 = .ok (.putfield 38, 3) := by decide +kernel
theorem dX8_look_11 : decode cX8_look 11 = .ok (.aload_n 0, 1) := by decide +kernel
theorem dX8_look_12 : decode cX8_look 12 = .ok (.iconst 0, 1) := by decide +kernel
theorem dX8_look_13 : decode cX8_look 13 = .ok (.putfield 39, 3) := by decide +kernel
theorem dX8_look_16 : decode cX8_look 16 = .ok (.iconst 0, 1) := by decide +kernel
theorem dX8_look_17 : decode cX8_look 17 = .ok (.istore_n 3, 1) := by decide +kernel
theorem dX8_look_18 : decode cX8_look 18 = .ok (.iload_n 3, 1) := by decide +kernel
theorem dX8_look_19 : decode cX8_look 19 = .ok (.aload_n 0, 1) := by decide +kernel
theorem dX8_look_20 : decode cX8_look 20 = .ok (.getfield 38, 3) := by decide +kernel
theorem dX8_look_23 : decode cX8_look 23 = .ok (.if_icmp .ge 32, 3) := by decide +kernel
theorem dX8_look_26 : decode cX8_look 26 = .ok (.aload_n 0, 1) := by decide +kernel
theorem dX8_look_27 : decode cX8_look 27 = .ok (.aload_n 1, 1) := by decide +kernel
theorem dX8_look_28 : decode cX8_look 28 = .ok (.aload_n 2, 1) := by decide +kernel
theorem dX8_look_29 : decode cX8_look 29 = .ok (.iload_n 3, 1) := by decide +kernel
theorem dX8_look_30 : decode cX8_look 30 = .ok (.iconst 0, 1) := by decide +kernel
theorem dX8_look_31 : decode cX8_look 31 = .ok (.invokevirtual 42, 3) := by decide +kernel
theorem dX8_look_34 : decode cX8_look 34 = .ok (.ifCond .ne 15, 3) := by decide +kernel
theorem dX8_look_37 : decode cX8_look 37 = .ok (.aload_n 0, 1) := by decide +kernel
theorem dX8_look_38 : decode cX8_look 38 = .ok (.dup, 1) := by decide +kernel
theorem dX8_look_39 : decode cX8_look 39 = .ok (.getfield 39, 3) := by decide +kernel
theorem dX8_look_42 : decode cX8_look 42 = .ok (.iconst 1, 1) := by decide +kernel
theorem dX8_look_43 : decode cX8_look 43 = .ok (.iload_n 3, 1) := by decide +kernel
theorem dX8_look_44 : decode cX8_look 44 = .ok (.ishl, 1) := by decide +kernel
theorem dX8_look_45 : decode cX8_look 45 = .ok (.ior, 1) := by decide +kernel
theorem dX8_look_46 : decode cX8_look 46 = .ok (.putfield 39, 3) := by decide +kernel
theorem dX8_look_49 : decode cX8_look 49 = .ok (.iinc 3 1, 3) := by decide +kernel
theorem dX8_look_52 : decode cX8_look 52 = .ok (.goto (-34), 3) := by decide +kernel
theorem dX8_look_55 : decode cX8_look 55 = .ok (.iconst 0, 1) := by decide +kernel
theorem dX8_look_56 : decode cX8_look 56 = .ok (.istore_n 3, 1) := by decide +kernel
theorem dX8_look_57 : decode cX8_look 57 = .ok (.iload_n 3, 1) := by decide +kernel
theorem dX8_look_58 : decode cX8_look 58 = .ok (.aload_n 0, 1) := by decide +kernel
theorem dX8_look_59 : decode cX8_look 59 = .ok (.getfield 38, 3) := by decide +kernel
theorem dX8_look_62 : decode cX8_look 62 = .ok (.if_icmp .ge 51, 3) := by decide +kernel
theorem dX8_look_65 : decode cX8_look 65 = .ok (.aload_n 0, 1) := by decide +kernel
theorem dX8_look_66 : decode cX8_look 66 = .ok (.getfield 39, 3) := by decide +kernel
theorem dX8_look_69 : decode cX8_look 69 = .ok (.iconst 1, 1) := by decide +kernel
theorem dX8_look_70 : decode cX8_look 70 = .ok (.iload_n 3, 1) := by decide +kernel
theorem dX8_look_71 : decode cX8_look 71 = .ok (.ishl, 1) := by decide +kernel
theorem dX8_look_72 : decode cX8_look 72 = .ok (.iconst (-1), 1) := by decide +kernel
theorem dX8_look_73 : decode cX8_look 73 = .ok (.ixor, 1) := by decide +kernel
theorem dX8_look_74 : decode cX8_look 74 = .ok (.iand, 1) := by decide +kernel
theorem dX8_look_75 : decode cX8_look 75 = .ok (.ifCond .ne 7, 3) := by decide +kernel
theorem dX8_look_78 : decode cX8_look 78 = .ok (.iconst 1, 1) := by decide +kernel
theorem dX8_look_79 : decode cX8_look 79 = .ok (.goto 4, 3) := by decide +kernel
theorem dX8_look_82 : decode cX8_look 82 = .ok (.iconst 0, 1) := by decide +kernel
theorem dX8_look_83 : decode cX8_look 83 = .ok (.istore 4, 2) := by decide +kernel
theorem dX8_look_85 : decode cX8_look 85 = .ok (.aload_n 0, 1) := by decide +kernel
theorem dX8_look_86 : decode cX8_look 86 = .ok (.getfield 9, 3) := by decide +kernel
theorem dX8_look_89 : decode cX8_look 89 = .ok (.iload_n 3, 1) := by decide +kernel
theorem dX8_look_90 : decode cX8_look 90 = .ok (.iload 4, 2) := by decide +kernel
theorem dX8_look_92 : decode cX8_look 92 = .ok (.ifCond .eq 13, 3) := by decide +kernel
theorem dX8_look_95 : decode cX8_look 95 = .ok (.aload_n 0, 1) := by decide +kernel
theorem dX8_look_96 : decode cX8_look 96 = .ok (.aload_n 1, 1) := by decide +kernel
theorem dX8_look_97 : decode cX8_look 97 = .ok (.aload_n 2, 1) := by decide +kernel
theorem dX8_look_98 : decode cX8_look 98 = .ok (.iload_n 3, 1) := by decide +kernel
theorem dX8_look_99 : decode cX8_look 99 = .ok (.invokevirtual 46, 3) := by decide +kernel
theorem dX8_look_102 : decode cX8_look 102 = .ok (.goto 4, 3) := by decide +kernel
theorem dX8_look_105 : decode cX8_look 105 = .ok (.iconst 0, 1) := by decide +kernel
theorem dX8_look_106 : decode cX8_look 106 = .ok (.iastore, 1) := by decide +kernel
theorem dX8_look_107 : decode cX8_look 107 = .ok (.iinc 3 1, 3) := by decide +kernel
theorem dX8_look_110 : decode cX8_look 110 = .ok (.goto (-53), 3) := by decide +kernel
theorem dX8_look_113 : decode cX8_look 113 = .ok (.return_, 1) := by decide +kernel
theorem dX8_weeksThatAgree_0 : decode cX8_weeksThatAgree 0 = .ok (.iconst 0, 1) := by decide +kernel
theorem dX8_weeksThatAgree_1 : decode cX8_weeksThatAgree 1 = .ok (.istore 4, 2) := by decide +kernel
theorem dX8_weeksThatAgree_3 : decode cX8_weeksThatAgree 3 = .ok (.iconst 1, 1) := by decide +kernel
theorem dX8_weeksThatAgree_4 : decode cX8_weeksThatAgree 4 = .ok (.istore 5, 2) := by decide +kernel
theorem dX8_weeksThatAgree_6 : decode cX8_weeksThatAgree 6 = .ok (.iload 5, 2) := by decide +kernel
theorem dX8_weeksThatAgree_8 : decode cX8_weeksThatAgree 8 = .ok (.bipush 20, 2) := by decide +kernel
theorem dX8_weeksThatAgree_10 : decode cX8_weeksThatAgree 10 = .ok (.if_icmp .gt 49, 3) := by decide +kernel
theorem dX8_weeksThatAgree_13 : decode cX8_weeksThatAgree 13 = .ok (.aload_n 1, 1) := by decide +kernel
theorem dX8_weeksThatAgree_14 : decode cX8_weeksThatAgree 14 = .ok (.getfield 26, 3) := by decide +kernel
theorem dX8_weeksThatAgree_17 : decode cX8_weeksThatAgree 17 = .ok (.getfield 50, 3) := by decide +kernel
theorem dX8_weeksThatAgree_20 : decode cX8_weeksThatAgree 20 = .ok (.iload_n 3, 1) := by decide +kernel
theorem dX8_weeksThatAgree_21 : decode cX8_weeksThatAgree 21 = .ok (.aaload, 1) := by decide +kernel
theorem dX8_weeksThatAgree_22 : decode cX8_weeksThatAgree 22 = .ok (.iload 5, 2) := by decide +kernel
theorem dX8_weeksThatAgree_24 : decode cX8_weeksThatAgree 24 = .ok (.invokevirtual 54, 3) := by decide +kernel
theorem dX8_weeksThatAgree_27 : decode cX8_weeksThatAgree 27 = .ok (.ifCond .ne 26, 3) := by decide +kernel
theorem dX8_weeksThatAgree_30 : decode cX8_weeksThatAgree 30 = .ok (.aload_n 0, 1) := by decide +kernel
theorem dX8_weeksThatAgree_31 : decode cX8_weeksThatAgree 31 = .ok (.aload_n 1, 1) := by decide +kernel
theorem dX8_weeksThatAgree_32 : decode cX8_weeksThatAgree 32 = .ok (.aload_n 2, 1) := by decide +kernel
theorem dX8_weeksThatAgree_33 : decode cX8_weeksThatAgree 33 = .ok (.iload_n 3, 1) := by decide +kernel
theorem dX8_weeksThatAgree_34 : decode cX8_weeksThatAgree 34 = .ok (.iload 5, 2) := by decide +kernel
theorem dX8_weeksThatAgree_36 : decode cX8_weeksThatAgree 36 = .ok (.invokevirtual 42, 3) := by decide +kernel
theorem dX8_weeksThatAgree_39 : decode cX8_weeksThatAgree 39 = .ok (.ifCond .eq 14, 3) := by decide +kernel
theorem dX8_weeksThatAgree_42 : decode cX8_weeksThatAgree 42 = .ok (.iload 4, 2) := by decide +kernel
theorem dX8_weeksThatAgree_44 : decode cX8_weeksThatAgree 44 = .ok (.iconst 1, 1) := by decide +kernel
theorem dX8_weeksThatAgree_45 : decode cX8_weeksThatAgree 45 = .ok (.iload 5, 2) := by decide +kernel
theorem dX8_weeksThatAgree_47 : decode cX8_weeksThatAgree 47 = .ok (.iconst 1, 1) := by decide +kernel
theorem dX8_weeksThatAgree_48 : decode cX8_weeksThatAgree 48 = .ok (.isub, 1) := by decide +kernel
theorem dX8_weeksThatAgree_49 : decode cX8_weeksThatAgree 49 = .ok (.ishl, 1) := by decide +kernel
theorem dX8_weeksThatAgree_50 : decode cX8_weeksThatAgree 50 = .ok (.ior, 1) := by decide +kernel
theorem dX8_weeksThatAgree_51 : decode cX8_weeksThatAgree 51 = .ok (.istore 4, 2) := by decide +kernel
theorem dX8_weeksThatAgree_53 : decode cX8_weeksThatAgree 53 = .ok (.iinc 5 1, 3) := by decide +kernel
theorem dX8_weeksThatAgree_56 : decode cX8_weeksThatAgree 56 = .ok (.goto (-50), 3) := by decide +kernel
theorem dX8_weeksThatAgree_59 : decode cX8_weeksThatAgree 59 = .ok (.iload 4, 2) := by decide +kernel
theorem dX8_weeksThatAgree_61 : decode cX8_weeksThatAgree 61 = .ok (.ireturn, 1) := by decide +kernel
theorem dX8_guessAway_0 : decode cX8_guessAway 0 = .ok (.aload_n 0, 1) := by decide +kernel
theorem dX8_guessAway_1 : decode cX8_guessAway 1 = .ok (.getfield 18, 3) := by decide +kernel
theorem dX8_guessAway_4 : decode cX8_guessAway 4 = .ok (.aload_n 1, 1) := by decide +kernel
theorem dX8_guessAway_5 : decode cX8_guessAway 5 = .ok (.getfield 26, 3) := by decide +kernel
theorem dX8_guessAway_8 : decode cX8_guessAway 8 = .ok (.getfield 50, 3) := by decide +kernel
theorem dX8_guessAway_11 : decode cX8_guessAway 11 = .ok (.iload_n 2, 1) := by decide +kernel
theorem dX8_guessAway_12 : decode cX8_guessAway 12 = .ok (.aaload, 1) := by decide +kernel
theorem dX8_guessAway_13 : decode cX8_guessAway 13 = .ok (.invokevirtual 58, 3) := by decide +kernel
theorem dX8_guessAway_16 : decode cX8_guessAway 16 = .ok (.iload_n 3, 1) := by decide +kernel
theorem dX8_guessAway_17 : decode cX8_guessAway 17 = .ok (.ifCond .le 20, 3) := by decide +kernel
theorem dX8_guessAway_20 : decode cX8_guessAway 20 = .ok (.aload_n 0, 1) := by decide +kernel
theorem dX8_guessAway_21 : decode cX8_guessAway 21 = .ok (.getfield 18, 3) := by decide +kernel
theorem dX8_guessAway_24 : decode cX8_guessAway 24 = .ok (.dup, 1) := by decide +kernel
theorem dX8_guessAway_25 : decode cX8_guessAway 25 = .ok (.getfield 62, 3) := by decide +kernel
theorem dX8_guessAway_28 : decode cX8_guessAway 28 = .ok (.iconst 1, 1) := by decide +kernel
theorem dX8_guessAway_29 : decode cX8_guessAway 29 = .ok (.iload_n 3, 1) := by decide +kernel
theorem dX8_guessAway_30 : decode cX8_guessAway 30 = .ok (.iconst 1, 1) := by decide +kernel
theorem dX8_guessAway_31 : decode cX8_guessAway 31 = .ok (.isub, 1) := by decide +kernel
theorem dX8_guessAway_32 : decode cX8_guessAway 32 = .ok (.ishl, 1) := by decide +kernel
theorem dX8_guessAway_33 : decode cX8_guessAway 33 = .ok (.ior, 1) := by decide +kernel
theorem dX8_guessAway_34 : decode cX8_guessAway 34 = .ok (.putfield 62, 3) := by decide +kernel
theorem dX8_guessAway_37 : decode cX8_guessAway 37 = .ok (.return_, 1) := by decide +kernel
theorem dX8_agrees_0 : decode cX8_agrees 0 = .ok (.aload_n 0, 1) := by decide +kernel
theorem dX8_agrees_1 : decode cX8_agrees 1 = .ok (.aload_n 1, 1) := by decide +kernel
theorem dX8_agrees_2 : decode cX8_agrees 2 = .ok (.iload_n 3, 1) := by decide +kernel
theorem dX8_agrees_3 : decode cX8_agrees 3 = .ok (.iload 4, 2) := by decide +kernel
theorem dX8_agrees_5 : decode cX8_agrees 5 = .ok (.invokevirtual 65, 3) := by decide +kernel
theorem dX8_agrees_8 : decode cX8_agrees 8 = .ok (.aload_n 2, 1) := by decide +kernel
theorem dX8_agrees_9 : decode cX8_agrees 9 = .ok (.iload_n 3, 1) := by decide +kernel
theorem dX8_agrees_10 : decode cX8_agrees 10 = .ok (.invokevirtual 69, 3) := by decide +kernel
theorem dX8_agrees_13 : decode cX8_agrees 13 = .ok (.istore 5, 2) := by decide +kernel
theorem dX8_agrees_15 : decode cX8_agrees 15 = .ok (.iconst 1, 1) := by decide +kernel
theorem dX8_agrees_16 : decode cX8_agrees 16 = .ok (.istore 6, 2) := by decide +kernel
theorem dX8_agrees_18 : decode cX8_agrees 18 = .ok (.iload 6, 2) := by decide +kernel
theorem dX8_agrees_20 : decode cX8_agrees 20 = .ok (.iload 5, 2) := by decide +kernel
theorem dX8_agrees_22 : decode cX8_agrees 22 = .ok (.if_icmp .gt 37, 3) := by decide +kernel
theorem dX8_agrees_25 : decode cX8_agrees 25 = .ok (.aload_n 1, 1) := by decide +kernel
theorem dX8_agrees_26 : decode cX8_agrees 26 = .ok (.aload_n 0, 1) := by decide +kernel
theorem dX8_agrees_27 : decode cX8_agrees 27 = .ok (.getfield 18, 3) := by decide +kernel
theorem dX8_agrees_30 : decode cX8_agrees 30 = .ok (.iconst 1, 1) := by decide +kernel
theorem dX8_agrees_31 : decode cX8_agrees 31 = .ok (.invokevirtual 75, 3) := by decide +kernel
theorem dX8_agrees_34 : decode cX8_agrees 34 = .ok (.aload_n 2, 1) := by decide +kernel
theorem dX8_agrees_35 : decode cX8_agrees 35 = .ok (.iload_n 3, 1) := by decide +kernel
theorem dX8_agrees_36 : decode cX8_agrees 36 = .ok (.iload 6, 2) := by decide +kernel
theorem dX8_agrees_38 : decode cX8_agrees 38 = .ok (.aload_n 0, 1) := by decide +kernel
theorem dX8_agrees_39 : decode cX8_agrees 39 = .ok (.getfield 18, 3) := by decide +kernel
theorem dX8_agrees_42 : decode cX8_agrees 42 = .ok (.getfield 79, 3) := by decide +kernel
theorem dX8_agrees_45 : decode cX8_agrees 45 = .ok (.invokevirtual 82, 3) := by decide +kernel
theorem dX8_agrees_48 : decode cX8_agrees 48 = .ok (.ifCond .eq 5, 3) := by decide +kernel
theorem dX8_agrees_51 : decode cX8_agrees 51 = .ok (.iconst 0, 1) := by decide +kernel
theorem dX8_agrees_52 : decode cX8_agrees 52 = .ok (.ireturn, 1) := by decide +kernel
theorem dX8_agrees_53 : decode cX8_agrees 53 = .ok (.iinc 6 1, 3) := by decide +kernel
theorem dX8_agrees_56 : decode cX8_agrees 56 = .ok (.goto (-38), 3) := by decide +kernel
theorem dX8_agrees_59 : decode cX8_agrees 59 = .ok (.iconst 1, 1) := by decide +kernel
theorem dX8_agrees_60 : decode cX8_agrees 60 = .ok (.ireturn, 1) := by decide +kernel
theorem dX8_howMany_0 : decode cX8_howMany 0 = .ok (.iconst 0, 1) := by decide +kernel
theorem dX8_howMany_1 : decode cX8_howMany 1 = .ok (.istore_n 1, 1) := by decide +kernel
theorem dX8_howMany_2 : decode cX8_howMany 2 = .ok (.iconst 0, 1) := by decide +kernel
theorem dX8_howMany_3 : decode cX8_howMany 3 = .ok (.istore_n 2, 1) := by decide +kernel
theorem dX8_howMany_4 : decode cX8_howMany 4 = .ok (.iload_n 2, 1) := by decide +kernel
theorem dX8_howMany_5 : decode cX8_howMany 5 = .ok (.aload_n 0, 1) := by decide +kernel
theorem dX8_howMany_6 : decode cX8_howMany 6 = .ok (.getfield 38, 3) := by decide +kernel
theorem dX8_howMany_9 : decode cX8_howMany 9 = .ok (.if_icmp .ge 21, 3) := by decide +kernel
theorem dX8_howMany_12 : decode cX8_howMany 12 = .ok (.iload_n 1, 1) := by decide +kernel
theorem dX8_howMany_13 : decode cX8_howMany 13 = .ok (.aload_n 0, 1) := by decide +kernel
theorem dX8_howMany_14 : decode cX8_howMany 14 = .ok (.getfield 9, 3) := by decide +kernel
theorem dX8_howMany_17 : decode cX8_howMany 17 = .ok (.iload_n 2, 1) := by decide +kernel
theorem dX8_howMany_18 : decode cX8_howMany 18 = .ok (.iaload, 1) := by decide +kernel
theorem dX8_howMany_19 : decode cX8_howMany 19 = .ok (.invokestatic 86, 3) := by decide +kernel
theorem dX8_howMany_22 : decode cX8_howMany 22 = .ok (.iadd, 1) := by decide +kernel
theorem dX8_howMany_23 : decode cX8_howMany 23 = .ok (.istore_n 1, 1) := by decide +kernel
theorem dX8_howMany_24 : decode cX8_howMany 24 = .ok (.iinc 2 1, 3) := by decide +kernel
theorem dX8_howMany_27 : decode cX8_howMany 27 = .ok (.goto (-23), 3) := by decide +kernel
theorem dX8_howMany_30 : decode cX8_howMany 30 = .ok (.iload_n 1, 1) := by decide +kernel
theorem dX8_howMany_31 : decode cX8_howMany 31 = .ok (.ireturn, 1) := by decide +kernel
theorem dX8_first_0 : decode cX8_first 0 = .ok (.iconst 0, 1) := by decide +kernel
theorem dX8_first_1 : decode cX8_first 1 = .ok (.istore_n 1, 1) := by decide +kernel
theorem dX8_first_2 : decode cX8_first 2 = .ok (.iload_n 1, 1) := by decide +kernel
theorem dX8_first_3 : decode cX8_first 3 = .ok (.aload_n 0, 1) := by decide +kernel
theorem dX8_first_4 : decode cX8_first 4 = .ok (.getfield 38, 3) := by decide +kernel
theorem dX8_first_7 : decode cX8_first 7 = .ok (.if_icmp .ge 35, 3) := by decide +kernel
theorem dX8_first_10 : decode cX8_first 10 = .ok (.aload_n 0, 1) := by decide +kernel
theorem dX8_first_11 : decode cX8_first 11 = .ok (.getfield 9, 3) := by decide +kernel
theorem dX8_first_14 : decode cX8_first 14 = .ok (.iload_n 1, 1) := by decide +kernel
theorem dX8_first_15 : decode cX8_first 15 = .ok (.iaload, 1) := by decide +kernel
theorem dX8_first_16 : decode cX8_first 16 = .ok (.ifCond .eq 20, 3) := by decide +kernel
theorem dX8_first_19 : decode cX8_first 19 = .ok (.bipush 100, 2) := by decide +kernel
theorem dX8_first_21 : decode cX8_first 21 = .ok (.iload_n 1, 1) := by decide +kernel
theorem dX8_first_22 : decode cX8_first 22 = .ok (.imul, 1) := by decide +kernel
theorem dX8_first_23 : decode cX8_first 23 = .ok (.aload_n 0, 1) := by decide +kernel
theorem dX8_first_24 : decode cX8_first 24 = .ok (.getfield 9, 3) := by decide +kernel
theorem dX8_first_27 : decode cX8_first 27 = .ok (.iload_n 1, 1) := by decide +kernel
theorem dX8_first_28 : decode cX8_first 28 = .ok (.iaload, 1) := by decide +kernel
theorem dX8_first_29 : decode cX8_first 29 = .ok (.invokestatic 91, 3) := by decide +kernel
theorem dX8_first_32 : decode cX8_first 32 = .ok (.iadd, 1) := by decide +kernel
theorem dX8_first_33 : decode cX8_first 33 = .ok (.iconst 1, 1) := by decide +kernel
theorem dX8_first_34 : decode cX8_first 34 = .ok (.iadd, 1) := by decide +kernel
theorem dX8_first_35 : decode cX8_first 35 = .ok (.ireturn, 1) := by decide +kernel
theorem dX8_first_36 : decode cX8_first 36 = .ok (.iinc 1 1, 3) := by decide +kernel
theorem dX8_first_39 : decode cX8_first 39 = .ok (.goto (-37), 3) := by decide +kernel
theorem dX8_first_42 : decode cX8_first 42 = .ok (.iconst (-1), 1) := by decide +kernel
theorem dX8_first_43 : decode cX8_first 43 = .ok (.ireturn, 1) := by decide +kernel
theorem dX8_unlikeSkills_0 : decode cX8_unlikeSkills 0 = .ok (.iconst 0, 1) := by decide +kernel
theorem dX8_unlikeSkills_1 : decode cX8_unlikeSkills 1 = .ok (.istore_n 3, 1) := by decide +kernel
theorem dX8_unlikeSkills_2 : decode cX8_unlikeSkills 2 = .ok (.iload_n 3, 1) := by decide +kernel
theorem dX8_unlikeSkills_3 : decode cX8_unlikeSkills 3 = .ok (.aload_n 0, 1) := by decide +kernel
theorem dX8_unlikeSkills_4 : decode cX8_unlikeSkills 4 = .ok (.getfield 22, 3) := by decide +kernel
theorem dX8_unlikeSkills_7 : decode cX8_unlikeSkills 7 = .ok (.arraylength, 1) := by decide +kernel
theorem dX8_unlikeSkills_8 : decode cX8_unlikeSkills 8 = .ok (.if_icmp .ge 16, 3) := by decide +kernel
theorem dX8_unlikeSkills_11 : decode cX8_unlikeSkills 11 = .ok (.aload_n 0, 1) := by decide +kernel
theorem dX8_unlikeSkills_12 : decode cX8_unlikeSkills 12 = .ok (.getfield 22, 3) := by decide +kernel
theorem dX8_unlikeSkills_15 : decode cX8_unlikeSkills 15 = .ok (.iload_n 3, 1) := by decide +kernel
theorem dX8_unlikeSkills_16 : decode cX8_unlikeSkills 16 = .ok (.iconst 0, 1) := by decide +kernel
theorem dX8_unlikeSkills_17 : decode cX8_unlikeSkills 17 = .ok (.bastore, 1) := by decide +kernel
theorem dX8_unlikeSkills_18 : decode cX8_unlikeSkills 18 = .ok (.iinc 3 1, 3) := by decide +kernel
theorem dX8_unlikeSkills_21 : decode cX8_unlikeSkills 21 = .ok (.goto (-19), 3) := by decide +kernel
theorem dX8_unlikeSkills_24 : decode cX8_unlikeSkills 24 = .ok (.iconst 0, 1) := by decide +kernel
theorem dX8_unlikeSkills_25 : decode cX8_unlikeSkills 25 = .ok (.istore_n 3, 1) := by decide +kernel
theorem dX8_unlikeSkills_26 : decode cX8_unlikeSkills 26 = .ok (.aload_n 0, 1) := by decide +kernel
theorem dX8_unlikeSkills_27 : decode cX8_unlikeSkills 27 = .ok (.invokevirtual 94, 3) := by decide +kernel
theorem dX8_unlikeSkills_30 : decode cX8_unlikeSkills 30 = .ok (.aload_n 0, 1) := by decide +kernel
theorem dX8_unlikeSkills_31 : decode cX8_unlikeSkills 31 = .ok (.getfield 9, 3) := by decide +kernel
theorem dX8_unlikeSkills_34 : decode cX8_unlikeSkills 34 = .ok (.iload_n 2, 1) := by decide +kernel
theorem dX8_unlikeSkills_35 : decode cX8_unlikeSkills 35 = .ok (.iaload, 1) := by decide +kernel
theorem dX8_unlikeSkills_36 : decode cX8_unlikeSkills 36 = .ok (.invokestatic 86, 3) := by decide +kernel
theorem dX8_unlikeSkills_39 : decode cX8_unlikeSkills 39 = .ok (.if_icmp .le 13, 3) := by decide +kernel
theorem dX8_unlikeSkills_42 : decode cX8_unlikeSkills 42 = .ok (.iload_n 3, 1) := by decide +kernel
theorem dX8_unlikeSkills_43 : decode cX8_unlikeSkills 43 = .ok (.aload_n 0, 1) := by decide +kernel
theorem dX8_unlikeSkills_44 : decode cX8_unlikeSkills 44 = .ok (.aload_n 1, 1) := by decide +kernel
theorem dX8_unlikeSkills_45 : decode cX8_unlikeSkills 45 = .ok (.iload_n 2, 1) := by decide +kernel
theorem dX8_unlikeSkills_46 : decode cX8_unlikeSkills 46 = .ok (.iconst 0, 1) := by decide +kernel
theorem dX8_unlikeSkills_47 : decode cX8_unlikeSkills 47 = .ok (.invokevirtual 98, 3) := by decide +kernel
theorem dX8_unlikeSkills_50 : decode cX8_unlikeSkills 50 = .ok (.iadd, 1) := by decide +kernel
theorem dX8_unlikeSkills_51 : decode cX8_unlikeSkills 51 = .ok (.istore_n 3, 1) := by decide +kernel
theorem dX8_unlikeSkills_52 : decode cX8_unlikeSkills 52 = .ok (.iconst 1, 1) := by decide +kernel
theorem dX8_unlikeSkills_53 : decode cX8_unlikeSkills 53 = .ok (.istore 4, 2) := by decide +kernel
theorem dX8_unlikeSkills_55 : decode cX8_unlikeSkills 55 = .ok (.iload 4, 2) := by decide +kernel
theorem dX8_unlikeSkills_57 : decode cX8_unlikeSkills 57 = .ok (.bipush 20, 2) := by decide +kernel
theorem dX8_unlikeSkills_59 : decode cX8_unlikeSkills 59 = .ok (.if_icmp .gt 37, 3) := by decide +kernel
theorem dX8_unlikeSkills_62 : decode cX8_unlikeSkills 62 = .ok (.aload_n 0, 1) := by decide +kernel
theorem dX8_unlikeSkills_63 : decode cX8_unlikeSkills 63 = .ok (.getfield 9, 3) := by decide +kernel
theorem dX8_unlikeSkills_66 : decode cX8_unlikeSkills 66 = .ok (.iload_n 2, 1) := by decide +kernel
theorem dX8_unlikeSkills_67 : decode cX8_unlikeSkills 67 = .ok (.iaload, 1) := by decide +kernel
theorem dX8_unlikeSkills_68 : decode cX8_unlikeSkills 68 = .ok (.iload 4, 2) := by decide +kernel
theorem dX8_unlikeSkills_70 : decode cX8_unlikeSkills 70 = .ok (.iconst 1, 1) := by decide +kernel
theorem dX8_unlikeSkills_71 : decode cX8_unlikeSkills 71 = .ok (.isub, 1) := by decide +kernel
theorem dX8_unlikeSkills_72 : decode cX8_unlikeSkills 72 = .ok (.ishr, 1) := by decide +kernel
theorem dX8_unlikeSkills_73 : decode cX8_unlikeSkills 73 = .ok (.iconst 1, 1) := by decide +kernel
theorem dX8_unlikeSkills_74 : decode cX8_unlikeSkills 74 = .ok (.iand, 1) := by decide +kernel
theorem dX8_unlikeSkills_75 : decode cX8_unlikeSkills 75 = .ok (.iconst 1, 1) := by decide +kernel
theorem dX8_unlikeSkills_76 : decode cX8_unlikeSkills 76 = .ok (.if_icmp .ne 14, 3) := by decide +kernel
theorem dX8_unlikeSkills_79 : decode cX8_unlikeSkills 79 = .ok (.iload_n 3, 1) := by decide +kernel
theorem dX8_unlikeSkills_80 : decode cX8_unlikeSkills 80 = .ok (.aload_n 0, 1) := by decide +kernel
theorem dX8_unlikeSkills_81 : decode cX8_unlikeSkills 81 = .ok (.aload_n 1, 1) := by decide +kernel
theorem dX8_unlikeSkills_82 : decode cX8_unlikeSkills 82 = .ok (.iload_n 2, 1) := by decide +kernel
theorem dX8_unlikeSkills_83 : decode cX8_unlikeSkills 83 = .ok (.iload 4, 2) := by decide +kernel
theorem dX8_unlikeSkills_85 : decode cX8_unlikeSkills 85 = .ok (.invokevirtual 98, 3) := by decide +kernel
theorem dX8_unlikeSkills_88 : decode cX8_unlikeSkills 88 = .ok (.iadd, 1) := by decide +kernel
theorem dX8_unlikeSkills_89 : decode cX8_unlikeSkills 89 = .ok (.istore_n 3, 1) := by decide +kernel
theorem dX8_unlikeSkills_90 : decode cX8_unlikeSkills 90 = .ok (.iinc 4 1, 3) := by decide +kernel
theorem dX8_unlikeSkills_93 : decode cX8_unlikeSkills 93 = .ok (.goto (-38), 3) := by decide +kernel
theorem dX8_unlikeSkills_96 : decode cX8_unlikeSkills 96 = .ok (.iload_n 3, 1) := by decide +kernel
theorem dX8_unlikeSkills_97 : decode cX8_unlikeSkills 97 = .ok (.ireturn, 1) := by decide +kernel
theorem dX8_meet_0 : decode cX8_meet 0 = .ok (.aload_n 0, 1) := by decide +kernel
theorem dX8_meet_1 : decode cX8_meet 1 = .ok (.aload_n 1, 1) := by decide +kernel
theorem dX8_meet_2 : decode cX8_meet 2 = .ok (.iload_n 2, 1) := by decide +kernel
theorem dX8_meet_3 : decode cX8_meet 3 = .ok (.iload_n 3, 1) := by decide +kernel
theorem dX8_meet_4 : decode cX8_meet 4 = .ok (.invokevirtual 65, 3) := by decide +kernel
theorem dX8_meet_7 : decode cX8_meet 7 = .ok (.aload_n 1, 1) := by decide +kernel
theorem dX8_meet_8 : decode cX8_meet 8 = .ok (.aload_n 0, 1) := by decide +kernel
theorem dX8_meet_9 : decode cX8_meet 9 = .ok (.getfield 18, 3) := by decide +kernel
theorem dX8_meet_12 : decode cX8_meet 12 = .ok (.bipush 20, 2) := by decide +kernel
theorem dX8_meet_14 : decode cX8_meet 14 = .ok (.invokevirtual 75, 3) := by decide +kernel
theorem dX8_meet_17 : decode cX8_meet 17 = .ok (.aload_n 0, 1) := by decide +kernel
theorem dX8_meet_18 : decode cX8_meet 18 = .ok (.getfield 18, 3) := by decide +kernel
theorem dX8_meet_21 : decode cX8_meet 21 = .ok (.getfield 102, 3) := by decide +kernel
theorem dX8_meet_24 : decode cX8_meet 24 = .ok (.istore 4, 2) := by decide +kernel
theorem dX8_meet_26 : decode cX8_meet 26 = .ok (.iload 4, 2) := by decide +kernel
theorem dX8_meet_28 : decode cX8_meet 28 = .ok (.ifCond .lt 23, 3) := by decide +kernel
theorem dX8_meet_31 : decode cX8_meet 31 = .ok (.iload 4, 2) := by decide +kernel
theorem dX8_meet_33 : decode cX8_meet 33 = .ok (.aload_n 0, 1) := by decide +kernel
theorem dX8_meet_34 : decode cX8_meet 34 = .ok (.getfield 22, 3) := by decide +kernel
theorem dX8_meet_37 : decode cX8_meet 37 = .ok (.arraylength, 1) := by decide +kernel
theorem dX8_meet_38 : decode cX8_meet 38 = .ok (.if_icmp .ge 13, 3) := by decide +kernel
theorem dX8_meet_41 : decode cX8_meet 41 = .ok (.aload_n 0, 1) := by decide +kernel
theorem dX8_meet_42 : decode cX8_meet 42 = .ok (.getfield 22, 3) := by decide +kernel
theorem dX8_meet_45 : decode cX8_meet 45 = .ok (.iload 4, 2) := by decide +kernel
theorem dX8_meet_47 : decode cX8_meet 47 = .ok (.baload, 1) := by decide +kernel
theorem dX8_meet_48 : decode cX8_meet 48 = .ok (.ifCond .eq 5, 3) := by decide +kernel
theorem dX8_meet_51 : decode cX8_meet 51 = .ok (.iconst 0, 1) := by decide +kernel
theorem dX8_meet_52 : decode cX8_meet 52 = .ok (.ireturn, 1) := by decide +kernel
theorem dX8_meet_53 : decode cX8_meet 53 = .ok (.aload_n 0, 1) := by decide +kernel
theorem dX8_meet_54 : decode cX8_meet 54 = .ok (.getfield 22, 3) := by decide +kernel
theorem dX8_meet_57 : decode cX8_meet 57 = .ok (.iload 4, 2) := by decide +kernel
theorem dX8_meet_59 : decode cX8_meet 59 = .ok (.iconst 1, 1) := by decide +kernel
theorem dX8_meet_60 : decode cX8_meet 60 = .ok (.bastore, 1) := by decide +kernel
theorem dX8_meet_61 : decode cX8_meet 61 = .ok (.iconst 1, 1) := by decide +kernel
theorem dX8_meet_62 : decode cX8_meet 62 = .ok (.ireturn, 1) := by decide +kernel
theorem dX9_init_0 : decode cX9_init 0 = .ok (.aload_n 0, 1) := by decide +kernel
theorem dX9_init_1 : decode cX9_init 1 = .ok (.invokespecial 3, 3) := by decide +kernel
theorem dX9_init_4 : decode cX9_init 4 = .ok (.aload_n 0, 1) := by decide +kernel
theorem dX9_init_5 : decode cX9_init 5 = .ok (.bipush 8, 2) := by decide +kernel
theorem dX9_init_7 : decode cX9_init 7 = .ok (.newarray .int, 2) := by decide +kernel
theorem dX9_init_9 : decode cX9_init 9 = .ok (.putfield 9, 3) := by decide +kernel
theorem dX9_init_12 : decode cX9_init 12 = .ok (.aload_n 0, 1) := by decide +kernel
theorem dX9_init_13 : decode cX9_init 13 = .ok (.bipush 8, 2) := by decide +kernel
theorem dX9_init_15 : decode cX9_init 15 = .ok (.newarray .int, 2) := by decide +kernel
theorem dX9_init_17 : decode cX9_init 17 = .ok (.putfield 15, 3) := by decide +kernel
theorem dX9_init_20 : decode cX9_init 20 = .ok (.aload_n 0, 1) := by decide +kernel
theorem dX9_init_21 : decode cX9_init 21 = .ok (.bipush 8, 2) := by decide +kernel
theorem dX9_init_23 : decode cX9_init 23 = .ok (.newarray .int, 2) := by decide +kernel
theorem dX9_init_25 : decode cX9_init 25 = .ok (.putfield 18, 3) := by decide +kernel
theorem dX9_init_28 : decode cX9_init 28 = .ok (.return_, 1) := by decide +kernel
theorem dX9_clear_0 : decode cX9_clear 0 = .ok (.aload_n 0, 1) := by decide +kernel
theorem dX9_clear_1 : decode cX9_clear 1 = .ok (.iconst 0, 1) := by decide +kernel
theorem dX9_clear_2 : decode cX9_clear 2 = .ok (.putfield 21, 3) := by decide +kernel
theorem dX9_clear_5 : decode cX9_clear 5 = .ok (.return_, 1) := by decide +kernel
theorem dX9_become_0 : decode cX9_become 0 = .ok (.aload_n 0, 1) := by decide +kernel
theorem dX9_become_1 : decode cX9_become 1 = .ok (.aload_n 1, 1) := by decide +kernel
theorem dX9_become_2 : decode cX9_become 2 = .ok (.getfield 21, 3) := by decide +kernel
theorem dX9_become_5 : decode cX9_become 5 = .ok (.putfield 21, 3) := by decide +kernel
theorem dX9_become_8 : decode cX9_become 8 = .ok (.iconst 0, 1) := by decide +kernel
theorem dX9_become_9 : decode cX9_become 9 = .ok (.istore_n 2, 1) := by decide +kernel
theorem dX9_become_10 : decode cX9_become 10 = .ok (.iload_n 2, 1) := by decide +kernel
theorem dX9_become_11 : decode cX9_become 11 = .ok (.aload_n 0, 1) := by decide +kernel
theorem dX9_become_12 : decode cX9_become 12 = .ok (.getfield 21, 3) := by decide +kernel
theorem dX9_become_15 : decode cX9_become 15 = .ok (.if_icmp .ge 45, 3) := by decide +kernel
theorem dX9_become_18 : decode cX9_become 18 = .ok (.aload_n 0, 1) := by decide +kernel
theorem dX9_become_19 : decode cX9_become 19 = .ok (.getfield 9, 3) := by decide +kernel
theorem dX9_become_22 : decode cX9_become 22 = .ok (.iload_n 2, 1) := by decide +kernel
theorem dX9_become_23 : decode cX9_become 23 = .ok (.aload_n 1, 1) := by decide +kernel
theorem dX9_become_24 : decode cX9_become 24 = .ok (.getfield 9, 3) := by decide +kernel
theorem dX9_become_27 : decode cX9_become 27 = .ok (.iload_n 2, 1) := by decide +kernel
theorem dX9_become_28 : decode cX9_become 28 = .ok (.iaload, 1) := by decide +kernel
theorem dX9_become_29 : decode cX9_become 29 = .ok (.iastore, 1) := by decide +kernel
theorem dX9_become_30 : decode cX9_become 30 = .ok (.aload_n 0, 1) := by decide +kernel
theorem dX9_become_31 : decode cX9_become 31 = .ok (.getfield 15, 3) := by decide +kernel
theorem dX9_become_34 : decode cX9_become 34 = .ok (.iload_n 2, 1) := by decide +kernel
theorem dX9_become_35 : decode cX9_become 35 = .ok (.aload_n 1, 1) := by decide +kernel
theorem dX9_become_36 : decode cX9_become 36 = .ok (.getfield 15, 3) := by decide +kernel
theorem dX9_become_39 : decode cX9_become 39 = .ok (.iload_n 2, 1) := by decide +kernel
theorem dX9_become_40 : decode cX9_become 40 = .ok (.iaload, 1) := by decide +kernel
theorem dX9_become_41 : decode cX9_become 41 = .ok (.iastore, 1) := by decide +kernel
theorem dX9_become_42 : decode cX9_become 42 = .ok (.aload_n 0, 1) := by decide +kernel
theorem dX9_become_43 : decode cX9_become 43 = .ok (.getfield 18, 3) := by decide +kernel
theorem dX9_become_46 : decode cX9_become 46 = .ok (.iload_n 2, 1) := by decide +kernel
theorem dX9_become_47 : decode cX9_become 47 = .ok (.aload_n 1, 1) := by decide +kernel
theorem dX9_become_48 : decode cX9_become 48 = .ok (.getfield 18, 3) := by decide +kernel
theorem dX9_become_51 : decode cX9_become 51 = .ok (.iload_n 2, 1) := by decide +kernel
theorem dX9_become_52 : decode cX9_become 52 = .ok (.iaload, 1) := by decide +kernel
theorem dX9_become_53 : decode cX9_become 53 = .ok (.iastore, 1) := by decide +kernel
theorem dX9_become_54 : decode cX9_become 54 = .ok (.iinc 2 1, 3) := by decide +kernel
theorem dX9_become_57 : decode cX9_become 57 = .ok (.goto (-47), 3) := by decide +kernel
theorem dX9_become_60 : decode cX9_become 60 = .ok (.return_, 1) := by decide +kernel
theorem dX9_add_0 : decode cX9_add 0 = .ok (.aload_n 0, 1) := by decide +kernel
theorem dX9_add_1 : decode cX9_add 1 = .ok (.getfield 21, 3) := by decide +kernel
theorem dX9_add_4 : decode cX9_add 4 = .ok (.bipush 8, 2) := by decide +kernel
theorem dX9_add_6 : decode cX9_add 6 = .ok (.if_icmp .ge 43, 3) := by decide +kernel
theorem dX9_add_9 : decode cX9_add 9 = .ok (.aload_n 0, 1) := by decide +kernel
theorem dX9_add_10 : decode cX9_add 10 = .ok (.getfield 9, 3) := by decide +kernel
theorem dX9_add_13 : decode cX9_add 13 = .ok (.aload_n 0, 1) := by decide +kernel
theorem dX9_add_14 : decode cX9_add 14 = .ok (.getfield 21, 3) := by decide +kernel
theorem dX9_add_17 : decode cX9_add 17 = .ok (.iload_n 1, 1) := by decide +kernel
theorem dX9_add_18 : decode cX9_add 18 = .ok (.iastore, 1) := by decide +kernel
theorem dX9_add_19 : decode cX9_add 19 = .ok (.aload_n 0, 1) := by decide +kernel
theorem dX9_add_20 : decode cX9_add 20 = .ok (.getfield 15, 3) := by decide +kernel
theorem dX9_add_23 : decode cX9_add 23 = .ok (.aload_n 0, 1) := by decide +kernel
theorem dX9_add_24 : decode cX9_add 24 = .ok (.getfield 21, 3) := by decide +kernel
theorem dX9_add_27 : decode cX9_add 27 = .ok (.iload_n 2, 1) := by decide +kernel
theorem dX9_add_28 : decode cX9_add 28 = .ok (.iastore, 1) := by decide +kernel
theorem dX9_add_29 : decode cX9_add 29 = .ok (.aload_n 0, 1) := by decide +kernel
theorem dX9_add_30 : decode cX9_add 30 = .ok (.getfield 18, 3) := by decide +kernel
theorem dX9_add_33 : decode cX9_add 33 = .ok (.aload_n 0, 1) := by decide +kernel
theorem dX9_add_34 : decode cX9_add 34 = .ok (.getfield 21, 3) := by decide +kernel
theorem dX9_add_37 : decode cX9_add 37 = .ok (.iload_n 3, 1) := by decide +kernel
theorem dX9_add_38 : decode cX9_add 38 = .ok (.iastore, 1) := by decide +kernel
theorem dX9_add_39 : decode cX9_add 39 = .ok (.aload_n 0, 1) := by decide +kernel
theorem dX9_add_40 : decode cX9_add 40 = .ok (.dup, 1) := by decide +kernel
theorem dX9_add_41 : decode cX9_add 41 = .ok (.getfield 21, 3) := by decide +kernel
theorem dX9_add_44 : decode cX9_add 44 = .ok (.iconst 1, 1) := by decide +kernel
theorem dX9_add_45 : decode cX9_add 45 = .ok (.iadd, 1) := by decide +kernel
theorem dX9_add_46 : decode cX9_add 46 = .ok (.putfield 21, 3) := by decide +kernel
theorem dX9_add_49 : decode cX9_add 49 = .ok (.return_, 1) := by decide +kernel
theorem dX9_lastWeekOf_0 : decode cX9_lastWeekOf 0 = .ok (.iconst 0, 1) := by decide +kernel
theorem dX9_lastWeekOf_1 : decode cX9_lastWeekOf 1 = .ok (.istore_n 2, 1) := by decide +kernel
theorem dX9_lastWeekOf_2 : decode cX9_lastWeekOf 2 = .ok (.iconst 0, 1) := by decide +kernel
theorem dX9_lastWeekOf_3 : decode cX9_lastWeekOf 3 = .ok (.istore_n 3, 1) := by decide +kernel
theorem dX9_lastWeekOf_4 : decode cX9_lastWeekOf 4 = .ok (.iload_n 3, 1) := by decide +kernel
theorem dX9_lastWeekOf_5 : decode cX9_lastWeekOf 5 = .ok (.aload_n 0, 1) := by decide +kernel
theorem dX9_lastWeekOf_6 : decode cX9_lastWeekOf 6 = .ok (.getfield 21, 3) := by decide +kernel
theorem dX9_lastWeekOf_9 : decode cX9_lastWeekOf 9 = .ok (.if_icmp .ge 30, 3) := by decide +kernel
theorem dX9_lastWeekOf_12 : decode cX9_lastWeekOf 12 = .ok (.aload_n 0, 1) := by decide +kernel
theorem dX9_lastWeekOf_13 : decode cX9_lastWeekOf 13 = .ok (.getfield 9, 3) := by decide +kernel
theorem dX9_lastWeekOf_16 : decode cX9_lastWeekOf 16 = .ok (.iload_n 3, 1) := by decide +kernel
theorem dX9_lastWeekOf_17 : decode cX9_lastWeekOf 17 = .ok (.iaload, 1) := by decide +kernel
theorem dX9_lastWeekOf_18 : decode cX9_lastWeekOf 18 = .ok (.iload_n 1, 1) := by decide +kernel
theorem dX9_lastWeekOf_19 : decode cX9_lastWeekOf 19 = .ok (.if_icmp .ne 14, 3) := by decide +kernel
theorem dX9_lastWeekOf_22 : decode cX9_lastWeekOf 22 = .ok (.iload_n 2, 1) := by decide +kernel
theorem dX9_lastWeekOf_23 : decode cX9_lastWeekOf 23 = .ok (.aload_n 0, 1) := by decide +kernel
theorem dX9_lastWeekOf_24 : decode cX9_lastWeekOf 24 = .ok (.getfield 15, 3) := by decide +kernel
theorem dX9_lastWeekOf_27 : decode cX9_lastWeekOf 27 = .ok (.iload_n 3, 1) := by decide +kernel
theorem dX9_lastWeekOf_28 : decode cX9_lastWeekOf 28 = .ok (.iaload, 1) := by decide +kernel
theorem dX9_lastWeekOf_29 : decode cX9_lastWeekOf 29 = .ok (.invokestatic 25, 3) := by decide +kernel
theorem dX9_lastWeekOf_32 : decode cX9_lastWeekOf 32 = .ok (.istore_n 2, 1) := by decide +kernel
theorem dX9_lastWeekOf_33 : decode cX9_lastWeekOf 33 = .ok (.iinc 3 1, 3) := by decide +kernel
theorem dX9_lastWeekOf_36 : decode cX9_lastWeekOf 36 = .ok (.goto (-32), 3) := by decide +kernel
theorem dX9_lastWeekOf_39 : decode cX9_lastWeekOf 39 = .ok (.iload_n 2, 1) := by decide +kernel
theorem dX9_lastWeekOf_40 : decode cX9_lastWeekOf 40 = .ok (.ireturn, 1) := by decide +kernel
theorem dX9_speaksAgainst_0 : decode cX9_speaksAgainst 0 = .ok (.iconst 0, 1) := by decide +kernel
theorem dX9_speaksAgainst_1 : decode cX9_speaksAgainst 1 = .ok (.istore 4, 2) := by decide +kernel
theorem dX9_speaksAgainst_3 : decode cX9_speaksAgainst 3 = .ok (.iload 4, 2) := by decide +kernel
theorem dX9_speaksAgainst_5 : decode cX9_speaksAgainst 5 = .ok (.aload_n 0, 1) := by decide +kernel
theorem dX9_speaksAgainst_6 : decode cX9_speaksAgainst 6 = .ok (.getfield 21, 3) := by decide +kernel
theorem dX9_speaksAgainst_9 : decode cX9_speaksAgainst 9 = .ok (.if_icmp .ge 44, 3) := by decide +kernel
theorem dX9_speaksAgainst_12 : decode cX9_speaksAgainst 12 = .ok (.aload_n 0, 1) := by decide +kernel
theorem dX9_speaksAgainst_13 : decode cX9_speaksAgainst 13 = .ok (.getfield 9, 3) := by decide +kernel
theorem dX9_speaksAgainst_16 : decode cX9_speaksAgainst 16 = .ok (.iload 4, 2) := by decide +kernel
theorem dX9_speaksAgainst_18 : decode cX9_speaksAgainst 18 = .ok (.iaload, 1) := by decide +kernel
theorem dX9_speaksAgainst_19 : decode cX9_speaksAgainst 19 = .ok (.iload_n 1, 1) := by decide +kernel
theorem dX9_speaksAgainst_20 : decode cX9_speaksAgainst 20 = .ok (.if_icmp .ne 27, 3) := by decide +kernel
theorem dX9_speaksAgainst_23 : decode cX9_speaksAgainst 23 = .ok (.aload_n 0, 1) := by decide +kernel
theorem dX9_speaksAgainst_24 : decode cX9_speaksAgainst 24 = .ok (.getfield 15, 3) := by decide +kernel
theorem dX9_speaksAgainst_27 : decode cX9_speaksAgainst 27 = .ok (.iload 4, 2) := by decide +kernel
theorem dX9_speaksAgainst_29 : decode cX9_speaksAgainst 29 = .ok (.iaload, 1) := by decide +kernel
theorem dX9_speaksAgainst_30 : decode cX9_speaksAgainst 30 = .ok (.iload_n 2, 1) := by decide +kernel
theorem dX9_speaksAgainst_31 : decode cX9_speaksAgainst 31 = .ok (.if_icmp .ne 16, 3) := by decide +kernel
theorem dX9_speaksAgainst_34 : decode cX9_speaksAgainst 34 = .ok (.aload_n 0, 1) := by decide +kernel
theorem dX9_speaksAgainst_35 : decode cX9_speaksAgainst 35 = .ok (.getfield 18, 3) := by decide +kernel
theorem dX9_speaksAgainst_38 : decode cX9_speaksAgainst 38 = .ok (.iload 4, 2) := by decide +kernel
theorem dX9_speaksAgainst_40 : decode cX9_speaksAgainst 40 = .ok (.iaload, 1) := by decide +kernel
theorem dX9_speaksAgainst_41 : decode cX9_speaksAgainst 41 = .ok (.iload_n 3, 1) := by decide +kernel
theorem dX9_speaksAgainst_42 : decode cX9_speaksAgainst 42 = .ok (.if_icmp .eq 5, 3) := by decide +kernel
theorem dX9_speaksAgainst_45 : decode cX9_speaksAgainst 45 = .ok (.iconst 1, 1) := by decide +kernel
theorem dX9_speaksAgainst_46 : decode cX9_speaksAgainst 46 = .ok (.ireturn, 1) := by decide +kernel
theorem dJ6_highestOneBit_0f7a4_0 : decode cJ6_highestOneBit_0f7a4 0 = .ok (.iload_n 0, 1) := by decide +kernel
theorem dJ6_highestOneBit_0f7a4_1 : decode cJ6_highestOneBit_0f7a4 1 = .ok (.ldc 127, 2) := by decide +kernel
theorem dJ6_highestOneBit_0f7a4_3 : decode cJ6_highestOneBit_0f7a4 3 = .ok (.iload_n 0, 1) := by decide +kernel
theorem dJ6_highestOneBit_0f7a4_4 : decode cJ6_highestOneBit_0f7a4 4 = .ok (.invokestatic 51, 3) := by decide +kernel
theorem dJ6_highestOneBit_0f7a4_7 : decode cJ6_highestOneBit_0f7a4 7 = .ok (.iushr, 1) := by decide +kernel
theorem dJ6_highestOneBit_0f7a4_8 : decode cJ6_highestOneBit_0f7a4 8 = .ok (.iand, 1) := by decide +kernel
theorem dJ6_highestOneBit_0f7a4_9 : decode cJ6_highestOneBit_0f7a4 9 = .ok (.ireturn, 1) := by decide +kernel
theorem dJ6_numberOfLeadingZeros_0f7a4_0 : decode cJ6_numberOfLeadingZeros_0f7a4 0 = .ok (.iload_n 0, 1) := by decide +kernel
theorem dJ6_numberOfLeadingZeros_0f7a4_1 : decode cJ6_numberOfLeadingZeros_0f7a4 1 = .ok (.ifCond .gt 14, 3) := by decide +kernel
theorem dJ6_numberOfLeadingZeros_0f7a4_4 : decode cJ6_numberOfLeadingZeros_0f7a4 4 = .ok (.iload_n 0, 1) := by decide +kernel
theorem dJ6_numberOfLeadingZeros_0f7a4_5 : decode cJ6_numberOfLeadingZeros_0f7a4 5 = .ok (.ifCond .ne 8, 3) := by decide +kernel
theorem dJ6_numberOfLeadingZeros_0f7a4_8 : decode cJ6_numberOfLeadingZeros_0f7a4 8 = .ok (.bipush 32, 2) := by decide +kernel
theorem dJ6_numberOfLeadingZeros_0f7a4_10 : decode cJ6_numberOfLeadingZeros_0f7a4 10 = .ok (.goto 4, 3) := by decide +kernel
theorem dJ6_numberOfLeadingZeros_0f7a4_13 : decode cJ6_numberOfLeadingZeros_0f7a4 13 = .ok (.iconst 0, 1) := by decide +kernel
theorem dJ6_numberOfLeadingZeros_0f7a4_14 : decode cJ6_numberOfLeadingZeros_0f7a4 14 = .ok (.ireturn, 1) := by decide +kernel
theorem dJ6_numberOfLeadingZeros_0f7a4_15 : decode cJ6_numberOfLeadingZeros_0f7a4 15 = .ok (.bipush 31, 2) := by decide +kernel
theorem dJ6_numberOfLeadingZeros_0f7a4_17 : decode cJ6_numberOfLeadingZeros_0f7a4 17 = .ok (.istore_n 1, 1) := by decide +kernel
theorem dJ6_numberOfLeadingZeros_0f7a4_18 : decode cJ6_numberOfLeadingZeros_0f7a4 18 = .ok (.iload_n 0, 1) := by decide +kernel
theorem dJ6_numberOfLeadingZeros_0f7a4_19 : decode cJ6_numberOfLeadingZeros_0f7a4 19 = .ok (.ldc_w 264, 3) := by decide +kernel
theorem dJ6_numberOfLeadingZeros_0f7a4_22 : decode cJ6_numberOfLeadingZeros_0f7a4 22 = .ok (.if_icmp .lt 11, 3) := by decide +kernel
theorem dJ6_numberOfLeadingZeros_0f7a4_25 : decode cJ6_numberOfLeadingZeros_0f7a4 25 = .ok (.iinc 1 (-16), 3) := by decide +kernel
theorem dJ6_numberOfLeadingZeros_0f7a4_28 : decode cJ6_numberOfLeadingZeros_0f7a4 28 = .ok (.iload_n 0, 1) := by decide +kernel
theorem dJ6_numberOfLeadingZeros_0f7a4_29 : decode cJ6_numberOfLeadingZeros_0f7a4 29 = .ok (.bipush 16, 2) := by decide +kernel
theorem dJ6_numberOfLeadingZeros_0f7a4_31 : decode cJ6_numberOfLeadingZeros_0f7a4 31 = .ok (.iushr, 1) := by decide +kernel
theorem dJ6_numberOfLeadingZeros_0f7a4_32 : decode cJ6_numberOfLeadingZeros_0f7a4 32 = .ok (.istore_n 0, 1) := by decide +kernel
theorem dJ6_numberOfLeadingZeros_0f7a4_33 : decode cJ6_numberOfLeadingZeros_0f7a4 33 = .ok (.iload_n 0, 1) := by decide +kernel
theorem dJ6_numberOfLeadingZeros_0f7a4_34 : decode cJ6_numberOfLeadingZeros_0f7a4 34 = .ok (.sipush 256, 3) := by decide +kernel
theorem dJ6_numberOfLeadingZeros_0f7a4_37 : decode cJ6_numberOfLeadingZeros_0f7a4 37 = .ok (.if_icmp .lt 11, 3) := by decide +kernel
theorem dJ6_numberOfLeadingZeros_0f7a4_40 : decode cJ6_numberOfLeadingZeros_0f7a4 40 = .ok (.iinc 1 (-8), 3) := by decide +kernel
theorem dJ6_numberOfLeadingZeros_0f7a4_43 : decode cJ6_numberOfLeadingZeros_0f7a4 43 = .ok (.iload_n 0, 1) := by decide +kernel
theorem dJ6_numberOfLeadingZeros_0f7a4_44 : decode cJ6_numberOfLeadingZeros_0f7a4 44 = .ok (.bipush 8, 2) := by decide +kernel
theorem dJ6_numberOfLeadingZeros_0f7a4_46 : decode cJ6_numberOfLeadingZeros_0f7a4 46 = .ok (.iushr, 1) := by decide +kernel
theorem dJ6_numberOfLeadingZeros_0f7a4_47 : decode cJ6_numberOfLeadingZeros_0f7a4 47 = .ok (.istore_n 0, 1) := by decide +kernel
theorem dJ6_numberOfLeadingZeros_0f7a4_48 : decode cJ6_numberOfLeadingZeros_0f7a4 48 = .ok (.iload_n 0, 1) := by decide +kernel
theorem dJ6_numberOfLeadingZeros_0f7a4_49 : decode cJ6_numberOfLeadingZeros_0f7a4 49 = .ok (.bipush 16, 2) := by decide +kernel
theorem dJ6_numberOfLeadingZeros_0f7a4_51 : decode cJ6_numberOfLeadingZeros_0f7a4 51 = .ok (.if_icmp .lt 10, 3) := by decide +kernel
theorem dJ6_numberOfLeadingZeros_0f7a4_54 : decode cJ6_numberOfLeadingZeros_0f7a4 54 = .ok (.iinc 1 (-4), 3) := by decide +kernel
theorem dJ6_numberOfLeadingZeros_0f7a4_57 : decode cJ6_numberOfLeadingZeros_0f7a4 57 = .ok (.iload_n 0, 1) := by decide +kernel
theorem dJ6_numberOfLeadingZeros_0f7a4_58 : decode cJ6_numberOfLeadingZeros_0f7a4 58 = .ok (.iconst 4, 1) := by decide +kernel
theorem dJ6_numberOfLeadingZeros_0f7a4_59 : decode cJ6_numberOfLeadingZeros_0f7a4 59 = .ok (.iushr, 1) := by decide +kernel
theorem dJ6_numberOfLeadingZeros_0f7a4_60 : decode cJ6_numberOfLeadingZeros_0f7a4 60 = .ok (.istore_n 0, 1) := by decide +kernel
theorem dJ6_numberOfLeadingZeros_0f7a4_61 : decode cJ6_numberOfLeadingZeros_0f7a4 61 = .ok (.iload_n 0, 1) := by decide +kernel
theorem dJ6_numberOfLeadingZeros_0f7a4_62 : decode cJ6_numberOfLeadingZeros_0f7a4 62 = .ok (.iconst 4, 1) := by decide +kernel
theorem dJ6_numberOfLeadingZeros_0f7a4_63 : decode cJ6_numberOfLeadingZeros_0f7a4 63 = .ok (.if_icmp .lt 10, 3) := by decide +kernel
theorem dJ6_numberOfLeadingZeros_0f7a4_66 : decode cJ6_numberOfLeadingZeros_0f7a4 66 = .ok (.iinc 1 (-2), 3) := by decide +kernel
theorem dJ6_numberOfLeadingZeros_0f7a4_69 : decode cJ6_numberOfLeadingZeros_0f7a4 69 = .ok (.iload_n 0, 1) := by decide +kernel
theorem dJ6_numberOfLeadingZeros_0f7a4_70 : decode cJ6_numberOfLeadingZeros_0f7a4 70 = .ok (.iconst 2, 1) := by decide +kernel
theorem dJ6_numberOfLeadingZeros_0f7a4_71 : decode cJ6_numberOfLeadingZeros_0f7a4 71 = .ok (.iushr, 1) := by decide +kernel
theorem dJ6_numberOfLeadingZeros_0f7a4_72 : decode cJ6_numberOfLeadingZeros_0f7a4 72 = .ok (.istore_n 0, 1) := by decide +kernel
theorem dJ6_numberOfLeadingZeros_0f7a4_73 : decode cJ6_numberOfLeadingZeros_0f7a4 73 = .ok (.iload_n 1, 1) := by decide +kernel
theorem dJ6_numberOfLeadingZeros_0f7a4_74 : decode cJ6_numberOfLeadingZeros_0f7a4 74 = .ok (.iload_n 0, 1) := by decide +kernel
theorem dJ6_numberOfLeadingZeros_0f7a4_75 : decode cJ6_numberOfLeadingZeros_0f7a4 75 = .ok (.iconst 1, 1) := by decide +kernel
theorem dJ6_numberOfLeadingZeros_0f7a4_76 : decode cJ6_numberOfLeadingZeros_0f7a4 76 = .ok (.iushr, 1) := by decide +kernel
theorem dJ6_numberOfLeadingZeros_0f7a4_77 : decode cJ6_numberOfLeadingZeros_0f7a4 77 = .ok (.isub, 1) := by decide +kernel
theorem dJ6_numberOfLeadingZeros_0f7a4_78 : decode cJ6_numberOfLeadingZeros_0f7a4 78 = .ok (.ireturn, 1) := by decide +kernel
theorem dJ6_numberOfTrailingZeros_0f7a4_0 : decode cJ6_numberOfTrailingZeros_0f7a4 0 = .ok (.iload_n 0, 1) := by decide +kernel
theorem dJ6_numberOfTrailingZeros_0f7a4_1 : decode cJ6_numberOfTrailingZeros_0f7a4 1 = .ok (.iconst (-1), 1) := by decide +kernel
theorem dJ6_numberOfTrailingZeros_0f7a4_2 : decode cJ6_numberOfTrailingZeros_0f7a4 2 = .ok (.ixor, 1) := by decide +kernel
theorem dJ6_numberOfTrailingZeros_0f7a4_3 : decode cJ6_numberOfTrailingZeros_0f7a4 3 = .ok (.iload_n 0, 1) := by decide +kernel
theorem dJ6_numberOfTrailingZeros_0f7a4_4 : decode cJ6_numberOfTrailingZeros_0f7a4 4 = .ok (.iconst 1, 1) := by decide +kernel
theorem dJ6_numberOfTrailingZeros_0f7a4_5 : decode cJ6_numberOfTrailingZeros_0f7a4 5 = .ok (.isub, 1) := by decide +kernel
theorem dJ6_numberOfTrailingZeros_0f7a4_6 : decode cJ6_numberOfTrailingZeros_0f7a4 6 = .ok (.iand, 1) := by decide +kernel
theorem dJ6_numberOfTrailingZeros_0f7a4_7 : decode cJ6_numberOfTrailingZeros_0f7a4 7 = .ok (.istore_n 0, 1) := by decide +kernel
theorem dJ6_numberOfTrailingZeros_0f7a4_8 : decode cJ6_numberOfTrailingZeros_0f7a4 8 = .ok (.iload_n 0, 1) := by decide +kernel
theorem dJ6_numberOfTrailingZeros_0f7a4_9 : decode cJ6_numberOfTrailingZeros_0f7a4 9 = .ok (.ifCond .gt 8, 3) := by decide +kernel
theorem dJ6_numberOfTrailingZeros_0f7a4_12 : decode cJ6_numberOfTrailingZeros_0f7a4 12 = .ok (.iload_n 0, 1) := by decide +kernel
theorem dJ6_numberOfTrailingZeros_0f7a4_13 : decode cJ6_numberOfTrailingZeros_0f7a4 13 = .ok (.bipush 32, 2) := by decide +kernel
theorem dJ6_numberOfTrailingZeros_0f7a4_15 : decode cJ6_numberOfTrailingZeros_0f7a4 15 = .ok (.iand, 1) := by decide +kernel
theorem dJ6_numberOfTrailingZeros_0f7a4_16 : decode cJ6_numberOfTrailingZeros_0f7a4 16 = .ok (.ireturn, 1) := by decide +kernel
theorem dJ6_numberOfTrailingZeros_0f7a4_17 : decode cJ6_numberOfTrailingZeros_0f7a4 17 = .ok (.iconst 1, 1) := by decide +kernel
theorem dJ6_numberOfTrailingZeros_0f7a4_18 : decode cJ6_numberOfTrailingZeros_0f7a4 18 = .ok (.istore_n 1, 1) := by decide +kernel
theorem dJ6_numberOfTrailingZeros_0f7a4_19 : decode cJ6_numberOfTrailingZeros_0f7a4 19 = .ok (.iload_n 0, 1) := by decide +kernel
theorem dJ6_numberOfTrailingZeros_0f7a4_20 : decode cJ6_numberOfTrailingZeros_0f7a4 20 = .ok (.ldc_w 264, 3) := by decide +kernel
theorem dJ6_numberOfTrailingZeros_0f7a4_23 : decode cJ6_numberOfTrailingZeros_0f7a4 23 = .ok (.if_icmp .le 11, 3) := by decide +kernel
theorem dJ6_numberOfTrailingZeros_0f7a4_26 : decode cJ6_numberOfTrailingZeros_0f7a4 26 = .ok (.iinc 1 16, 3) := by decide +kernel
theorem dJ6_numberOfTrailingZeros_0f7a4_29 : decode cJ6_numberOfTrailingZeros_0f7a4 29 = .ok (.iload_n 0, 1) := by decide +kernel
theorem dJ6_numberOfTrailingZeros_0f7a4_30 : decode cJ6_numberOfTrailingZeros_0f7a4 30 = .ok (.bipush 16, 2) := by decide +kernel
theorem dJ6_numberOfTrailingZeros_0f7a4_32 : decode cJ6_numberOfTrailingZeros_0f7a4 32 = .ok (.iushr, 1) := by decide +kernel
theorem dJ6_numberOfTrailingZeros_0f7a4_33 : decode cJ6_numberOfTrailingZeros_0f7a4 33 = .ok (.istore_n 0, 1) := by decide +kernel
theorem dJ6_numberOfTrailingZeros_0f7a4_34 : decode cJ6_numberOfTrailingZeros_0f7a4 34 = .ok (.iload_n 0, 1) := by decide +kernel
theorem dJ6_numberOfTrailingZeros_0f7a4_35 : decode cJ6_numberOfTrailingZeros_0f7a4 35 = .ok (.sipush 256, 3) := by decide +kernel
theorem dJ6_numberOfTrailingZeros_0f7a4_38 : decode cJ6_numberOfTrailingZeros_0f7a4 38 = .ok (.if_icmp .le 11, 3) := by decide +kernel
theorem dJ6_numberOfTrailingZeros_0f7a4_41 : decode cJ6_numberOfTrailingZeros_0f7a4 41 = .ok (.iinc 1 8, 3) := by decide +kernel
theorem dJ6_numberOfTrailingZeros_0f7a4_44 : decode cJ6_numberOfTrailingZeros_0f7a4 44 = .ok (.iload_n 0, 1) := by decide +kernel
theorem dJ6_numberOfTrailingZeros_0f7a4_45 : decode cJ6_numberOfTrailingZeros_0f7a4 45 = .ok (.bipush 8, 2) := by decide +kernel
theorem dJ6_numberOfTrailingZeros_0f7a4_47 : decode cJ6_numberOfTrailingZeros_0f7a4 47 = .ok (.iushr, 1) := by decide +kernel
theorem dJ6_numberOfTrailingZeros_0f7a4_48 : decode cJ6_numberOfTrailingZeros_0f7a4 48 = .ok (.istore_n 0, 1) := by decide +kernel
theorem dJ6_numberOfTrailingZeros_0f7a4_49 : decode cJ6_numberOfTrailingZeros_0f7a4 49 = .ok (.iload_n 0, 1) := by decide +kernel
theorem dJ6_numberOfTrailingZeros_0f7a4_50 : decode cJ6_numberOfTrailingZeros_0f7a4 50 = .ok (.bipush 16, 2) := by decide +kernel
theorem dJ6_numberOfTrailingZeros_0f7a4_52 : decode cJ6_numberOfTrailingZeros_0f7a4 52 = .ok (.if_icmp .le 10, 3) := by decide +kernel
theorem dJ6_numberOfTrailingZeros_0f7a4_55 : decode cJ6_numberOfTrailingZeros_0f7a4 55 = .ok (.iinc 1 4, 3) := by decide +kernel
theorem dJ6_numberOfTrailingZeros_0f7a4_58 : decode cJ6_numberOfTrailingZeros_0f7a4 58 = .ok (.iload_n 0, 1) := by decide +kernel
theorem dJ6_numberOfTrailingZeros_0f7a4_59 : decode cJ6_numberOfTrailingZeros_0f7a4 59 = .ok (.iconst 4, 1) := by decide +kernel
theorem dJ6_numberOfTrailingZeros_0f7a4_60 : decode cJ6_numberOfTrailingZeros_0f7a4 60 = .ok (.iushr, 1) := by decide +kernel
theorem dJ6_numberOfTrailingZeros_0f7a4_61 : decode cJ6_numberOfTrailingZeros_0f7a4 61 = .ok (.istore_n 0, 1) := by decide +kernel
theorem dJ6_numberOfTrailingZeros_0f7a4_62 : decode cJ6_numberOfTrailingZeros_0f7a4 62 = .ok (.iload_n 0, 1) := by decide +kernel
theorem dJ6_numberOfTrailingZeros_0f7a4_63 : decode cJ6_numberOfTrailingZeros_0f7a4 63 = .ok (.iconst 4, 1) := by decide +kernel
theorem dJ6_numberOfTrailingZeros_0f7a4_64 : decode cJ6_numberOfTrailingZeros_0f7a4 64 = .ok (.if_icmp .le 10, 3) := by decide +kernel
theorem dJ6_numberOfTrailingZeros_0f7a4_67 : decode cJ6_numberOfTrailingZeros_0f7a4 67 = .ok (.iinc 1 2, 3) := by decide +kernel
theorem dJ6_numberOfTrailingZeros_0f7a4_70 : decode cJ6_numberOfTrailingZeros_0f7a4 70 = .ok (.iload_n 0, 1) := by decide +kernel
theorem dJ6_numberOfTrailingZeros_0f7a4_71 : decode cJ6_numberOfTrailingZeros_0f7a4 71 = .ok (.iconst 2, 1) := by decide +kernel
theorem dJ6_numberOfTrailingZeros_0f7a4_72 : decode cJ6_numberOfTrailingZeros_0f7a4 72 = .ok (.iushr, 1) := by decide +kernel
theorem dJ6_numberOfTrailingZeros_0f7a4_73 : decode cJ6_numberOfTrailingZeros_0f7a4 73 = .ok (.istore_n 0, 1) := by decide +kernel
theorem dJ6_numberOfTrailingZeros_0f7a4_74 : decode cJ6_numberOfTrailingZeros_0f7a4 74 = .ok (.iload_n 1, 1) := by decide +kernel
theorem dJ6_numberOfTrailingZeros_0f7a4_75 : decode cJ6_numberOfTrailingZeros_0f7a4 75 = .ok (.iload_n 0, 1) := by decide +kernel
theorem dJ6_numberOfTrailingZeros_0f7a4_76 : decode cJ6_numberOfTrailingZeros_0f7a4 76 = .ok (.iconst 1, 1) := by decide +kernel
theorem dJ6_numberOfTrailingZeros_0f7a4_77 : decode cJ6_numberOfTrailingZeros_0f7a4 77 = .ok (.iushr, 1) := by decide +kernel
theorem dJ6_numberOfTrailingZeros_0f7a4_78 : decode cJ6_numberOfTrailingZeros_0f7a4 78 = .ok (.iadd, 1) := by decide +kernel
theorem dJ6_numberOfTrailingZeros_0f7a4_79 : decode cJ6_numberOfTrailingZeros_0f7a4 79 = .ok (.ireturn, 1) := by decide +kernel
theorem dJ6_bitCount_0f7a4_0 : decode cJ6_bitCount_0f7a4 0 = .ok (.iload_n 0, 1) := by decide +kernel
theorem dJ6_bitCount_0f7a4_1 : decode cJ6_bitCount_0f7a4 1 = .ok (.iload_n 0, 1) := by decide +kernel
theorem dJ6_bitCount_0f7a4_2 : decode cJ6_bitCount_0f7a4 2 = .ok (.iconst 1, 1) := by decide +kernel
theorem dJ6_bitCount_0f7a4_3 : decode cJ6_bitCount_0f7a4 3 = .ok (.iushr, 1) := by decide +kernel
theorem dJ6_bitCount_0f7a4_4 : decode cJ6_bitCount_0f7a4 4 = .ok (.ldc_w 265, 3) := by decide +kernel
theorem dJ6_bitCount_0f7a4_7 : decode cJ6_bitCount_0f7a4 7 = .ok (.iand, 1) := by decide +kernel
theorem dJ6_bitCount_0f7a4_8 : decode cJ6_bitCount_0f7a4 8 = .ok (.isub, 1) := by decide +kernel
theorem dJ6_bitCount_0f7a4_9 : decode cJ6_bitCount_0f7a4 9 = .ok (.istore_n 0, 1) := by decide +kernel
theorem dJ6_bitCount_0f7a4_10 : decode cJ6_bitCount_0f7a4 10 = .ok (.iload_n 0, 1) := by decide +kernel
theorem dJ6_bitCount_0f7a4_11 : decode cJ6_bitCount_0f7a4 11 = .ok (.ldc_w 266, 3) := by decide +kernel
theorem dJ6_bitCount_0f7a4_14 : decode cJ6_bitCount_0f7a4 14 = .ok (.iand, 1) := by decide +kernel
theorem dJ6_bitCount_0f7a4_15 : decode cJ6_bitCount_0f7a4 15 = .ok (.iload_n 0, 1) := by decide +kernel
theorem dJ6_bitCount_0f7a4_16 : decode cJ6_bitCount_0f7a4 16 = .ok (.iconst 2, 1) := by decide +kernel
theorem dJ6_bitCount_0f7a4_17 : decode cJ6_bitCount_0f7a4 17 = .ok (.iushr, 1) := by decide +kernel
theorem dJ6_bitCount_0f7a4_18 : decode cJ6_bitCount_0f7a4 18 = .ok (.ldc_w 266, 3) := by decide +kernel
theorem dJ6_bitCount_0f7a4_21 : decode cJ6_bitCount_0f7a4 21 = .ok (.iand, 1) := by decide +kernel
theorem dJ6_bitCount_0f7a4_22 : decode cJ6_bitCount_0f7a4 22 = .ok (.iadd, 1) := by decide +kernel
theorem dJ6_bitCount_0f7a4_23 : decode cJ6_bitCount_0f7a4 23 = .ok (.istore_n 0, 1) := by decide +kernel
theorem dJ6_bitCount_0f7a4_24 : decode cJ6_bitCount_0f7a4 24 = .ok (.iload_n 0, 1) := by decide +kernel
theorem dJ6_bitCount_0f7a4_25 : decode cJ6_bitCount_0f7a4 25 = .ok (.iload_n 0, 1) := by decide +kernel
theorem dJ6_bitCount_0f7a4_26 : decode cJ6_bitCount_0f7a4 26 = .ok (.iconst 4, 1) := by decide +kernel
theorem dJ6_bitCount_0f7a4_27 : decode cJ6_bitCount_0f7a4 27 = .ok (.iushr, 1) := by decide +kernel
theorem dJ6_bitCount_0f7a4_28 : decode cJ6_bitCount_0f7a4 28 = .ok (.iadd, 1) := by decide +kernel
theorem dJ6_bitCount_0f7a4_29 : decode cJ6_bitCount_0f7a4 29 = .ok (.ldc_w 267, 3) := by decide +kernel
theorem dJ6_bitCount_0f7a4_32 : decode cJ6_bitCount_0f7a4 32 = .ok (.iand, 1) := by decide +kernel
theorem dJ6_bitCount_0f7a4_33 : decode cJ6_bitCount_0f7a4 33 = .ok (.istore_n 0, 1) := by decide +kernel
theorem dJ6_bitCount_0f7a4_34 : decode cJ6_bitCount_0f7a4 34 = .ok (.iload_n 0, 1) := by decide +kernel
theorem dJ6_bitCount_0f7a4_35 : decode cJ6_bitCount_0f7a4 35 = .ok (.iload_n 0, 1) := by decide +kernel
theorem dJ6_bitCount_0f7a4_36 : decode cJ6_bitCount_0f7a4 36 = .ok (.bipush 8, 2) := by decide +kernel
theorem dJ6_bitCount_0f7a4_38 : decode cJ6_bitCount_0f7a4 38 = .ok (.iushr, 1) := by decide +kernel
theorem dJ6_bitCount_0f7a4_39 : decode cJ6_bitCount_0f7a4 39 = .ok (.iadd, 1) := by decide +kernel
theorem dJ6_bitCount_0f7a4_40 : decode cJ6_bitCount_0f7a4 40 = .ok (.istore_n 0, 1) := by decide +kernel
theorem dJ6_bitCount_0f7a4_41 : decode cJ6_bitCount_0f7a4 41 = .ok (.iload_n 0, 1) := by decide +kernel
theorem dJ6_bitCount_0f7a4_42 : decode cJ6_bitCount_0f7a4 42 = .ok (.iload_n 0, 1) := by decide +kernel
theorem dJ6_bitCount_0f7a4_43 : decode cJ6_bitCount_0f7a4 43 = .ok (.bipush 16, 2) := by decide +kernel
theorem dJ6_bitCount_0f7a4_45 : decode cJ6_bitCount_0f7a4 45 = .ok (.iushr, 1) := by decide +kernel
theorem dJ6_bitCount_0f7a4_46 : decode cJ6_bitCount_0f7a4 46 = .ok (.iadd, 1) := by decide +kernel
theorem dJ6_bitCount_0f7a4_47 : decode cJ6_bitCount_0f7a4 47 = .ok (.istore_n 0, 1) := by decide +kernel
theorem dJ6_bitCount_0f7a4_48 : decode cJ6_bitCount_0f7a4 48 = .ok (.iload_n 0, 1) := by decide +kernel
theorem dJ6_bitCount_0f7a4_49 : decode cJ6_bitCount_0f7a4 49 = .ok (.bipush 63, 2) := by decide +kernel
theorem dJ6_bitCount_0f7a4_51 : decode cJ6_bitCount_0f7a4 51 = .ok (.iand, 1) := by decide +kernel
theorem dJ6_bitCount_0f7a4_52 : decode cJ6_bitCount_0f7a4 52 = .ok (.ireturn, 1) := by decide +kernel
