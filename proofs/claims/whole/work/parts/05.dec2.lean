theorem dX9_speaksAgainst_47 : decode cX9_speaksAgainst 47 = .ok (.iinc 4 1, 3) := by decide +kernel
theorem dX9_speaksAgainst_50 : decode cX9_speaksAgainst 50 = .ok (.goto (-47), 3) := by decide +kernel
theorem dX9_speaksAgainst_53 : decode cX9_speaksAgainst 53 = .ok (.iconst 0, 1) := by decide +kernel
theorem dX9_speaksAgainst_54 : decode cX9_speaksAgainst 54 = .ok (.ireturn, 1) := by decide +kernel
theorem dX10_init_0 : decode cX10_init 0 = .ok (.aload_n 0, 1) := by decide +kernel
theorem dX10_init_1 : decode cX10_init 1 = .ok (.invokespecial 5, 3) := by decide +kernel
theorem dX10_init_4 : decode cX10_init 4 = .ok (.aload_n 0, 1) := by decide +kernel
theorem dX10_init_5 : decode cX10_init 5 = .ok (.bipush 7, 2) := by decide +kernel
theorem dX10_init_7 : decode cX10_init 7 = .ok (.anewarray 1, 3) := by decide +kernel
theorem dX10_init_10 : decode cX10_init 10 = .ok (.putfield 11, 3) := by decide +kernel
theorem dX10_init_13 : decode cX10_init 13 = .ok (.aload_n 0, 1) := by decide +kernel
theorem dX10_init_14 : decode cX10_init 14 = .ok (.iconst 2, 1) := by decide +kernel
theorem dX10_init_15 : decode cX10_init 15 = .ok (.putfield 17, 3) := by decide +kernel
theorem dX10_init_18 : decode cX10_init 18 = .ok (.iconst 0, 1) := by decide +kernel
theorem dX10_init_19 : decode cX10_init 19 = .ok (.istore_n 1, 1) := by decide +kernel
theorem dX10_init_20 : decode cX10_init 20 = .ok (.iload_n 1, 1) := by decide +kernel
theorem dX10_init_21 : decode cX10_init 21 = .ok (.bipush 7, 2) := by decide +kernel
theorem dX10_init_23 : decode cX10_init 23 = .ok (.if_icmp .ge 22, 3) := by decide +kernel
theorem dX10_init_26 : decode cX10_init 26 = .ok (.aload_n 0, 1) := by decide +kernel
theorem dX10_init_27 : decode cX10_init 27 = .ok (.getfield 11, 3) := by decide +kernel
theorem dX10_init_30 : decode cX10_init 30 = .ok (.iload_n 1, 1) := by decide +kernel
theorem dX10_init_31 : decode cX10_init 31 = .ok (.new 1, 3) := by decide +kernel
theorem dX10_init_34 : decode cX10_init 34 = .ok (.dup, 1) := by decide +kernel
theorem dX10_init_35 : decode cX10_init 35 = .ok (.invokespecial 21, 3) := by decide +kernel
theorem dX10_init_38 : decode cX10_init 38 = .ok (.aastore, 1) := by decide +kernel
theorem dX10_init_39 : decode cX10_init 39 = .ok (.iinc 1 1, 3) := by decide +kernel
theorem dX10_init_42 : decode cX10_init 42 = .ok (.goto (-22), 3) := by decide +kernel
theorem dX10_init_45 : decode cX10_init 45 = .ok (.return_, 1) := by decide +kernel
theorem dX10_clear_0 : decode cX10_clear 0 = .ok (.aload_n 0, 1) := by decide +kernel
theorem dX10_clear_1 : decode cX10_clear 1 = .ok (.iconst 0, 1) := by decide +kernel
theorem dX10_clear_2 : decode cX10_clear 2 = .ok (.putfield 22, 3) := by decide +kernel
theorem dX10_clear_5 : decode cX10_clear 5 = .ok (.aload_n 0, 1) := by decide +kernel
theorem dX10_clear_6 : decode cX10_clear 6 = .ok (.iconst 0, 1) := by decide +kernel
theorem dX10_clear_7 : decode cX10_clear 7 = .ok (.putfield 25, 3) := by decide +kernel
theorem dX10_clear_10 : decode cX10_clear 10 = .ok (.aload_n 0, 1) := by decide +kernel
theorem dX10_clear_11 : decode cX10_clear 11 = .ok (.iconst 2, 1) := by decide +kernel
theorem dX10_clear_12 : decode cX10_clear 12 = .ok (.putfield 17, 3) := by decide +kernel
theorem dX10_clear_15 : decode cX10_clear 15 = .ok (.return_, 1) := by decide +kernel
theorem dX10_become_0 : decode cX10_become 0 = .ok (.aload_n 0, 1) := by decide +kernel
theorem dX10_become_1 : decode cX10_become 1 = .ok (.aload_n 1, 1) := by decide +kernel
theorem dX10_become_2 : decode cX10_become 2 = .ok (.getfield 22, 3) := by decide +kernel
theorem dX10_become_5 : decode cX10_become 5 = .ok (.putfield 22, 3) := by decide +kernel
theorem dX10_become_8 : decode cX10_become 8 = .ok (.aload_n 0, 1) := by decide +kernel
theorem dX10_become_9 : decode cX10_become 9 = .ok (.aload_n 1, 1) := by decide +kernel
theorem dX10_become_10 : decode cX10_become 10 = .ok (.getfield 25, 3) := by decide +kernel
theorem dX10_become_13 : decode cX10_become 13 = .ok (.putfield 25, 3) := by decide +kernel
theorem dX10_become_16 : decode cX10_become 16 = .ok (.aload_n 0, 1) := by decide +kernel
theorem dX10_become_17 : decode cX10_become 17 = .ok (.aload_n 1, 1) := by decide +kernel
theorem dX10_become_18 : decode cX10_become 18 = .ok (.getfield 17, 3) := by decide +kernel
theorem dX10_become_21 : decode cX10_become 21 = .ok (.putfield 17, 3) := by decide +kernel
theorem dX10_become_24 : decode cX10_become 24 = .ok (.iconst 0, 1) := by decide +kernel
theorem dX10_become_25 : decode cX10_become 25 = .ok (.istore_n 2, 1) := by decide +kernel
theorem dX10_become_26 : decode cX10_become 26 = .ok (.iload_n 2, 1) := by decide +kernel
theorem dX10_become_27 : decode cX10_become 27 = .ok (.aload_n 0, 1) := by decide +kernel
theorem dX10_become_28 : decode cX10_become 28 = .ok (.getfield 22, 3) := by decide +kernel
theorem dX10_become_31 : decode cX10_become 31 = .ok (.if_icmp .ge 24, 3) := by decide +kernel
theorem dX10_become_34 : decode cX10_become 34 = .ok (.aload_n 0, 1) := by decide +kernel
theorem dX10_become_35 : decode cX10_become 35 = .ok (.getfield 11, 3) := by decide +kernel
theorem dX10_become_38 : decode cX10_become 38 = .ok (.iload_n 2, 1) := by decide +kernel
theorem dX10_become_39 : decode cX10_become 39 = .ok (.aaload, 1) := by decide +kernel
theorem dX10_become_40 : decode cX10_become 40 = .ok (.aload_n 1, 1) := by decide +kernel
theorem dX10_become_41 : decode cX10_become 41 = .ok (.getfield 11, 3) := by decide +kernel
theorem dX10_become_44 : decode cX10_become 44 = .ok (.iload_n 2, 1) := by decide +kernel
theorem dX10_become_45 : decode cX10_become 45 = .ok (.aaload, 1) := by decide +kernel
theorem dX10_become_46 : decode cX10_become 46 = .ok (.invokevirtual 28, 3) := by decide +kernel
theorem dX10_become_49 : decode cX10_become 49 = .ok (.iinc 2 1, 3) := by decide +kernel
theorem dX10_become_52 : decode cX10_become 52 = .ok (.goto (-26), 3) := by decide +kernel
theorem dX10_become_55 : decode cX10_become 55 = .ok (.return_, 1) := by decide +kernel
theorem dX10_write_0 : decode cX10_write 0 = .ok (.iload_n 2, 1) := by decide +kernel
theorem dX10_write_1 : decode cX10_write 1 = .ok (.ifCond .lt 12, 3) := by decide +kernel
theorem dX10_write_4 : decode cX10_write 4 = .ok (.iload_n 2, 1) := by decide +kernel
theorem dX10_write_5 : decode cX10_write 5 = .ok (.aload_n 1, 1) := by decide +kernel
theorem dX10_write_6 : decode cX10_write 6 = .ok (.arraylength, 1) := by decide +kernel
theorem dX10_write_7 : decode cX10_write 7 = .ok (.bipush 37, 2) := by decide +kernel
theorem dX10_write_9 : decode cX10_write 9 = .ok (.isub, 1) := by decide +kernel
theorem dX10_write_10 : decode cX10_write 10 = .ok (.if_icmp .le 4, 3) := by decide +kernel
theorem dX10_write_13 : decode cX10_write 13 = .ok (.return_, 1) := by decide +kernel
theorem dX10_write_14 : decode cX10_write 14 = .ok (.aload_n 1, 1) := by decide +kernel
theorem dX10_write_15 : decode cX10_write 15 = .ok (.iload_n 2, 1) := by decide +kernel
theorem dX10_write_16 : decode cX10_write 16 = .ok (.aload_n 0, 1) := by decide +kernel
theorem dX10_write_17 : decode cX10_write 17 = .ok (.getfield 25, 3) := by decide +kernel
theorem dX10_write_20 : decode cX10_write 20 = .ok (.iastore, 1) := by decide +kernel
theorem dX10_write_21 : decode cX10_write 21 = .ok (.aload_n 1, 1) := by decide +kernel
theorem dX10_write_22 : decode cX10_write 22 = .ok (.iload_n 2, 1) := by decide +kernel
theorem dX10_write_23 : decode cX10_write 23 = .ok (.iconst 1, 1) := by decide +kernel
theorem dX10_write_24 : decode cX10_write 24 = .ok (.iadd, 1) := by decide +kernel
theorem dX10_write_25 : decode cX10_write 25 = .ok (.aload_n 0, 1) := by decide +kernel
theorem dX10_write_26 : decode cX10_write 26 = .ok (.getfield 17, 3) := by decide +kernel
theorem dX10_write_29 : decode cX10_write 29 = .ok (.iastore, 1) := by decide +kernel
theorem dX10_write_30 : decode cX10_write 30 = .ok (.iconst 0, 1) := by decide +kernel
theorem dX10_write_31 : decode cX10_write 31 = .ok (.istore_n 3, 1) := by decide +kernel
theorem dX10_write_32 : decode cX10_write 32 = .ok (.iload_n 3, 1) := by decide +kernel
theorem dX10_write_33 : decode cX10_write 33 = .ok (.aload_n 0, 1) := by decide +kernel
theorem dX10_write_34 : decode cX10_write 34 = .ok (.getfield 22, 3) := by decide +kernel
theorem dX10_write_37 : decode cX10_write 37 = .ok (.if_icmp .ge 26, 3) := by decide +kernel
theorem dX10_write_40 : decode cX10_write 40 = .ok (.aload_n 0, 1) := by decide +kernel
theorem dX10_write_41 : decode cX10_write 41 = .ok (.getfield 11, 3) := by decide +kernel
theorem dX10_write_44 : decode cX10_write 44 = .ok (.iload_n 3, 1) := by decide +kernel
theorem dX10_write_45 : decode cX10_write 45 = .ok (.aaload, 1) := by decide +kernel
theorem dX10_write_46 : decode cX10_write 46 = .ok (.aload_n 1, 1) := by decide +kernel
theorem dX10_write_47 : decode cX10_write 47 = .ok (.iload_n 2, 1) := by decide +kernel
theorem dX10_write_48 : decode cX10_write 48 = .ok (.iconst 2, 1) := by decide +kernel
theorem dX10_write_49 : decode cX10_write 49 = .ok (.iadd, 1) := by decide +kernel
theorem dX10_write_50 : decode cX10_write 50 = .ok (.iload_n 3, 1) := by decide +kernel
theorem dX10_write_51 : decode cX10_write 51 = .ok (.iconst 5, 1) := by decide +kernel
theorem dX10_write_52 : decode cX10_write 52 = .ok (.imul, 1) := by decide +kernel
theorem dX10_write_53 : decode cX10_write 53 = .ok (.iadd, 1) := by decide +kernel
theorem dX10_write_54 : decode cX10_write 54 = .ok (.invokevirtual 32, 3) := by decide +kernel
theorem dX10_write_57 : decode cX10_write 57 = .ok (.iinc 3 1, 3) := by decide +kernel
theorem dX10_write_60 : decode cX10_write 60 = .ok (.goto (-28), 3) := by decide +kernel
theorem dX10_write_63 : decode cX10_write 63 = .ok (.return_, 1) := by decide +kernel
theorem dX10_read_0 : decode cX10_read 0 = .ok (.iload_n 2, 1) := by decide +kernel
theorem dX10_read_1 : decode cX10_read 1 = .ok (.ifCond .lt 12, 3) := by decide +kernel
theorem dX10_read_4 : decode cX10_read 4 = .ok (.iload_n 2, 1) := by decide +kernel
theorem dX10_read_5 : decode cX10_read 5 = .ok (.aload_n 1, 1) := by decide +kernel
theorem dX10_read_6 : decode cX10_read 6 = .ok (.arraylength, 1) := by decide +kernel
theorem dX10_read_7 : decode cX10_read 7 = .ok (.bipush 37, 2) := by decide +kernel
theorem dX10_read_9 : decode cX10_read 9 = .ok (.isub, 1) := by decide +kernel
theorem dX10_read_10 : decode cX10_read 10 = .ok (.if_icmp .le 4, 3) := by decide +kernel
theorem dX10_read_13 : decode cX10_read 13 = .ok (.return_, 1) := by decide +kernel
theorem dX10_read_14 : decode cX10_read 14 = .ok (.aload_n 0, 1) := by decide +kernel
theorem dX10_read_15 : decode cX10_read 15 = .ok (.aload_n 1, 1) := by decide +kernel
theorem dX10_read_16 : decode cX10_read 16 = .ok (.iload_n 2, 1) := by decide +kernel
theorem dX10_read_17 : decode cX10_read 17 = .ok (.iaload, 1) := by decide +kernel
theorem dX10_read_18 : decode cX10_read 18 = .ok (.putfield 25, 3) := by decide +kernel
theorem dX10_read_21 : decode cX10_read 21 = .ok (.aload_n 0, 1) := by decide +kernel
theorem dX10_read_22 : decode cX10_read 22 = .ok (.aload_n 1, 1) := by decide +kernel
theorem dX10_read_23 : decode cX10_read 23 = .ok (.iload_n 2, 1) := by decide +kernel
theorem dX10_read_24 : decode cX10_read 24 = .ok (.iconst 1, 1) := by decide +kernel
theorem dX10_read_25 : decode cX10_read 25 = .ok (.iadd, 1) := by decide +kernel
theorem dX10_read_26 : decode cX10_read 26 = .ok (.iaload, 1) := by decide +kernel
theorem dX10_read_27 : decode cX10_read 27 = .ok (.putfield 17, 3) := by decide +kernel
theorem dX10_read_30 : decode cX10_read 30 = .ok (.iconst 0, 1) := by decide +kernel
theorem dX10_read_31 : decode cX10_read 31 = .ok (.istore_n 3, 1) := by decide +kernel
theorem dX10_read_32 : decode cX10_read 32 = .ok (.iload_n 3, 1) := by decide +kernel
theorem dX10_read_33 : decode cX10_read 33 = .ok (.aload_n 0, 1) := by decide +kernel
theorem dX10_read_34 : decode cX10_read 34 = .ok (.getfield 22, 3) := by decide +kernel
theorem dX10_read_37 : decode cX10_read 37 = .ok (.if_icmp .ge 26, 3) := by decide +kernel
theorem dX10_read_40 : decode cX10_read 40 = .ok (.aload_n 0, 1) := by decide +kernel
theorem dX10_read_41 : decode cX10_read 41 = .ok (.getfield 11, 3) := by decide +kernel
theorem dX10_read_44 : decode cX10_read 44 = .ok (.iload_n 3, 1) := by decide +kernel
theorem dX10_read_45 : decode cX10_read 45 = .ok (.aaload, 1) := by decide +kernel
theorem dX10_read_46 : decode cX10_read 46 = .ok (.aload_n 1, 1) := by decide +kernel
theorem dX10_read_47 : decode cX10_read 47 = .ok (.iload_n 2, 1) := by decide +kernel
theorem dX10_read_48 : decode cX10_read 48 = .ok (.iconst 2, 1) := by decide +kernel
theorem dX10_read_49 : decode cX10_read 49 = .ok (.iadd, 1) := by decide +kernel
theorem dX10_read_50 : decode cX10_read 50 = .ok (.iload_n 3, 1) := by decide +kernel
theorem dX10_read_51 : decode cX10_read 51 = .ok (.iconst 5, 1) := by decide +kernel
theorem dX10_read_52 : decode cX10_read 52 = .ok (.imul, 1) := by decide +kernel
theorem dX10_read_53 : decode cX10_read 53 = .ok (.iadd, 1) := by decide +kernel
theorem dX10_read_54 : decode cX10_read 54 = .ok (.invokevirtual 36, 3) := by decide +kernel
theorem dX10_read_57 : decode cX10_read 57 = .ok (.iinc 3 1, 3) := by decide +kernel
theorem dX10_read_60 : decode cX10_read 60 = .ok (.goto (-28), 3) := by decide +kernel
theorem dX10_read_63 : decode cX10_read 63 = .ok (.return_, 1) := by decide +kernel
theorem dX10_awayIn_0 : decode cX10_awayIn 0 = .ok (.iconst 0, 1) := by decide +kernel
theorem dX10_awayIn_1 : decode cX10_awayIn 1 = .ok (.istore_n 2, 1) := by decide +kernel
theorem dX10_awayIn_2 : decode cX10_awayIn 2 = .ok (.iconst 0, 1) := by decide +kernel
theorem dX10_awayIn_3 : decode cX10_awayIn 3 = .ok (.istore_n 3, 1) := by decide +kernel
theorem dX10_awayIn_4 : decode cX10_awayIn 4 = .ok (.iload_n 3, 1) := by decide +kernel
theorem dX10_awayIn_5 : decode cX10_awayIn 5 = .ok (.aload_n 0, 1) := by decide +kernel
theorem dX10_awayIn_6 : decode cX10_awayIn 6 = .ok (.getfield 22, 3) := by decide +kernel
theorem dX10_awayIn_9 : decode cX10_awayIn 9 = .ok (.if_icmp .ge 28, 3) := by decide +kernel
theorem dX10_awayIn_12 : decode cX10_awayIn 12 = .ok (.aload_n 0, 1) := by decide +kernel
theorem dX10_awayIn_13 : decode cX10_awayIn 13 = .ok (.getfield 11, 3) := by decide +kernel
theorem dX10_awayIn_16 : decode cX10_awayIn 16 = .ok (.iload_n 3, 1) := by decide +kernel
theorem dX10_awayIn_17 : decode cX10_awayIn 17 = .ok (.aaload, 1) := by decide +kernel
theorem dX10_awayIn_18 : decode cX10_awayIn 18 = .ok (.iload_n 1, 1) := by decide +kernel
theorem dX10_awayIn_19 : decode cX10_awayIn 19 = .ok (.invokevirtual 39, 3) := by decide +kernel
theorem dX10_awayIn_22 : decode cX10_awayIn 22 = .ok (.ifCond .eq 9, 3) := by decide +kernel
theorem dX10_awayIn_25 : decode cX10_awayIn 25 = .ok (.iload_n 2, 1) := by decide +kernel
theorem dX10_awayIn_26 : decode cX10_awayIn 26 = .ok (.iconst 1, 1) := by decide +kernel
theorem dX10_awayIn_27 : decode cX10_awayIn 27 = .ok (.iload_n 3, 1) := by decide +kernel
theorem dX10_awayIn_28 : decode cX10_awayIn 28 = .ok (.ishl, 1) := by decide +kernel
theorem dX10_awayIn_29 : decode cX10_awayIn 29 = .ok (.ior, 1) := by decide +kernel
theorem dX10_awayIn_30 : decode cX10_awayIn 30 = .ok (.istore_n 2, 1) := by decide +kernel
theorem dX10_awayIn_31 : decode cX10_awayIn 31 = .ok (.iinc 3 1, 3) := by decide +kernel
theorem dX10_awayIn_34 : decode cX10_awayIn 34 = .ok (.goto (-30), 3) := by decide +kernel
theorem dX10_awayIn_37 : decode cX10_awayIn 37 = .ok (.iload_n 2, 1) := by decide +kernel
theorem dX10_awayIn_38 : decode cX10_awayIn 38 = .ok (.ireturn, 1) := by decide +kernel
theorem dX10_pianosLeftIn_0 : decode cX10_pianosLeftIn 0 = .ok (.aload_n 0, 1) := by decide +kernel
theorem dX10_pianosLeftIn_1 : decode cX10_pianosLeftIn 1 = .ok (.getfield 17, 3) := by decide +kernel
theorem dX10_pianosLeftIn_4 : decode cX10_pianosLeftIn 4 = .ok (.aload_n 0, 1) := by decide +kernel
theorem dX10_pianosLeftIn_5 : decode cX10_pianosLeftIn 5 = .ok (.iload_n 1, 1) := by decide +kernel
theorem dX10_pianosLeftIn_6 : decode cX10_pianosLeftIn 6 = .ok (.invokevirtual 43, 3) := by decide +kernel
theorem dX10_pianosLeftIn_9 : decode cX10_pianosLeftIn 9 = .ok (.invokestatic 47, 3) := by decide +kernel
theorem dX10_pianosLeftIn_12 : decode cX10_pianosLeftIn 12 = .ok (.isub, 1) := by decide +kernel
theorem dX10_pianosLeftIn_13 : decode cX10_pianosLeftIn 13 = .ok (.ireturn, 1) := by decide +kernel
theorem dX10_couldGo_0 : decode cX10_couldGo 0 = .ok (.iload_n 2, 1) := by decide +kernel
theorem dX10_couldGo_1 : decode cX10_couldGo 1 = .ok (.iconst 1, 1) := by decide +kernel
theorem dX10_couldGo_2 : decode cX10_couldGo 2 = .ok (.if_icmp .lt 29, 3) := by decide +kernel
theorem dX10_couldGo_5 : decode cX10_couldGo 5 = .ok (.iload_n 2, 1) := by decide +kernel
theorem dX10_couldGo_6 : decode cX10_couldGo 6 = .ok (.bipush 30, 2) := by decide +kernel
theorem dX10_couldGo_8 : decode cX10_couldGo 8 = .ok (.if_icmp .gt 23, 3) := by decide +kernel
theorem dX10_couldGo_11 : decode cX10_couldGo 11 = .ok (.aload_n 1, 1) := by decide +kernel
theorem dX10_couldGo_12 : decode cX10_couldGo 12 = .ok (.iload_n 2, 1) := by decide +kernel
theorem dX10_couldGo_13 : decode cX10_couldGo 13 = .ok (.invokevirtual 39, 3) := by decide +kernel
theorem dX10_couldGo_16 : decode cX10_couldGo 16 = .ok (.ifCond .ne 15, 3) := by decide +kernel
theorem dX10_couldGo_19 : decode cX10_couldGo 19 = .ok (.aload_n 0, 1) := by decide +kernel
theorem dX10_couldGo_20 : decode cX10_couldGo 20 = .ok (.iload_n 2, 1) := by decide +kernel
theorem dX10_couldGo_21 : decode cX10_couldGo 21 = .ok (.invokevirtual 52, 3) := by decide +kernel
theorem dX10_couldGo_24 : decode cX10_couldGo 24 = .ok (.ifCond .le 7, 3) := by decide +kernel
theorem dX10_couldGo_27 : decode cX10_couldGo 27 = .ok (.iconst 1, 1) := by decide +kernel
theorem dX10_couldGo_28 : decode cX10_couldGo 28 = .ok (.goto 4, 3) := by decide +kernel
theorem dX10_couldGo_31 : decode cX10_couldGo 31 = .ok (.iconst 0, 1) := by decide +kernel
theorem dX10_couldGo_32 : decode cX10_couldGo 32 = .ok (.ireturn, 1) := by decide +kernel
theorem dX10_openTo_0 : decode cX10_openTo 0 = .ok (.iconst 0, 1) := by decide +kernel
theorem dX10_openTo_1 : decode cX10_openTo 1 = .ok (.istore_n 2, 1) := by decide +kernel
theorem dX10_openTo_2 : decode cX10_openTo 2 = .ok (.iconst 1, 1) := by decide +kernel
theorem dX10_openTo_3 : decode cX10_openTo 3 = .ok (.istore_n 3, 1) := by decide +kernel
theorem dX10_openTo_4 : decode cX10_openTo 4 = .ok (.iload_n 3, 1) := by decide +kernel
theorem dX10_openTo_5 : decode cX10_openTo 5 = .ok (.bipush 30, 2) := by decide +kernel
theorem dX10_openTo_7 : decode cX10_openTo 7 = .ok (.if_icmp .gt 26, 3) := by decide +kernel
theorem dX10_openTo_10 : decode cX10_openTo 10 = .ok (.aload_n 0, 1) := by decide +kernel
theorem dX10_openTo_11 : decode cX10_openTo 11 = .ok (.aload_n 1, 1) := by decide +kernel
theorem dX10_openTo_12 : decode cX10_openTo 12 = .ok (.iload_n 3, 1) := by decide +kernel
theorem dX10_openTo_13 : decode cX10_openTo 13 = .ok (.invokevirtual 55, 3) := by decide +kernel
theorem dX10_openTo_16 : decode cX10_openTo 16 = .ok (.ifCond .eq 11, 3) := by decide +kernel
theorem dX10_openTo_19 : decode cX10_openTo 19 = .ok (.iload_n 2, 1) := by decide +kernel
theorem dX10_openTo_20 : decode cX10_openTo 20 = .ok (.iconst 1, 1) := by decide +kernel
theorem dX10_openTo_21 : decode cX10_openTo 21 = .ok (.iload_n 3, 1) := by decide +kernel
theorem dX10_openTo_22 : decode cX10_openTo 22 = .ok (.iconst 1, 1) := by decide +kernel
theorem dX10_openTo_23 : decode cX10_openTo 23 = .ok (.isub, 1) := by decide +kernel
theorem dX10_openTo_24 : decode cX10_openTo 24 = .ok (.ishl, 1) := by decide +kernel
theorem dX10_openTo_25 : decode cX10_openTo 25 = .ok (.ior, 1) := by decide +kernel
theorem dX10_openTo_26 : decode cX10_openTo 26 = .ok (.istore_n 2, 1) := by decide +kernel
theorem dX10_openTo_27 : decode cX10_openTo 27 = .ok (.iinc 3 1, 3) := by decide +kernel
theorem dX10_openTo_30 : decode cX10_openTo 30 = .ok (.goto (-26), 3) := by decide +kernel
theorem dX10_openTo_33 : decode cX10_openTo 33 = .ok (.iload_n 2, 1) := by decide +kernel
theorem dX10_openTo_34 : decode cX10_openTo 34 = .ok (.ireturn, 1) := by decide +kernel
theorem dX10_skillOfAll_0 : decode cX10_skillOfAll 0 = .ok (.iconst 0, 1) := by decide +kernel
theorem dX10_skillOfAll_1 : decode cX10_skillOfAll 1 = .ok (.istore_n 1, 1) := by decide +kernel
theorem dX10_skillOfAll_2 : decode cX10_skillOfAll 2 = .ok (.iconst 0, 1) := by decide +kernel
theorem dX10_skillOfAll_3 : decode cX10_skillOfAll 3 = .ok (.istore_n 2, 1) := by decide +kernel
theorem dX10_skillOfAll_4 : decode cX10_skillOfAll 4 = .ok (.iload_n 2, 1) := by decide +kernel
theorem dX10_skillOfAll_5 : decode cX10_skillOfAll 5 = .ok (.aload_n 0, 1) := by decide +kernel
theorem dX10_skillOfAll_6 : decode cX10_skillOfAll 6 = .ok (.getfield 22, 3) := by decide +kernel
theorem dX10_skillOfAll_9 : decode cX10_skillOfAll 9 = .ok (.if_icmp .ge 21, 3) := by decide +kernel
theorem dX10_skillOfAll_12 : decode cX10_skillOfAll 12 = .ok (.iload_n 1, 1) := by decide +kernel
theorem dX10_skillOfAll_13 : decode cX10_skillOfAll 13 = .ok (.aload_n 0, 1) := by decide +kernel
theorem dX10_skillOfAll_14 : decode cX10_skillOfAll 14 = .ok (.getfield 11, 3) := by decide +kernel
theorem dX10_skillOfAll_17 : decode cX10_skillOfAll 17 = .ok (.iload_n 2, 1) := by decide +kernel
theorem dX10_skillOfAll_18 : decode cX10_skillOfAll 18 = .ok (.aaload, 1) := by decide +kernel
theorem dX10_skillOfAll_19 : decode cX10_skillOfAll 19 = .ok (.getfield 59, 3) := by decide +kernel
theorem dX10_skillOfAll_22 : decode cX10_skillOfAll 22 = .ok (.iadd, 1) := by decide +kernel
theorem dX10_skillOfAll_23 : decode cX10_skillOfAll 23 = .ok (.istore_n 1, 1) := by decide +kernel
theorem dX10_skillOfAll_24 : decode cX10_skillOfAll 24 = .ok (.iinc 2 1, 3) := by decide +kernel
theorem dX10_skillOfAll_27 : decode cX10_skillOfAll 27 = .ok (.goto (-23), 3) := by decide +kernel
theorem dX10_skillOfAll_30 : decode cX10_skillOfAll 30 = .ok (.iload_n 1, 1) := by decide +kernel
theorem dX10_skillOfAll_31 : decode cX10_skillOfAll 31 = .ok (.ireturn, 1) := by decide +kernel
theorem dX10_barsOfAll_0 : decode cX10_barsOfAll 0 = .ok (.iconst 0, 1) := by decide +kernel
theorem dX10_barsOfAll_1 : decode cX10_barsOfAll 1 = .ok (.istore_n 1, 1) := by decide +kernel
theorem dX10_barsOfAll_2 : decode cX10_barsOfAll 2 = .ok (.iconst 0, 1) := by decide +kernel
theorem dX10_barsOfAll_3 : decode cX10_barsOfAll 3 = .ok (.istore_n 2, 1) := by decide +kernel
theorem dX10_barsOfAll_4 : decode cX10_barsOfAll 4 = .ok (.iload_n 2, 1) := by decide +kernel
theorem dX10_barsOfAll_5 : decode cX10_barsOfAll 5 = .ok (.aload_n 0, 1) := by decide +kernel
theorem dX10_barsOfAll_6 : decode cX10_barsOfAll 6 = .ok (.getfield 22, 3) := by decide +kernel
theorem dX10_barsOfAll_9 : decode cX10_barsOfAll 9 = .ok (.if_icmp .ge 21, 3) := by decide +kernel
theorem dX10_barsOfAll_12 : decode cX10_barsOfAll 12 = .ok (.iload_n 1, 1) := by decide +kernel
theorem dX10_barsOfAll_13 : decode cX10_barsOfAll 13 = .ok (.aload_n 0, 1) := by decide +kernel
theorem dX10_barsOfAll_14 : decode cX10_barsOfAll 14 = .ok (.getfield 11, 3) := by decide +kernel
theorem dX10_barsOfAll_17 : decode cX10_barsOfAll 17 = .ok (.iload_n 2, 1) := by decide +kernel
theorem dX10_barsOfAll_18 : decode cX10_barsOfAll 18 = .ok (.aaload, 1) := by decide +kernel
theorem dX10_barsOfAll_19 : decode cX10_barsOfAll 19 = .ok (.getfield 62, 3) := by decide +kernel
theorem dX10_barsOfAll_22 : decode cX10_barsOfAll 22 = .ok (.iadd, 1) := by decide +kernel
theorem dX10_barsOfAll_23 : decode cX10_barsOfAll 23 = .ok (.istore_n 1, 1) := by decide +kernel
theorem dX10_barsOfAll_24 : decode cX10_barsOfAll 24 = .ok (.iinc 2 1, 3) := by decide +kernel
theorem dX10_barsOfAll_27 : decode cX10_barsOfAll 27 = .ok (.goto (-23), 3) := by decide +kernel
theorem dX10_barsOfAll_30 : decode cX10_barsOfAll 30 = .ok (.iload_n 1, 1) := by decide +kernel
theorem dX10_barsOfAll_31 : decode cX10_barsOfAll 31 = .ok (.ireturn, 1) := by decide +kernel
theorem dX11_init_0 : decode cX11_init 0 = .ok (.aload_n 0, 1) := by decide +kernel
theorem dX11_init_1 : decode cX11_init 1 = .ok (.invokespecial 1, 3) := by decide +kernel
theorem dX11_init_4 : decode cX11_init 4 = .ok (.aload_n 0, 1) := by decide +kernel
theorem dX11_init_5 : decode cX11_init 5 = .ok (.new 7, 3) := by decide +kernel
theorem dX11_init_8 : decode cX11_init 8 = .ok (.dup, 1) := by decide +kernel
theorem dX11_init_9 : decode cX11_init 9 = .ok (.invokespecial 9, 3) := by decide +kernel
theorem dX11_init_12 : decode cX11_init 12 = .ok (.putfield 10, 3) := by decide +kernel
theorem dX11_init_15 : decode cX11_init 15 = .ok (.aload_n 0, 1) := by decide +kernel
theorem dX11_init_16 : decode cX11_init 16 = .ok (.iconst (-1), 1) := by decide +kernel
theorem dX11_init_17 : decode cX11_init 17 = .ok (.putfield 16, 3) := by decide +kernel
theorem dX11_init_20 : decode cX11_init 20 = .ok (.aload_n 0, 1) := by decide +kernel
theorem dX11_init_21 : decode cX11_init 21 = .ok (.new 20, 3) := by decide +kernel
theorem dX11_init_24 : decode cX11_init 24 = .ok (.dup, 1) := by decide +kernel
theorem dX11_init_25 : decode cX11_init 25 = .ok (.invokespecial 22, 3) := by decide +kernel
theorem dX11_init_28 : decode cX11_init 28 = .ok (.putfield 23, 3) := by decide +kernel
theorem dX11_init_31 : decode cX11_init 31 = .ok (.aload_n 0, 1) := by decide +kernel
theorem dX11_init_32 : decode cX11_init 32 = .ok (.new 27, 3) := by decide +kernel
theorem dX11_init_35 : decode cX11_init 35 = .ok (.dup, 1) := by decide +kernel
theorem dX11_init_36 : decode cX11_init 36 = .ok (.invokespecial 29, 3) := by decide +kernel
theorem dX11_init_39 : decode cX11_init 39 = .ok (.putfield 30, 3) := by decide +kernel
theorem dX11_init_42 : decode cX11_init 42 = .ok (.aload_n 0, 1) := by decide +kernel
theorem dX11_init_43 : decode cX11_init 43 = .ok (.new 34, 3) := by decide +kernel
theorem dX11_init_46 : decode cX11_init 46 = .ok (.dup, 1) := by decide +kernel
theorem dX11_init_47 : decode cX11_init 47 = .ok (.invokespecial 36, 3) := by decide +kernel
theorem dX11_init_50 : decode cX11_init 50 = .ok (.putfield 37, 3) := by decide +kernel
theorem dX11_init_53 : decode cX11_init 53 = .ok (.aload_n 0, 1) := by decide +kernel
theorem dX11_init_54 : decode cX11_init 54 = .ok (.iconst 3, 1) := by decide +kernel
theorem dX11_init_55 : decode cX11_init 55 = .ok (.newarray .int, 2) := by decide +kernel
theorem dX11_init_57 : decode cX11_init 57 = .ok (.putfield 41, 3) := by decide +kernel
theorem dX11_init_60 : decode cX11_init 60 = .ok (.aload_n 0, 1) := by decide +kernel
theorem dX11_init_61 : decode cX11_init 61 = .ok (.new 45, 3) := by decide +kernel
theorem dX11_init_64 : decode cX11_init 64 = .ok (.dup, 1) := by decide +kernel
theorem dX11_init_65 : decode cX11_init 65 = .ok (.invokespecial 47, 3) := by decide +kernel
theorem dX11_init_68 : decode cX11_init 68 = .ok (.putfield 48, 3) := by decide +kernel
theorem dX11_init_71 : decode cX11_init 71 = .ok (.aload_n 0, 1) := by decide +kernel
theorem dX11_init_72 : decode cX11_init 72 = .ok (.new 52, 3) := by decide +kernel
theorem dX11_init_75 : decode cX11_init 75 = .ok (.dup, 1) := by decide +kernel
theorem dX11_init_76 : decode cX11_init 76 = .ok (.invokespecial 54, 3) := by decide +kernel
theorem dX11_init_79 : decode cX11_init 79 = .ok (.putfield 55, 3) := by decide +kernel
theorem dX11_init_82 : decode cX11_init 82 = .ok (.aload_n 0, 1) := by decide +kernel
theorem dX11_init_83 : decode cX11_init 83 = .ok (.new 52, 3) := by decide +kernel
theorem dX11_init_86 : decode cX11_init 86 = .ok (.dup, 1) := by decide +kernel
theorem dX11_init_87 : decode cX11_init 87 = .ok (.invokespecial 54, 3) := by decide +kernel
theorem dX11_init_90 : decode cX11_init 90 = .ok (.putfield 59, 3) := by decide +kernel
theorem dX11_init_93 : decode cX11_init 93 = .ok (.aload_n 0, 1) := by decide +kernel
theorem dX11_init_94 : decode cX11_init 94 = .ok (.new 62, 3) := by decide +kernel
theorem dX11_init_97 : decode cX11_init 97 = .ok (.dup, 1) := by decide +kernel
theorem dX11_init_98 : decode cX11_init 98 = .ok (.invokespecial 64, 3) := by decide +kernel
theorem dX11_init_101 : decode cX11_init 101 = .ok (.putfield 65, 3) := by decide +kernel
theorem dX11_init_104 : decode cX11_init 104 = .ok (.aload_n 0, 1) := by decide +kernel
theorem dX11_init_105 : decode cX11_init 105 = .ok (.bipush 61, 2) := by decide +kernel
theorem dX11_init_107 : decode cX11_init 107 = .ok (.newarray .int, 2) := by decide +kernel
theorem dX11_init_109 : decode cX11_init 109 = .ok (.putfield 69, 3) := by decide +kernel
theorem dX11_init_112 : decode cX11_init 112 = .ok (.aload_n 0, 1) := by decide +kernel
theorem dX11_init_113 : decode cX11_init 113 = .ok (.new 72, 3) := by decide +kernel
theorem dX11_init_116 : decode cX11_init 116 = .ok (.dup, 1) := by decide +kernel
theorem dX11_init_117 : decode cX11_init 117 = .ok (.invokespecial 74, 3) := by decide +kernel
theorem dX11_init_120 : decode cX11_init 120 = .ok (.putfield 75, 3) := by decide +kernel
theorem dX11_init_123 : decode cX11_init 123 = .ok (.aload_n 0, 1) := by decide +kernel
theorem dX11_init_124 : decode cX11_init 124 = .ok (.new 79, 3) := by decide +kernel
theorem dX11_init_127 : decode cX11_init 127 = .ok (.dup, 1) := by decide +kernel
theorem dX11_init_128 : decode cX11_init 128 = .ok (.invokespecial 81, 3) := by decide +kernel
theorem dX11_init_131 : decode cX11_init 131 = .ok (.putfield 82, 3) := by decide +kernel
theorem dX11_init_134 : decode cX11_init 134 = .ok (.aload_n 0, 1) := by decide +kernel
theorem dX11_init_135 : decode cX11_init 135 = .ok (.new 86, 3) := by decide +kernel
theorem dX11_init_138 : decode cX11_init 138 = .ok (.dup, 1) := by decide +kernel
theorem dX11_init_139 : decode cX11_init 139 = .ok (.invokespecial 88, 3) := by decide +kernel
theorem dX11_init_142 : decode cX11_init 142 = .ok (.putfield 89, 3) := by decide +kernel
theorem dX11_init_145 : decode cX11_init 145 = .ok (.return_, 1) := by decide +kernel
theorem dX11_feed_0 : decode cX11_feed 0 = .ok (.aload_n 0, 1) := by decide +kernel
theorem dX11_feed_1 : decode cX11_feed 1 = .ok (.getfield 93, 3) := by decide +kernel
theorem dX11_feed_4 : decode cX11_feed 4 = .ok (.sipush 680, 3) := by decide +kernel
theorem dX11_feed_7 : decode cX11_feed 7 = .ok (.if_icmp .le 5, 3) := by decide +kernel
theorem dX11_feed_10 : decode cX11_feed 10 = .ok (.iconst (-1), 1) := by decide +kernel
theorem dX11_feed_11 : decode cX11_feed 11 = .ok (.ireturn, 1) := by decide +kernel
theorem dX11_feed_12 : decode cX11_feed 12 = .ok (.aload_n 0, 1) := by decide +kernel
theorem dX11_feed_13 : decode cX11_feed 13 = .ok (.iload_n 1, 1) := by decide +kernel
theorem dX11_feed_14 : decode cX11_feed 14 = .ok (.invokevirtual 96, 3) := by decide +kernel
theorem dX11_feed_17 : decode cX11_feed 17 = .ok (.aload_n 0, 1) := by decide +kernel
theorem dX11_feed_18 : decode cX11_feed 18 = .ok (.iload_n 2, 1) := by decide +kernel
theorem dX11_feed_19 : decode cX11_feed 19 = .ok (.invokevirtual 96, 3) := by decide +kernel
theorem dX11_feed_22 : decode cX11_feed 22 = .ok (.aload_n 0, 1) := by decide +kernel
theorem dX11_feed_23 : decode cX11_feed 23 = .ok (.iload_n 3, 1) := by decide +kernel
theorem dX11_feed_24 : decode cX11_feed 24 = .ok (.invokevirtual 96, 3) := by decide +kernel
theorem dX11_feed_27 : decode cX11_feed 27 = .ok (.aload_n 0, 1) := by decide +kernel
theorem dX11_feed_28 : decode cX11_feed 28 = .ok (.iload 4, 2) := by decide +kernel
theorem dX11_feed_30 : decode cX11_feed 30 = .ok (.invokevirtual 96, 3) := by decide +kernel
theorem dX11_feed_33 : decode cX11_feed 33 = .ok (.aload_n 0, 1) := by decide +kernel
theorem dX11_feed_34 : decode cX11_feed 34 = .ok (.iload 5, 2) := by decide +kernel
theorem dX11_feed_36 : decode cX11_feed 36 = .ok (.invokevirtual 96, 3) := by decide +kernel
theorem dX11_feed_39 : decode cX11_feed 39 = .ok (.aload_n 0, 1) := by decide +kernel
theorem dX11_feed_40 : decode cX11_feed 40 = .ok (.getfield 93, 3) := by decide +kernel
theorem dX11_feed_43 : decode cX11_feed 43 = .ok (.ireturn, 1) := by decide +kernel
theorem dX11_putFour_0 : decode cX11_putFour 0 = .ok (.bipush 24, 2) := by decide +kernel
theorem dX11_putFour_2 : decode cX11_putFour 2 = .ok (.istore_n 2, 1) := by decide +kernel
theorem dX11_putFour_3 : decode cX11_putFour 3 = .ok (.iload_n 2, 1) := by decide +kernel
theorem dX11_putFour_4 : decode cX11_putFour 4 = .ok (.ifCond .lt 45, 3) := by decide +kernel
theorem dX11_putFour_7 : decode cX11_putFour 7 = .ok (.aload_n 0, 1) := by decide +kernel
theorem dX11_putFour_8 : decode cX11_putFour 8 = .ok (.getfield 93, 3) := by decide +kernel
theorem dX11_putFour_11 : decode cX11_putFour 11 = .ok (.sipush 700, 3) := by decide +kernel
theorem dX11_putFour_14 : decode cX11_putFour 14 = .ok (.if_icmp .ge 35, 3) := by decide +kernel
theorem dX11_putFour_17 : decode cX11_putFour 17 = .ok (.aload_n 0, 1) := by decide +kernel
theorem dX11_putFour_18 : decode cX11_putFour 18 = .ok (.getfield 10, 3) := by decide +kernel
theorem dX11_putFour_21 : decode cX11_putFour 21 = .ok (.getfield 100, 3) := by decide +kernel
theorem dX11_putFour_24 : decode cX11_putFour 24 = .ok (.aload_n 0, 1) := by decide +kernel
theorem dX11_putFour_25 : decode cX11_putFour 25 = .ok (.getfield 93, 3) := by decide +kernel
theorem dX11_putFour_28 : decode cX11_putFour 28 = .ok (.iload_n 1, 1) := by decide +kernel
theorem dX11_putFour_29 : decode cX11_putFour 29 = .ok (.iload_n 2, 1) := by decide +kernel
theorem dX11_putFour_30 : decode cX11_putFour 30 = .ok (.iushr, 1) := by decide +kernel
theorem dX11_putFour_31 : decode cX11_putFour 31 = .ok (.i2b, 1) := by decide +kernel
theorem dX11_putFour_32 : decode cX11_putFour 32 = .ok (.bastore, 1) := by decide +kernel
theorem dX11_putFour_33 : decode cX11_putFour 33 = .ok (.aload_n 0, 1) := by decide +kernel
theorem dX11_putFour_34 : decode cX11_putFour 34 = .ok (.dup, 1) := by decide +kernel
theorem dX11_putFour_35 : decode cX11_putFour 35 = .ok (.getfield 93, 3) := by decide +kernel
theorem dX11_putFour_38 : decode cX11_putFour 38 = .ok (.iconst 1, 1) := by decide +kernel
theorem dX11_putFour_39 : decode cX11_putFour 39 = .ok (.iadd, 1) := by decide +kernel
theorem dX11_putFour_40 : decode cX11_putFour 40 = .ok (.putfield 93, 3) := by decide +kernel
theorem dX11_putFour_43 : decode cX11_putFour 43 = .ok (.iinc 2 (-8), 3) := by decide +kernel
theorem dX11_putFour_46 : decode cX11_putFour 46 = .ok (.goto (-43), 3) := by decide +kernel
theorem dX11_putFour_49 : decode cX11_putFour 49 = .ok (.return_, 1) := by decide +kernel
theorem dX11_school_0 : decode cX11_school 0 = .ok (.iload_n 1, 1) := by decide +kernel
theorem dX11_school_1 : decode cX11_school 1 = .ok (.ifCond .lt 11, 3) := by decide +kernel
theorem dX11_school_4 : decode cX11_school 4 = .ok (.iload_n 1, 1) := by decide +kernel
theorem dX11_school_5 : decode cX11_school 5 = .ok (.aload_n 0, 1) := by decide +kernel
theorem dX11_school_6 : decode cX11_school 6 = .ok (.getfield 93, 3) := by decide +kernel
theorem dX11_school_9 : decode cX11_school 9 = .ok (.if_icmp .le 13, 3) := by decide +kernel
theorem dX11_school_12 : decode cX11_school 12 = .ok (.new 104, 3) := by decide +kernel
theorem dX11_school_15 : decode cX11_school 15 = .ok (.dup, 1) := by decide +kernel
theorem dX11_school_16 : decode cX11_school 16 = .ok (.ldc 106, 2) := by decide +kernel
theorem dX11_school_18 : decode cX11_school 18 = .ok (.invokespecial 108, 3) := by decide +kernel
theorem dX11_school_21 : decode cX11_school 21 = .ok (.athrow, 1) := by decide +kernel
theorem dX11_school_22 : decode cX11_school 22 = .ok (.aload_n 0, 1) := by decide +kernel
theorem dX11_school_23 : decode cX11_school 23 = .ok (.iconst 0, 1) := by decide +kernel
theorem dX11_school_24 : decode cX11_school 24 = .ok (.putfield 93, 3) := by decide +kernel
theorem dX11_school_27 : decode cX11_school 27 = .ok (.aload_n 0, 1) := by decide +kernel
theorem dX11_school_28 : decode cX11_school 28 = .ok (.getfield 10, 3) := by decide +kernel
theorem dX11_school_31 : decode cX11_school 31 = .ok (.iload_n 1, 1) := by decide +kernel
theorem dX11_school_32 : decode cX11_school 32 = .ok (.invokevirtual 111, 3) := by decide +kernel
theorem dX11_school_35 : decode cX11_school 35 = .ok (.aload_n 0, 1) := by decide +kernel
theorem dX11_school_36 : decode cX11_school 36 = .ok (.aload_n 0, 1) := by decide +kernel
theorem dX11_school_37 : decode cX11_school 37 = .ok (.getfield 10, 3) := by decide +kernel
theorem dX11_school_40 : decode cX11_school 40 = .ok (.getfield 114, 3) := by decide +kernel
theorem dX11_school_43 : decode cX11_school 43 = .ok (.putfield 16, 3) := by decide +kernel
theorem dX11_school_46 : decode cX11_school 46 = .ok (.aload_n 0, 1) := by decide +kernel
theorem dX11_school_47 : decode cX11_school 47 = .ok (.getfield 10, 3) := by decide +kernel
theorem dX11_school_50 : decode cX11_school 50 = .ok (.getfield 117, 3) := by decide +kernel
theorem dX11_school_53 : decode cX11_school 53 = .ok (.ifCond .eq 21, 3) := by decide +kernel
theorem dX11_school_56 : decode cX11_school 56 = .ok (.aload_n 0, 1) := by decide +kernel
theorem dX11_school_57 : decode cX11_school 57 = .ok (.getfield 41, 3) := by decide +kernel
theorem dX11_school_60 : decode cX11_school 60 = .ok (.iconst 0, 1) := by decide +kernel
theorem dX11_school_61 : decode cX11_school 61 = .ok (.dup2, 1) := by decide +kernel
theorem dX11_school_62 : decode cX11_school 62 = .ok (.iaload, 1) := by decide +kernel
theorem dX11_school_63 : decode cX11_school 63 = .ok (.iconst 1, 1) := by decide +kernel
theorem dX11_school_64 : decode cX11_school 64 = .ok (.iadd, 1) := by decide +kernel
theorem dX11_school_65 : decode cX11_school 65 = .ok (.iastore, 1) := by decide +kernel
theorem dX11_school_66 : decode cX11_school 66 = .ok (.aload_n 0, 1) := by decide +kernel
theorem dX11_school_67 : decode cX11_school 67 = .ok (.getfield 10, 3) := by decide +kernel
theorem dX11_school_70 : decode cX11_school 70 = .ok (.getfield 117, 3) := by decide +kernel
theorem dX11_school_73 : decode cX11_school 73 = .ok (.ireturn, 1) := by decide +kernel
theorem dX11_school_74 : decode cX11_school 74 = .ok (.aload_n 0, 1) := by decide +kernel
theorem dX11_school_75 : decode cX11_school 75 = .ok (.getfield 23, 3) := by decide +kernel
theorem dX11_school_78 : decode cX11_school 78 = .ok (.astore_n 2, 1) := by decide +kernel
theorem dX11_school_79 : decode cX11_school 79 = .ok (.aload_n 0, 1) := by decide +kernel
theorem dX11_school_80 : decode cX11_school 80 = .ok (.aload_n 0, 1) := by decide +kernel
theorem dX11_school_81 : decode cX11_school 81 = .ok (.getfield 10, 3) := by decide +kernel
theorem dX11_school_84 : decode cX11_school 84 = .ok (.getfield 120, 3) := by decide +kernel
theorem dX11_school_87 : decode cX11_school 87 = .ok (.putfield 23, 3) := by decide +kernel
theorem dX11_school_90 : decode cX11_school 90 = .ok (.aload_n 0, 1) := by decide +kernel
theorem dX11_school_91 : decode cX11_school 91 = .ok (.getfield 10, 3) := by decide +kernel
theorem dX11_school_94 : decode cX11_school 94 = .ok (.aload_n 2, 1) := by decide +kernel
theorem dX11_school_95 : decode cX11_school 95 = .ok (.putfield 120, 3) := by decide +kernel
theorem dX11_school_98 : decode cX11_school 98 = .ok (.aload_n 0, 1) := by decide +kernel
theorem dX11_school_99 : decode cX11_school 99 = .ok (.getfield 30, 3) := by decide +kernel
theorem dX11_school_102 : decode cX11_school 102 = .ok (.invokevirtual 121, 3) := by decide +kernel
theorem dX11_school_105 : decode cX11_school 105 = .ok (.aload_n 0, 1) := by decide +kernel
theorem dX11_school_106 : decode cX11_school 106 = .ok (.getfield 37, 3) := by decide +kernel
theorem dX11_school_109 : decode cX11_school 109 = .ok (.invokevirtual 124, 3) := by decide +kernel
theorem dX11_school_112 : decode cX11_school 112 = .ok (.aload_n 0, 1) := by decide +kernel
theorem dX11_school_113 : decode cX11_school 113 = .ok (.getfield 48, 3) := by decide +kernel
theorem dX11_school_116 : decode cX11_school 116 = .ok (.iconst 0, 1) := by decide +kernel
theorem dX11_school_117 : decode cX11_school 117 = .ok (.putfield 125, 3) := by decide +kernel
theorem dX11_school_120 : decode cX11_school 120 = .ok (.iconst 0, 1) := by decide +kernel
theorem dX11_school_121 : decode cX11_school 121 = .ok (.ireturn, 1) := by decide +kernel
theorem dX11_fault_0 : decode cX11_fault 0 = .ok (.aload_n 0, 1) := by decide +kernel
theorem dX11_fault_1 : decode cX11_fault 1 = .ok (.getfield 16, 3) := by decide +kernel
theorem dX11_fault_4 : decode cX11_fault 4 = .ok (.ireturn, 1) := by decide +kernel
theorem dX11_count_0 : decode cX11_count 0 = .ok (.iload_n 1, 1) := by decide +kernel
theorem dX11_count_1 : decode cX11_count 1 = .ok (.tableswitch 178 0 12 #[67, 75, 86, 97, 108, 120, 125, 136, 144, 152, 157, 164, 171], 67) := by decide +kernel
theorem dX11_count_68 : decode cX11_count 68 = .ok (.aload_n 0, 1) := by decide +kernel
theorem dX11_count_69 : decode cX11_count 69 = .ok (.getfield 23, 3) := by decide +kernel
theorem dX11_count_72 : decode cX11_count 72 = .ok (.getfield 129, 3) := by decide +kernel
theorem dX11_count_75 : decode cX11_count 75 = .ok (.ireturn, 1) := by decide +kernel
theorem dX11_count_76 : decode cX11_count 76 = .ok (.aload_n 0, 1) := by decide +kernel
theorem dX11_count_77 : decode cX11_count 77 = .ok (.getfield 23, 3) := by decide +kernel
theorem dX11_count_80 : decode cX11_count 80 = .ok (.getfield 132, 3) := by decide +kernel
theorem dX11_count_83 : decode cX11_count 83 = .ok (.getfield 135, 3) := by decide +kernel
theorem dX11_count_86 : decode cX11_count 86 = .ok (.ireturn, 1) := by decide +kernel
theorem dX11_count_87 : decode cX11_count 87 = .ok (.aload_n 0, 1) := by decide +kernel
theorem dX11_count_88 : decode cX11_count 88 = .ok (.getfield 23, 3) := by decide +kernel
theorem dX11_count_91 : decode cX11_count 91 = .ok (.getfield 132, 3) := by decide +kernel
theorem dX11_count_94 : decode cX11_count 94 = .ok (.getfield 138, 3) := by decide +kernel
theorem dX11_count_97 : decode cX11_count 97 = .ok (.ireturn, 1) := by decide +kernel
theorem dX11_count_98 : decode cX11_count 98 = .ok (.aload_n 0, 1) := by decide +kernel
theorem dX11_count_99 : decode cX11_count 99 = .ok (.getfield 23, 3) := by decide +kernel
theorem dX11_count_102 : decode cX11_count 102 = .ok (.getfield 132, 3) := by decide +kernel
theorem dX11_count_105 : decode cX11_count 105 = .ok (.getfield 141, 3) := by decide +kernel
theorem dX11_count_108 : decode cX11_count 108 = .ok (.ireturn, 1) := by decide +kernel
theorem dX11_count_109 : decode cX11_count 109 = .ok (.aload_n 0, 1) := by decide +kernel
theorem dX11_count_110 : decode cX11_count 110 = .ok (.getfield 23, 3) := by decide +kernel
theorem dX11_count_113 : decode cX11_count 113 = .ok (.getfield 132, 3) := by decide +kernel
theorem dX11_count_116 : decode cX11_count 116 = .ok (.iconst 1, 1) := by decide +kernel
theorem dX11_count_117 : decode cX11_count 117 = .ok (.invokevirtual 144, 3) := by decide +kernel
theorem dX11_count_120 : decode cX11_count 120 = .ok (.ireturn, 1) := by decide +kernel
theorem dX11_count_121 : decode cX11_count 121 = .ok (.aload_n 0, 1) := by decide +kernel
theorem dX11_count_122 : decode cX11_count 122 = .ok (.invokevirtual 148, 3) := by decide +kernel
theorem dX11_count_125 : decode cX11_count 125 = .ok (.ireturn, 1) := by decide +kernel
theorem dX11_count_126 : decode cX11_count 126 = .ok (.aload_n 0, 1) := by decide +kernel
theorem dX11_count_127 : decode cX11_count 127 = .ok (.getfield 23, 3) := by decide +kernel
theorem dX11_count_130 : decode cX11_count 130 = .ok (.getfield 132, 3) := by decide +kernel
theorem dX11_count_133 : decode cX11_count 133 = .ok (.invokevirtual 152, 3) := by decide +kernel
theorem dX11_count_136 : decode cX11_count 136 = .ok (.ireturn, 1) := by decide +kernel
theorem dX11_count_137 : decode cX11_count 137 = .ok (.aload_n 0, 1) := by decide +kernel
theorem dX11_count_138 : decode cX11_count 138 = .ok (.getfield 30, 3) := by decide +kernel
theorem dX11_count_141 : decode cX11_count 141 = .ok (.getfield 155, 3) := by decide +kernel
theorem dX11_count_144 : decode cX11_count 144 = .ok (.ireturn, 1) := by decide +kernel
theorem dX11_count_145 : decode cX11_count 145 = .ok (.aload_n 0, 1) := by decide +kernel
theorem dX11_count_146 : decode cX11_count 146 = .ok (.getfield 37, 3) := by decide +kernel
theorem dX11_count_149 : decode cX11_count 149 = .ok (.getfield 157, 3) := by decide +kernel
theorem dX11_count_152 : decode cX11_count 152 = .ok (.ireturn, 1) := by decide +kernel
theorem dX11_count_153 : decode cX11_count 153 = .ok (.aload_n 0, 1) := by decide +kernel
theorem dX11_count_154 : decode cX11_count 154 = .ok (.getfield 93, 3) := by decide +kernel
theorem dX11_count_157 : decode cX11_count 157 = .ok (.ireturn, 1) := by decide +kernel
theorem dX11_count_158 : decode cX11_count 158 = .ok (.aload_n 0, 1) := by decide +kernel
theorem dX11_count_159 : decode cX11_count 159 = .ok (.getfield 41, 3) := by decide +kernel
theorem dX11_count_162 : decode cX11_count 162 = .ok (.iconst 0, 1) := by decide +kernel
theorem dX11_count_163 : decode cX11_count 163 = .ok (.iaload, 1) := by decide +kernel
theorem dX11_count_164 : decode cX11_count 164 = .ok (.ireturn, 1) := by decide +kernel
theorem dX11_count_165 : decode cX11_count 165 = .ok (.aload_n 0, 1) := by decide +kernel
theorem dX11_count_166 : decode cX11_count 166 = .ok (.getfield 41, 3) := by decide +kernel
theorem dX11_count_169 : decode cX11_count 169 = .ok (.iconst 1, 1) := by decide +kernel
theorem dX11_count_170 : decode cX11_count 170 = .ok (.iaload, 1) := by decide +kernel
theorem dX11_count_171 : decode cX11_count 171 = .ok (.ireturn, 1) := by decide +kernel
theorem dX11_count_172 : decode cX11_count 172 = .ok (.aload_n 0, 1) := by decide +kernel
theorem dX11_count_173 : decode cX11_count 173 = .ok (.getfield 41, 3) := by decide +kernel
theorem dX11_count_176 : decode cX11_count 176 = .ok (.iconst 2, 1) := by decide +kernel
theorem dX11_count_177 : decode cX11_count 177 = .ok (.iaload, 1) := by decide +kernel
theorem dX11_count_178 : decode cX11_count 178 = .ok (.ireturn, 1) := by decide +kernel
theorem dX11_count_179 : decode cX11_count 179 = .ok (.new 160, 3) := by decide +kernel
theorem dX11_count_182 : decode cX11_count 182 = .ok (.dup, 1) := by decide +kernel
theorem dX11_count_183 : decode cX11_count 183 = .ok (.ldc 162, 2) := by decide +kernel
theorem dX11_count_185 : decode cX11_count 185 = .ok (.invokespecial 164, 3) := by decide +kernel
theorem dX11_count_188 : decode cX11_count 188 = .ok (.athrow, 1) := by decide +kernel
theorem dX11_whoseIsDone_0 : decode cX11_whoseIsDone 0 = .ok (.iconst 0, 1) := by decide +kernel
theorem dX11_whoseIsDone_1 : decode cX11_whoseIsDone 1 = .ok (.istore_n 1, 1) := by decide +kernel
theorem dX11_whoseIsDone_2 : decode cX11_whoseIsDone 2 = .ok (.iconst 0, 1) := by decide +kernel
theorem dX11_whoseIsDone_3 : decode cX11_whoseIsDone 3 = .ok (.istore_n 2, 1) := by decide +kernel
theorem dX11_whoseIsDone_4 : decode cX11_whoseIsDone 4 = .ok (.iload_n 2, 1) := by decide +kernel
theorem dX11_whoseIsDone_5 : decode cX11_whoseIsDone 5 = .ok (.aload_n 0, 1) := by decide +kernel
theorem dX11_whoseIsDone_6 : decode cX11_whoseIsDone 6 = .ok (.getfield 23, 3) := by decide +kernel
theorem dX11_whoseIsDone_9 : decode cX11_whoseIsDone 9 = .ok (.getfield 132, 3) := by decide +kernel
theorem dX11_whoseIsDone_12 : decode cX11_whoseIsDone 12 = .ok (.getfield 135, 3) := by decide +kernel
theorem dX11_whoseIsDone_15 : decode cX11_whoseIsDone 15 = .ok (.if_icmp .ge 37, 3) := by decide +kernel
theorem dX11_whoseIsDone_18 : decode cX11_whoseIsDone 18 = .ok (.aload_n 0, 1) := by decide +kernel
theorem dX11_whoseIsDone_19 : decode cX11_whoseIsDone 19 = .ok (.getfield 23, 3) := by decide +kernel
theorem dX11_whoseIsDone_22 : decode cX11_whoseIsDone 22 = .ok (.aload_n 0, 1) := by decide +kernel
theorem dX11_whoseIsDone_23 : decode cX11_whoseIsDone 23 = .ok (.getfield 23, 3) := by decide +kernel
theorem dX11_whoseIsDone_26 : decode cX11_whoseIsDone 26 = .ok (.getfield 132, 3) := by decide +kernel
theorem dX11_whoseIsDone_29 : decode cX11_whoseIsDone 29 = .ok (.getfield 165, 3) := by decide +kernel
theorem dX11_whoseIsDone_32 : decode cX11_whoseIsDone 32 = .ok (.iload_n 2, 1) := by decide +kernel
theorem dX11_whoseIsDone_33 : decode cX11_whoseIsDone 33 = .ok (.aaload, 1) := by decide +kernel
theorem dX11_whoseIsDone_34 : decode cX11_whoseIsDone 34 = .ok (.invokevirtual 169, 3) := by decide +kernel
theorem dX11_whoseIsDone_37 : decode cX11_whoseIsDone 37 = .ok (.ifCond .eq 9, 3) := by decide +kernel
theorem dX11_whoseIsDone_40 : decode cX11_whoseIsDone 40 = .ok (.iload_n 1, 1) := by decide +kernel
theorem dX11_whoseIsDone_41 : decode cX11_whoseIsDone 41 = .ok (.iconst 1, 1) := by decide +kernel
theorem dX11_whoseIsDone_42 : decode cX11_whoseIsDone 42 = .ok (.iload_n 2, 1) := by decide +kernel
theorem dX11_whoseIsDone_43 : decode cX11_whoseIsDone 43 = .ok (.ishl, 1) := by decide +kernel
theorem dX11_whoseIsDone_44 : decode cX11_whoseIsDone 44 = .ok (.ior, 1) := by decide +kernel
theorem dX11_whoseIsDone_45 : decode cX11_whoseIsDone 45 = .ok (.istore_n 1, 1) := by decide +kernel
theorem dX11_whoseIsDone_46 : decode cX11_whoseIsDone 46 = .ok (.iinc 2 1, 3) := by decide +kernel
theorem dX11_whoseIsDone_49 : decode cX11_whoseIsDone 49 = .ok (.goto (-45), 3) := by decide +kernel
theorem dX11_whoseIsDone_52 : decode cX11_whoseIsDone 52 = .ok (.iload_n 1, 1) := by decide +kernel
theorem dX11_whoseIsDone_53 : decode cX11_whoseIsDone 53 = .ok (.ireturn, 1) := by decide +kernel
theorem dX11_piece_0 : decode cX11_piece 0 = .ok (.aload_n 0, 1) := by decide +kernel
theorem dX11_piece_1 : decode cX11_piece 1 = .ok (.iload_n 1, 1) := by decide +kernel
theorem dX11_piece_2 : decode cX11_piece 2 = .ok (.invokevirtual 173, 3) := by decide +kernel
theorem dX11_piece_5 : decode cX11_piece 5 = .ok (.iload_n 2, 1) := by decide +kernel
theorem dX11_piece_6 : decode cX11_piece 6 = .ok (.tableswitch 55 0 2 #[26, 36, 46], 26) := by decide +kernel
theorem dX11_piece_32 : decode cX11_piece 32 = .ok (.aload_n 0, 1) := by decide +kernel
theorem dX11_piece_33 : decode cX11_piece 33 = .ok (.getfield 23, 3) := by decide +kernel
theorem dX11_piece_36 : decode cX11_piece 36 = .ok (.getfield 176, 3) := by decide +kernel
theorem dX11_piece_39 : decode cX11_piece 39 = .ok (.iload_n 1, 1) := by decide +kernel
theorem dX11_piece_40 : decode cX11_piece 40 = .ok (.iaload, 1) := by decide +kernel
theorem dX11_piece_41 : decode cX11_piece 41 = .ok (.ireturn, 1) := by decide +kernel
theorem dX11_piece_42 : decode cX11_piece 42 = .ok (.aload_n 0, 1) := by decide +kernel
theorem dX11_piece_43 : decode cX11_piece 43 = .ok (.getfield 23, 3) := by decide +kernel
theorem dX11_piece_46 : decode cX11_piece 46 = .ok (.getfield 179, 3) := by decide +kernel
theorem dX11_piece_49 : decode cX11_piece 49 = .ok (.iload_n 1, 1) := by decide +kernel
theorem dX11_piece_50 : decode cX11_piece 50 = .ok (.iaload, 1) := by decide +kernel
theorem dX11_piece_51 : decode cX11_piece 51 = .ok (.ireturn, 1) := by decide +kernel
theorem dX11_piece_52 : decode cX11_piece 52 = .ok (.aload_n 0, 1) := by decide +kernel
theorem dX11_piece_53 : decode cX11_piece 53 = .ok (.getfield 23, 3) := by decide +kernel
theorem dX11_piece_56 : decode cX11_piece 56 = .ok (.iload_n 1, 1) := by decide +kernel
theorem dX11_piece_57 : decode cX11_piece 57 = .ok (.invokevirtual 182, 3) := by decide +kernel
theorem dX11_piece_60 : decode cX11_piece 60 = .ok (.ireturn, 1) := by decide +kernel
theorem dX11_piece_61 : decode cX11_piece 61 = .ok (.new 160, 3) := by decide +kernel
theorem dX11_piece_64 : decode cX11_piece 64 = .ok (.dup, 1) := by decide +kernel
theorem dX11_piece_65 : decode cX11_piece 65 = .ok (.ldc 185, 2) := by decide +kernel
theorem dX11_piece_67 : decode cX11_piece 67 = .ok (.invokespecial 164, 3) := by decide +kernel
theorem dX11_piece_70 : decode cX11_piece 70 = .ok (.athrow, 1) := by decide +kernel
theorem dX11_bar_0 : decode cX11_bar 0 = .ok (.aload_n 0, 1) := by decide +kernel
theorem dX11_bar_1 : decode cX11_bar 1 = .ok (.iload_n 1, 1) := by decide +kernel
theorem dX11_bar_2 : decode cX11_bar 2 = .ok (.invokevirtual 173, 3) := by decide +kernel
theorem dX11_bar_5 : decode cX11_bar 5 = .ok (.iload_n 2, 1) := by decide +kernel
theorem dX11_bar_6 : decode cX11_bar 6 = .ok (.ifCond .lt 16, 3) := by decide +kernel
theorem dX11_bar_9 : decode cX11_bar 9 = .ok (.iload_n 2, 1) := by decide +kernel
theorem dX11_bar_10 : decode cX11_bar 10 = .ok (.aload_n 0, 1) := by decide +kernel
theorem dX11_bar_11 : decode cX11_bar 11 = .ok (.getfield 23, 3) := by decide +kernel
theorem dX11_bar_14 : decode cX11_bar 14 = .ok (.getfield 176, 3) := by decide +kernel
theorem dX11_bar_17 : decode cX11_bar 17 = .ok (.iload_n 1, 1) := by decide +kernel
theorem dX11_bar_18 : decode cX11_bar 18 = .ok (.iaload, 1) := by decide +kernel
theorem dX11_bar_19 : decode cX11_bar 19 = .ok (.if_icmp .lt 13, 3) := by decide +kernel
theorem dX11_bar_22 : decode cX11_bar 22 = .ok (.new 160, 3) := by decide +kernel
theorem dX11_bar_25 : decode cX11_bar 25 = .ok (.dup, 1) := by decide +kernel
theorem dX11_bar_26 : decode cX11_bar 26 = .ok (.ldc 187, 2) := by decide +kernel
theorem dX11_bar_28 : decode cX11_bar 28 = .ok (.invokespecial 164, 3) := by decide +kernel
theorem dX11_bar_31 : decode cX11_bar 31 = .ok (.athrow, 1) := by decide +kernel
theorem dX11_bar_32 : decode cX11_bar 32 = .ok (.aload_n 0, 1) := by decide +kernel
theorem dX11_bar_33 : decode cX11_bar 33 = .ok (.getfield 23, 3) := by decide +kernel
theorem dX11_bar_36 : decode cX11_bar 36 = .ok (.iload_n 1, 1) := by decide +kernel
theorem dX11_bar_37 : decode cX11_bar 37 = .ok (.iload_n 2, 1) := by decide +kernel
theorem dX11_bar_38 : decode cX11_bar 38 = .ok (.invokevirtual 189, 3) := by decide +kernel
theorem dX11_bar_41 : decode cX11_bar 41 = .ok (.ireturn, 1) := by decide +kernel
theorem dX11_pupil_0 : decode cX11_pupil 0 = .ok (.aload_n 0, 1) := by decide +kernel
theorem dX11_pupil_1 : decode cX11_pupil 1 = .ok (.iload_n 1, 1) := by decide +kernel
theorem dX11_pupil_2 : decode cX11_pupil 2 = .ok (.invokevirtual 193, 3) := by decide +kernel
theorem dX11_pupil_5 : decode cX11_pupil 5 = .ok (.astore_n 3, 1) := by decide +kernel
theorem dX11_pupil_6 : decode cX11_pupil 6 = .ok (.iload_n 2, 1) := by decide +kernel
theorem dX11_pupil_7 : decode cX11_pupil 7 = .ok (.tableswitch 77 0 6 #[41, 46, 51, 56, 61, 66, 71], 41) := by decide +kernel
theorem dX11_pupil_48 : decode cX11_pupil 48 = .ok (.aload_n 3, 1) := by decide +kernel
theorem dX11_pupil_49 : decode cX11_pupil 49 = .ok (.getfield 197, 3) := by decide +kernel
theorem dX11_pupil_52 : decode cX11_pupil 52 = .ok (.ireturn, 1) := by decide +kernel
theorem dX11_pupil_53 : decode cX11_pupil 53 = .ok (.aload_n 3, 1) := by decide +kernel
theorem dX11_pupil_54 : decode cX11_pupil 54 = .ok (.getfield 200, 3) := by decide +kernel
theorem dX11_pupil_57 : decode cX11_pupil 57 = .ok (.ireturn, 1) := by decide +kernel
theorem dX11_pupil_58 : decode cX11_pupil 58 = .ok (.aload_n 3, 1) := by decide +kernel
theorem dX11_pupil_59 : decode cX11_pupil 59 = .ok (.getfield 203, 3) := by decide +kernel
theorem dX11_pupil_62 : decode cX11_pupil 62 = .ok (.ireturn, 1) := by decide +kernel
theorem dX11_pupil_63 : decode cX11_pupil 63 = .ok (.aload_n 3, 1) := by decide +kernel
theorem dX11_pupil_64 : decode cX11_pupil 64 = .ok (.getfield 206, 3) := by decide +kernel
theorem dX11_pupil_67 : decode cX11_pupil 67 = .ok (.ireturn, 1) := by decide +kernel
theorem dX11_pupil_68 : decode cX11_pupil 68 = .ok (.aload_n 3, 1) := by decide +kernel
theorem dX11_pupil_69 : decode cX11_pupil 69 = .ok (.getfield 208, 3) := by decide +kernel
theorem dX11_pupil_72 : decode cX11_pupil 72 = .ok (.ireturn, 1) := by decide +kernel
theorem dX11_pupil_73 : decode cX11_pupil 73 = .ok (.aload_n 3, 1) := by decide +kernel
theorem dX11_pupil_74 : decode cX11_pupil 74 = .ok (.getfield 211, 3) := by decide +kernel
theorem dX11_pupil_77 : decode cX11_pupil 77 = .ok (.ireturn, 1) := by decide +kernel
theorem dX11_pupil_78 : decode cX11_pupil 78 = .ok (.aload_n 0, 1) := by decide +kernel
theorem dX11_pupil_79 : decode cX11_pupil 79 = .ok (.aload_n 3, 1) := by decide +kernel
theorem dX11_pupil_80 : decode cX11_pupil 80 = .ok (.invokevirtual 214, 3) := by decide +kernel
theorem dX11_pupil_83 : decode cX11_pupil 83 = .ok (.ireturn, 1) := by decide +kernel
theorem dX11_pupil_84 : decode cX11_pupil 84 = .ok (.new 160, 3) := by decide +kernel
theorem dX11_pupil_87 : decode cX11_pupil 87 = .ok (.dup, 1) := by decide +kernel
theorem dX11_pupil_88 : decode cX11_pupil 88 = .ok (.ldc 218, 2) := by decide +kernel
theorem dX11_pupil_90 : decode cX11_pupil 90 = .ok (.invokespecial 164, 3) := by decide +kernel
theorem dX11_pupil_93 : decode cX11_pupil 93 = .ok (.athrow, 1) := by decide +kernel
theorem dX11_wouldLearn_0 : decode cX11_wouldLearn 0 = .ok (.aload_n 0, 1) := by decide +kernel
theorem dX11_wouldLearn_1 : decode cX11_wouldLearn 1 = .ok (.getfield 55, 3) := by decide +kernel
theorem dX11_wouldLearn_4 : decode cX11_wouldLearn 4 = .ok (.aload_n 1, 1) := by decide +kernel
theorem dX11_wouldLearn_5 : decode cX11_wouldLearn 5 = .ok (.invokevirtual 220, 3) := by decide +kernel
theorem dX11_wouldLearn_8 : decode cX11_wouldLearn 8 = .ok (.aload_n 0, 1) := by decide +kernel
theorem dX11_wouldLearn_9 : decode cX11_wouldLearn 9 = .ok (.getfield 23, 3) := by decide +kernel
theorem dX11_wouldLearn_12 : decode cX11_wouldLearn 12 = .ok (.aload_n 0, 1) := by decide +kernel
theorem dX11_wouldLearn_13 : decode cX11_wouldLearn 13 = .ok (.getfield 55, 3) := by decide +kernel
theorem dX11_wouldLearn_16 : decode cX11_wouldLearn 16 = .ok (.invokevirtual 224, 3) := by decide +kernel
theorem dX11_wouldLearn_19 : decode cX11_wouldLearn 19 = .ok (.aload_n 0, 1) := by decide +kernel
theorem dX11_wouldLearn_20 : decode cX11_wouldLearn 20 = .ok (.getfield 55, 3) := by decide +kernel
theorem dX11_wouldLearn_23 : decode cX11_wouldLearn 23 = .ok (.getfield 197, 3) := by decide +kernel
theorem dX11_wouldLearn_26 : decode cX11_wouldLearn 26 = .ok (.aload_n 1, 1) := by decide +kernel
theorem dX11_wouldLearn_27 : decode cX11_wouldLearn 27 = .ok (.getfield 197, 3) := by decide +kernel
theorem dX11_wouldLearn_30 : decode cX11_wouldLearn 30 = .ok (.isub, 1) := by decide +kernel
theorem dX11_wouldLearn_31 : decode cX11_wouldLearn 31 = .ok (.ireturn, 1) := by decide +kernel
theorem dX11_weeks_0 : decode cX11_weeks 0 = .ok (.iload_n 1, 1) := by decide +kernel
theorem dX11_weeks_1 : decode cX11_weeks 1 = .ok (.iconst 1, 1) := by decide +kernel
theorem dX11_weeks_2 : decode cX11_weeks 2 = .ok (.if_icmp .lt 27, 3) := by decide +kernel
theorem dX11_weeks_5 : decode cX11_weeks 5 = .ok (.iload_n 1, 1) := by decide +kernel
theorem dX11_weeks_6 : decode cX11_weeks 6 = .ok (.bipush 20, 2) := by decide +kernel
theorem dX11_weeks_8 : decode cX11_weeks 8 = .ok (.if_icmp .gt 21, 3) := by decide +kernel
theorem dX11_weeks_11 : decode cX11_weeks 11 = .ok (.aload_n 0, 1) := by decide +kernel
theorem dX11_weeks_12 : decode cX11_weeks 12 = .ok (.getfield 23, 3) := by decide +kernel
theorem dX11_weeks_15 : decode cX11_weeks 15 = .ok (.getfield 132, 3) := by decide +kernel
theorem dX11_weeks_18 : decode cX11_weeks 18 = .ok (.getfield 141, 3) := by decide +kernel
theorem dX11_weeks_21 : decode cX11_weeks 21 = .ok (.sipush 999, 3) := by decide +kernel
theorem dX11_weeks_24 : decode cX11_weeks 24 = .ok (.iload_n 1, 1) := by decide +kernel
theorem dX11_weeks_25 : decode cX11_weeks 25 = .ok (.isub, 1) := by decide +kernel
theorem dX11_weeks_26 : decode cX11_weeks 26 = .ok (.if_icmp .le 9, 3) := by decide +kernel
theorem dX11_weeks_29 : decode cX11_weeks 29 = .ok (.aload_n 0, 1) := by decide +kernel
theorem dX11_weeks_30 : decode cX11_weeks 30 = .ok (.iconst 1, 1) := by decide +kernel
theorem dX11_weeks_31 : decode cX11_weeks 31 = .ok (.invokevirtual 227, 3) := by decide +kernel
theorem dX11_weeks_34 : decode cX11_weeks 34 = .ok (.ireturn, 1) := by decide +kernel
theorem dX11_weeks_35 : decode cX11_weeks 35 = .ok (.aload_n 0, 1) := by decide +kernel
theorem dX11_weeks_36 : decode cX11_weeks 36 = .ok (.getfield 30, 3) := by decide +kernel
theorem dX11_weeks_39 : decode cX11_weeks 39 = .ok (.aload_n 0, 1) := by decide +kernel
theorem dX11_weeks_40 : decode cX11_weeks 40 = .ok (.getfield 23, 3) := by decide +kernel
theorem dX11_weeks_43 : decode cX11_weeks 43 = .ok (.getfield 132, 3) := by decide +kernel
theorem dX11_weeks_46 : decode cX11_weeks 46 = .ok (.invokevirtual 230, 3) := by decide +kernel
theorem dX11_weeks_49 : decode cX11_weeks 49 = .ok (.iconst 0, 1) := by decide +kernel
theorem dX11_weeks_50 : decode cX11_weeks 50 = .ok (.istore_n 2, 1) := by decide +kernel
theorem dX11_weeks_51 : decode cX11_weeks 51 = .ok (.iload_n 2, 1) := by decide +kernel
theorem dX11_weeks_52 : decode cX11_weeks 52 = .ok (.aload_n 0, 1) := by decide +kernel
theorem dX11_weeks_53 : decode cX11_weeks 53 = .ok (.getfield 23, 3) := by decide +kernel
theorem dX11_weeks_56 : decode cX11_weeks 56 = .ok (.getfield 132, 3) := by decide +kernel
theorem dX11_weeks_59 : decode cX11_weeks 59 = .ok (.getfield 135, 3) := by decide +kernel
theorem dX11_weeks_62 : decode cX11_weeks 62 = .ok (.if_icmp .ge 29, 3) := by decide +kernel
theorem dX11_weeks_65 : decode cX11_weeks 65 = .ok (.aload_n 0, 1) := by decide +kernel
theorem dX11_weeks_66 : decode cX11_weeks 66 = .ok (.getfield 23, 3) := by decide +kernel
theorem dX11_weeks_69 : decode cX11_weeks 69 = .ok (.aload_n 0, 1) := by decide +kernel
theorem dX11_weeks_70 : decode cX11_weeks 70 = .ok (.getfield 23, 3) := by decide +kernel
theorem dX11_weeks_73 : decode cX11_weeks 73 = .ok (.getfield 132, 3) := by decide +kernel
theorem dX11_weeks_76 : decode cX11_weeks 76 = .ok (.getfield 165, 3) := by decide +kernel
theorem dX11_weeks_79 : decode cX11_weeks 79 = .ok (.iload_n 2, 1) := by decide +kernel
theorem dX11_weeks_80 : decode cX11_weeks 80 = .ok (.aaload, 1) := by decide +kernel
theorem dX11_weeks_81 : decode cX11_weeks 81 = .ok (.iload_n 1, 1) := by decide +kernel
theorem dX11_weeks_82 : decode cX11_weeks 82 = .ok (.invokevirtual 234, 3) := by decide +kernel
theorem dX11_weeks_85 : decode cX11_weeks 85 = .ok (.iinc 2 1, 3) := by decide +kernel
theorem dX11_weeks_88 : decode cX11_weeks 88 = .ok (.goto (-37), 3) := by decide +kernel
theorem dX11_weeks_91 : decode cX11_weeks 91 = .ok (.aload_n 0, 1) := by decide +kernel
theorem dX11_weeks_92 : decode cX11_weeks 92 = .ok (.getfield 23, 3) := by decide +kernel
theorem dX11_weeks_95 : decode cX11_weeks 95 = .ok (.getfield 132, 3) := by decide +kernel
theorem dX11_weeks_98 : decode cX11_weeks 98 = .ok (.dup, 1) := by decide +kernel
theorem dX11_weeks_99 : decode cX11_weeks 99 = .ok (.getfield 141, 3) := by decide +kernel
theorem dX11_weeks_102 : decode cX11_weeks 102 = .ok (.iload_n 1, 1) := by decide +kernel
theorem dX11_weeks_103 : decode cX11_weeks 103 = .ok (.iadd, 1) := by decide +kernel
theorem dX11_weeks_104 : decode cX11_weeks 104 = .ok (.putfield 141, 3) := by decide +kernel
theorem dX11_weeks_107 : decode cX11_weeks 107 = .ok (.aload_n 0, 1) := by decide +kernel
theorem dX11_weeks_108 : decode cX11_weeks 108 = .ok (.getfield 23, 3) := by decide +kernel
theorem dX11_weeks_111 : decode cX11_weeks 111 = .ok (.getfield 132, 3) := by decide +kernel
theorem dX11_weeks_114 : decode cX11_weeks 114 = .ok (.getfield 141, 3) := by decide +kernel
theorem dX11_weeks_117 : decode cX11_weeks 117 = .ok (.ireturn, 1) := by decide +kernel
theorem dX11_door_0 : decode cX11_door 0 = .ok (.aload_n 0, 1) := by decide +kernel
theorem dX11_door_1 : decode cX11_door 1 = .ok (.iload_n 1, 1) := by decide +kernel
theorem dX11_door_2 : decode cX11_door 2 = .ok (.invokevirtual 193, 3) := by decide +kernel
theorem dX11_door_5 : decode cX11_door 5 = .ok (.astore_n 3, 1) := by decide +kernel
theorem dX11_door_6 : decode cX11_door 6 = .ok (.aload_n 0, 1) := by decide +kernel
theorem dX11_door_7 : decode cX11_door 7 = .ok (.getfield 23, 3) := by decide +kernel
theorem dX11_door_10 : decode cX11_door 10 = .ok (.getfield 132, 3) := by decide +kernel
theorem dX11_door_13 : decode cX11_door 13 = .ok (.aload_n 3, 1) := by decide +kernel
theorem dX11_door_14 : decode cX11_door 14 = .ok (.iload_n 2, 1) := by decide +kernel
theorem dX11_door_15 : decode cX11_door 15 = .ok (.invokevirtual 238, 3) := by decide +kernel
theorem dX11_door_18 : decode cX11_door 18 = .ok (.ifCond .ne 9, 3) := by decide +kernel
theorem dX11_door_21 : decode cX11_door 21 = .ok (.aload_n 0, 1) := by decide +kernel
theorem dX11_door_22 : decode cX11_door 22 = .ok (.iconst 1, 1) := by decide +kernel
theorem dX11_door_23 : decode cX11_door 23 = .ok (.invokevirtual 227, 3) := by decide +kernel
theorem dX11_door_26 : decode cX11_door 26 = .ok (.ireturn, 1) := by decide +kernel
theorem dX11_door_27 : decode cX11_door 27 = .ok (.aload_n 0, 1) := by decide +kernel
theorem dX11_door_28 : decode cX11_door 28 = .ok (.getfield 30, 3) := by decide +kernel
theorem dX11_door_31 : decode cX11_door 31 = .ok (.aload_n 0, 1) := by decide +kernel
theorem dX11_door_32 : decode cX11_door 32 = .ok (.getfield 23, 3) := by decide +kernel
theorem dX11_door_35 : decode cX11_door 35 = .ok (.getfield 132, 3) := by decide +kernel
theorem dX11_door_38 : decode cX11_door 38 = .ok (.invokevirtual 230, 3) := by decide +kernel
theorem dX11_door_41 : decode cX11_door 41 = .ok (.aload_n 0, 1) := by decide +kernel
theorem dX11_door_42 : decode cX11_door 42 = .ok (.getfield 23, 3) := by decide +kernel
theorem dX11_door_45 : decode cX11_door 45 = .ok (.aload_n 3, 1) := by decide +kernel
theorem dX11_door_46 : decode cX11_door 46 = .ok (.iload_n 2, 1) := by decide +kernel
theorem dX11_door_47 : decode cX11_door 47 = .ok (.invokevirtual 242, 3) := by decide +kernel
theorem dX11_door_50 : decode cX11_door 50 = .ok (.aload_n 3, 1) := by decide +kernel
theorem dX11_door_51 : decode cX11_door 51 = .ok (.getfield 197, 3) := by decide +kernel
theorem dX11_door_54 : decode cX11_door 54 = .ok (.ireturn, 1) := by decide +kernel
theorem dX11_gloves_0 : decode cX11_gloves 0 = .ok (.aload_n 0, 1) := by decide +kernel
theorem dX11_gloves_1 : decode cX11_gloves 1 = .ok (.iload_n 1, 1) := by decide +kernel
theorem dX11_gloves_2 : decode cX11_gloves 2 = .ok (.invokevirtual 193, 3) := by decide +kernel
theorem dX11_gloves_5 : decode cX11_gloves 5 = .ok (.astore_n 3, 1) := by decide +kernel
theorem dX11_gloves_6 : decode cX11_gloves 6 = .ok (.iload_n 2, 1) := by decide +kernel
theorem dX11_gloves_7 : decode cX11_gloves 7 = .ok (.iconst 1, 1) := by decide +kernel
theorem dX11_gloves_8 : decode cX11_gloves 8 = .ok (.if_icmp .lt 9, 3) := by decide +kernel
theorem dX11_gloves_11 : decode cX11_gloves 11 = .ok (.iload_n 2, 1) := by decide +kernel
theorem dX11_gloves_12 : decode cX11_gloves 12 = .ok (.bipush 9, 2) := by decide +kernel
theorem dX11_gloves_14 : decode cX11_gloves 14 = .ok (.if_icmp .le 9, 3) := by decide +kernel
theorem dX11_gloves_17 : decode cX11_gloves 17 = .ok (.aload_n 0, 1) := by decide +kernel
theorem dX11_gloves_18 : decode cX11_gloves 18 = .ok (.iconst 1, 1) := by decide +kernel
theorem dX11_gloves_19 : decode cX11_gloves 19 = .ok (.invokevirtual 227, 3) := by decide +kernel
theorem dX11_gloves_22 : decode cX11_gloves 22 = .ok (.ireturn, 1) := by decide +kernel
theorem dX11_gloves_23 : decode cX11_gloves 23 = .ok (.aload_n 0, 1) := by decide +kernel
theorem dX11_gloves_24 : decode cX11_gloves 24 = .ok (.getfield 30, 3) := by decide +kernel
theorem dX11_gloves_27 : decode cX11_gloves 27 = .ok (.aload_n 0, 1) := by decide +kernel
theorem dX11_gloves_28 : decode cX11_gloves 28 = .ok (.getfield 23, 3) := by decide +kernel
theorem dX11_gloves_31 : decode cX11_gloves 31 = .ok (.getfield 132, 3) := by decide +kernel
theorem dX11_gloves_34 : decode cX11_gloves 34 = .ok (.invokevirtual 230, 3) := by decide +kernel
theorem dX11_gloves_37 : decode cX11_gloves 37 = .ok (.aload_n 3, 1) := by decide +kernel
theorem dX11_gloves_38 : decode cX11_gloves 38 = .ok (.iload_n 2, 1) := by decide +kernel
theorem dX11_gloves_39 : decode cX11_gloves 39 = .ok (.ineg, 1) := by decide +kernel
theorem dX11_gloves_40 : decode cX11_gloves 40 = .ok (.invokevirtual 245, 3) := by decide +kernel
theorem dX11_gloves_43 : decode cX11_gloves 43 = .ok (.aload_n 3, 1) := by decide +kernel
theorem dX11_gloves_44 : decode cX11_gloves 44 = .ok (.getfield 200, 3) := by decide +kernel
theorem dX11_gloves_47 : decode cX11_gloves 47 = .ok (.ireturn, 1) := by decide +kernel
theorem dX11_begin_0 : decode cX11_begin 0 = .ok (.aload_n 0, 1) := by decide +kernel
theorem dX11_begin_1 : decode cX11_begin 1 = .ok (.iload_n 1, 1) := by decide +kernel
theorem dX11_begin_2 : decode cX11_begin 2 = .ok (.invokevirtual 193, 3) := by decide +kernel
theorem dX11_begin_5 : decode cX11_begin 5 = .ok (.astore_n 3, 1) := by decide +kernel
theorem dX11_begin_6 : decode cX11_begin 6 = .ok (.aload_n 0, 1) := by decide +kernel
theorem dX11_begin_7 : decode cX11_begin 7 = .ok (.iload_n 2, 1) := by decide +kernel
theorem dX11_begin_8 : decode cX11_begin 8 = .ok (.invokevirtual 173, 3) := by decide +kernel
theorem dX11_begin_11 : decode cX11_begin 11 = .ok (.aload_n 3, 1) := by decide +kernel
theorem dX11_begin_12 : decode cX11_begin 12 = .ok (.getfield 203, 3) := by decide +kernel
theorem dX11_begin_15 : decode cX11_begin 15 = .ok (.iload_n 2, 1) := by decide +kernel
theorem dX11_begin_16 : decode cX11_begin 16 = .ok (.if_icmp .ne 9, 3) := by decide +kernel
theorem dX11_begin_19 : decode cX11_begin 19 = .ok (.aload_n 0, 1) := by decide +kernel
theorem dX11_begin_20 : decode cX11_begin 20 = .ok (.iconst 1, 1) := by decide +kernel
theorem dX11_begin_21 : decode cX11_begin 21 = .ok (.invokevirtual 227, 3) := by decide +kernel
theorem dX11_begin_24 : decode cX11_begin 24 = .ok (.ireturn, 1) := by decide +kernel
theorem dX11_begin_25 : decode cX11_begin 25 = .ok (.aload_n 0, 1) := by decide +kernel
theorem dX11_begin_26 : decode cX11_begin 26 = .ok (.getfield 30, 3) := by decide +kernel
theorem dX11_begin_29 : decode cX11_begin 29 = .ok (.aload_n 0, 1) := by decide +kernel
theorem dX11_begin_30 : decode cX11_begin 30 = .ok (.getfield 23, 3) := by decide +kernel
theorem dX11_begin_33 : decode cX11_begin 33 = .ok (.getfield 132, 3) := by decide +kernel
theorem dX11_begin_36 : decode cX11_begin 36 = .ok (.invokevirtual 230, 3) := by decide +kernel
theorem dX11_begin_39 : decode cX11_begin 39 = .ok (.aload_n 3, 1) := by decide +kernel
theorem dX11_begin_40 : decode cX11_begin 40 = .ok (.getfield 203, 3) := by decide +kernel
theorem dX11_begin_43 : decode cX11_begin 43 = .ok (.istore 4, 2) := by decide +kernel
theorem dX11_begin_45 : decode cX11_begin 45 = .ok (.aload_n 3, 1) := by decide +kernel
theorem dX11_begin_46 : decode cX11_begin 46 = .ok (.iload_n 2, 1) := by decide +kernel
theorem dX11_begin_47 : decode cX11_begin 47 = .ok (.putfield 203, 3) := by decide +kernel
theorem dX11_begin_50 : decode cX11_begin 50 = .ok (.aload_n 3, 1) := by decide +kernel
theorem dX11_begin_51 : decode cX11_begin 51 = .ok (.iconst 0, 1) := by decide +kernel
theorem dX11_begin_52 : decode cX11_begin 52 = .ok (.putfield 206, 3) := by decide +kernel
theorem dX11_begin_55 : decode cX11_begin 55 = .ok (.iload 4, 2) := by decide +kernel
theorem dX11_begin_57 : decode cX11_begin 57 = .ok (.ireturn, 1) := by decide +kernel
theorem dX11_pianos_0 : decode cX11_pianos 0 = .ok (.iload_n 1, 1) := by decide +kernel
theorem dX11_pianos_1 : decode cX11_pianos 1 = .ok (.iconst 1, 1) := by decide +kernel
theorem dX11_pianos_2 : decode cX11_pianos 2 = .ok (.if_icmp .lt 8, 3) := by decide +kernel
theorem dX11_pianos_5 : decode cX11_pianos 5 = .ok (.iload_n 1, 1) := by decide +kernel
theorem dX11_pianos_6 : decode cX11_pianos 6 = .ok (.iconst 4, 1) := by decide +kernel
theorem dX11_pianos_7 : decode cX11_pianos 7 = .ok (.if_icmp .le 9, 3) := by decide +kernel
theorem dX11_pianos_10 : decode cX11_pianos 10 = .ok (.aload_n 0, 1) := by decide +kernel
theorem dX11_pianos_11 : decode cX11_pianos 11 = .ok (.iconst 1, 1) := by decide +kernel
theorem dX11_pianos_12 : decode cX11_pianos 12 = .ok (.invokevirtual 227, 3) := by decide +kernel
theorem dX11_pianos_15 : decode cX11_pianos 15 = .ok (.ireturn, 1) := by decide +kernel
theorem dX11_pianos_16 : decode cX11_pianos 16 = .ok (.aload_n 0, 1) := by decide +kernel
theorem dX11_pianos_17 : decode cX11_pianos 17 = .ok (.getfield 30, 3) := by decide +kernel
theorem dX11_pianos_20 : decode cX11_pianos 20 = .ok (.aload_n 0, 1) := by decide +kernel
theorem dX11_pianos_21 : decode cX11_pianos 21 = .ok (.getfield 23, 3) := by decide +kernel
theorem dX11_pianos_24 : decode cX11_pianos 24 = .ok (.getfield 132, 3) := by decide +kernel
theorem dX11_pianos_27 : decode cX11_pianos 27 = .ok (.invokevirtual 230, 3) := by decide +kernel
theorem dX11_pianos_30 : decode cX11_pianos 30 = .ok (.aload_n 0, 1) := by decide +kernel
theorem dX11_pianos_31 : decode cX11_pianos 31 = .ok (.getfield 23, 3) := by decide +kernel
theorem dX11_pianos_34 : decode cX11_pianos 34 = .ok (.getfield 132, 3) := by decide +kernel
theorem dX11_pianos_37 : decode cX11_pianos 37 = .ok (.getfield 138, 3) := by decide +kernel
theorem dX11_pianos_40 : decode cX11_pianos 40 = .ok (.istore_n 2, 1) := by decide +kernel
theorem dX11_pianos_41 : decode cX11_pianos 41 = .ok (.aload_n 0, 1) := by decide +kernel
theorem dX11_pianos_42 : decode cX11_pianos 42 = .ok (.getfield 23, 3) := by decide +kernel
theorem dX11_pianos_45 : decode cX11_pianos 45 = .ok (.getfield 132, 3) := by decide +kernel
theorem dX11_pianos_48 : decode cX11_pianos 48 = .ok (.iload_n 1, 1) := by decide +kernel
theorem dX11_pianos_49 : decode cX11_pianos 49 = .ok (.putfield 138, 3) := by decide +kernel
theorem dX11_pianos_52 : decode cX11_pianos 52 = .ok (.iload_n 2, 1) := by decide +kernel
theorem dX11_pianos_53 : decode cX11_pianos 53 = .ok (.ireturn, 1) := by decide +kernel
theorem dX11_undo_0 : decode cX11_undo 0 = .ok (.aload_n 0, 1) := by decide +kernel
theorem dX11_undo_1 : decode cX11_undo 1 = .ok (.getfield 30, 3) := by decide +kernel
theorem dX11_undo_4 : decode cX11_undo 4 = .ok (.getfield 155, 3) := by decide +kernel
theorem dX11_undo_7 : decode cX11_undo 7 = .ok (.ifCond .ne 5, 3) := by decide +kernel
theorem dX11_undo_10 : decode cX11_undo 10 = .ok (.iconst (-1), 1) := by decide +kernel
theorem dX11_undo_11 : decode cX11_undo 11 = .ok (.ireturn, 1) := by decide +kernel
theorem dX11_undo_12 : decode cX11_undo 12 = .ok (.aload_n 0, 1) := by decide +kernel
theorem dX11_undo_13 : decode cX11_undo 13 = .ok (.getfield 30, 3) := by decide +kernel
theorem dX11_undo_16 : decode cX11_undo 16 = .ok (.aload_n 0, 1) := by decide +kernel
theorem dX11_undo_17 : decode cX11_undo 17 = .ok (.getfield 23, 3) := by decide +kernel
theorem dX11_undo_20 : decode cX11_undo 20 = .ok (.getfield 132, 3) := by decide +kernel
theorem dX11_undo_23 : decode cX11_undo 23 = .ok (.invokevirtual 248, 3) := by decide +kernel
theorem dX11_undo_26 : decode cX11_undo 26 = .ok (.aload_n 0, 1) := by decide +kernel
theorem dX11_undo_27 : decode cX11_undo 27 = .ok (.getfield 30, 3) := by decide +kernel
theorem dX11_undo_30 : decode cX11_undo 30 = .ok (.getfield 155, 3) := by decide +kernel
theorem dX11_undo_33 : decode cX11_undo 33 = .ok (.ireturn, 1) := by decide +kernel
theorem dX11_then_0 : decode cX11_then 0 = .ok (.aload_n 0, 1) := by decide +kernel
theorem dX11_then_1 : decode cX11_then 1 = .ok (.iload_n 1, 1) := by decide +kernel
theorem dX11_then_2 : decode cX11_then 2 = .ok (.invokevirtual 193, 3) := by decide +kernel
theorem dX11_then_5 : decode cX11_then 5 = .ok (.astore 4, 2) := by decide +kernel
theorem dX11_then_7 : decode cX11_then 7 = .ok (.iload_n 3, 1) := by decide +kernel
theorem dX11_then_8 : decode cX11_then 8 = .ok (.iconst 2, 1) := by decide +kernel
theorem dX11_then_9 : decode cX11_then 9 = .ok (.invokestatic 251, 3) := by decide +kernel
theorem dX11_then_12 : decode cX11_then 12 = .ok (.iload_n 2, 1) := by decide +kernel
theorem dX11_then_13 : decode cX11_then 13 = .ok (.iconst 0, 1) := by decide +kernel
theorem dX11_then_14 : decode cX11_then 14 = .ok (.bipush 60, 2) := by decide +kernel
theorem dX11_then_16 : decode cX11_then 16 = .ok (.invokestatic 255, 3) := by decide +kernel
theorem dX11_then_19 : decode cX11_then 19 = .ok (.aload_n 0, 1) := by decide +kernel
theorem dX11_then_20 : decode cX11_then 20 = .ok (.getfield 55, 3) := by decide +kernel
theorem dX11_then_23 : decode cX11_then 23 = .ok (.aload 4, 2) := by decide +kernel
theorem dX11_then_25 : decode cX11_then 25 = .ok (.invokevirtual 220, 3) := by decide +kernel
theorem dX11_then_28 : decode cX11_then 28 = .ok (.aload_n 0, 1) := by decide +kernel
theorem dX11_then_29 : decode cX11_then 29 = .ok (.getfield 23, 3) := by decide +kernel
theorem dX11_then_32 : decode cX11_then 32 = .ok (.aload_n 0, 1) := by decide +kernel
theorem dX11_then_33 : decode cX11_then 33 = .ok (.getfield 55, 3) := by decide +kernel
theorem dX11_then_36 : decode cX11_then 36 = .ok (.iload_n 2, 1) := by decide +kernel
theorem dX11_then_37 : decode cX11_then 37 = .ok (.invokevirtual 234, 3) := by decide +kernel
theorem dX11_then_40 : decode cX11_then 40 = .ok (.iload_n 3, 1) := by decide +kernel
theorem dX11_then_41 : decode cX11_then 41 = .ok (.ifCond .ne 11, 3) := by decide +kernel
theorem dX11_then_44 : decode cX11_then 44 = .ok (.aload_n 0, 1) := by decide +kernel
theorem dX11_then_45 : decode cX11_then 45 = .ok (.getfield 55, 3) := by decide +kernel
theorem dX11_then_48 : decode cX11_then 48 = .ok (.getfield 197, 3) := by decide +kernel
theorem dX11_then_51 : decode cX11_then 51 = .ok (.ireturn, 1) := by decide +kernel
theorem dX11_then_52 : decode cX11_then 52 = .ok (.iload_n 3, 1) := by decide +kernel
theorem dX11_then_53 : decode cX11_then 53 = .ok (.iconst 1, 1) := by decide +kernel
theorem dX11_then_54 : decode cX11_then 54 = .ok (.if_icmp .ne 13, 3) := by decide +kernel
theorem dX11_then_57 : decode cX11_then 57 = .ok (.aload_n 0, 1) := by decide +kernel
theorem dX11_then_58 : decode cX11_then 58 = .ok (.getfield 55, 3) := by decide +kernel
theorem dX11_then_61 : decode cX11_then 61 = .ok (.getfield 206, 3) := by decide +kernel
theorem dX11_then_64 : decode cX11_then 64 = .ok (.goto 10, 3) := by decide +kernel
theorem dX11_then_67 : decode cX11_then 67 = .ok (.aload_n 0, 1) := by decide +kernel
theorem dX11_then_68 : decode cX11_then 68 = .ok (.getfield 55, 3) := by decide +kernel
theorem dX11_then_71 : decode cX11_then 71 = .ok (.getfield 200, 3) := by decide +kernel
theorem dX11_then_74 : decode cX11_then 74 = .ok (.ireturn, 1) := by decide +kernel
theorem dX11_done_0 : decode cX11_done 0 = .ok (.aload_n 0, 1) := by decide +kernel
theorem dX11_done_1 : decode cX11_done 1 = .ok (.aload_n 0, 1) := by decide +kernel
theorem dX11_done_2 : decode cX11_done 2 = .ok (.iload_n 1, 1) := by decide +kernel
theorem dX11_done_3 : decode cX11_done 3 = .ok (.invokevirtual 193, 3) := by decide +kernel
theorem dX11_done_6 : decode cX11_done 6 = .ok (.invokevirtual 259, 3) := by decide +kernel
theorem dX11_done_9 : decode cX11_done 9 = .ok (.ireturn, 1) := by decide +kernel
theorem dX11_weeksTillDone_0 : decode cX11_weeksTillDone 0 = .ok (.aload_n 0, 1) := by decide +kernel
theorem dX11_weeksTillDone_1 : decode cX11_weeksTillDone 1 = .ok (.getfield 55, 3) := by decide +kernel
theorem dX11_weeksTillDone_4 : decode cX11_weeksTillDone 4 = .ok (.aload_n 1, 1) := by decide +kernel
theorem dX11_weeksTillDone_5 : decode cX11_weeksTillDone 5 = .ok (.invokevirtual 220, 3) := by decide +kernel
theorem dX11_weeksTillDone_8 : decode cX11_weeksTillDone 8 = .ok (.iconst 0, 1) := by decide +kernel
theorem dX11_weeksTillDone_9 : decode cX11_weeksTillDone 9 = .ok (.istore_n 2, 1) := by decide +kernel
theorem dX11_weeksTillDone_10 : decode cX11_weeksTillDone 10 = .ok (.iload_n 2, 1) := by decide +kernel
theorem dX11_weeksTillDone_11 : decode cX11_weeksTillDone 11 = .ok (.bipush 60, 2) := by decide +kernel
theorem dX11_weeksTillDone_13 : decode cX11_weeksTillDone 13 = .ok (.if_icmp .gt 37, 3) := by decide +kernel
theorem dX11_weeksTillDone_16 : decode cX11_weeksTillDone 16 = .ok (.aload_n 0, 1) := by decide +kernel
theorem dX11_weeksTillDone_17 : decode cX11_weeksTillDone 17 = .ok (.getfield 23, 3) := by decide +kernel
theorem dX11_weeksTillDone_20 : decode cX11_weeksTillDone 20 = .ok (.aload_n 0, 1) := by decide +kernel
theorem dX11_weeksTillDone_21 : decode cX11_weeksTillDone 21 = .ok (.getfield 55, 3) := by decide +kernel
theorem dX11_weeksTillDone_24 : decode cX11_weeksTillDone 24 = .ok (.invokevirtual 169, 3) := by decide +kernel
theorem dX11_weeksTillDone_27 : decode cX11_weeksTillDone 27 = .ok (.ifCond .eq 5, 3) := by decide +kernel
theorem dX11_weeksTillDone_30 : decode cX11_weeksTillDone 30 = .ok (.iload_n 2, 1) := by decide +kernel
theorem dX11_weeksTillDone_31 : decode cX11_weeksTillDone 31 = .ok (.ireturn, 1) := by decide +kernel
theorem dX11_weeksTillDone_32 : decode cX11_weeksTillDone 32 = .ok (.aload_n 0, 1) := by decide +kernel
theorem dX11_weeksTillDone_33 : decode cX11_weeksTillDone 33 = .ok (.getfield 23, 3) := by decide +kernel
theorem dX11_weeksTillDone_36 : decode cX11_weeksTillDone 36 = .ok (.aload_n 0, 1) := by decide +kernel
theorem dX11_weeksTillDone_37 : decode cX11_weeksTillDone 37 = .ok (.getfield 55, 3) := by decide +kernel
theorem dX11_weeksTillDone_40 : decode cX11_weeksTillDone 40 = .ok (.iconst 1, 1) := by decide +kernel
theorem dX11_weeksTillDone_41 : decode cX11_weeksTillDone 41 = .ok (.invokevirtual 234, 3) := by decide +kernel
theorem dX11_weeksTillDone_44 : decode cX11_weeksTillDone 44 = .ok (.iinc 2 1, 3) := by decide +kernel
theorem dX11_weeksTillDone_47 : decode cX11_weeksTillDone 47 = .ok (.goto (-37), 3) := by decide +kernel
theorem dX11_weeksTillDone_50 : decode cX11_weeksTillDone 50 = .ok (.iconst (-1), 1) := by decide +kernel
theorem dX11_weeksTillDone_51 : decode cX11_weeksTillDone 51 = .ok (.ireturn, 1) := by decide +kernel
theorem dX11_heard_0 : decode cX11_heard 0 = .ok (.iload_n 1, 1) := by decide +kernel
theorem dX11_heard_1 : decode cX11_heard 1 = .ok (.iconst 0, 1) := by decide +kernel
theorem dX11_heard_2 : decode cX11_heard 2 = .ok (.bipush 60, 2) := by decide +kernel
theorem dX11_heard_4 : decode cX11_heard 4 = .ok (.invokestatic 255, 3) := by decide +kernel
theorem dX11_heard_7 : decode cX11_heard 7 = .ok (.iconst 0, 1) := by decide +kernel
theorem dX11_heard_8 : decode cX11_heard 8 = .ok (.istore_n 2, 1) := by decide +kernel
theorem dX11_heard_9 : decode cX11_heard 9 = .ok (.iconst 0, 1) := by decide +kernel
theorem dX11_heard_10 : decode cX11_heard 10 = .ok (.istore_n 3, 1) := by decide +kernel
theorem dX11_heard_11 : decode cX11_heard 11 = .ok (.iload_n 3, 1) := by decide +kernel
theorem dX11_heard_12 : decode cX11_heard 12 = .ok (.aload_n 0, 1) := by decide +kernel
theorem dX11_heard_13 : decode cX11_heard 13 = .ok (.getfield 23, 3) := by decide +kernel
theorem dX11_heard_16 : decode cX11_heard 16 = .ok (.getfield 132, 3) := by decide +kernel
theorem dX11_heard_19 : decode cX11_heard 19 = .ok (.getfield 135, 3) := by decide +kernel
theorem dX11_heard_22 : decode cX11_heard 22 = .ok (.if_icmp .ge 60, 3) := by decide +kernel
theorem dX11_heard_25 : decode cX11_heard 25 = .ok (.aload_n 0, 1) := by decide +kernel
theorem dX11_heard_26 : decode cX11_heard 26 = .ok (.getfield 23, 3) := by decide +kernel
theorem dX11_heard_29 : decode cX11_heard 29 = .ok (.getfield 132, 3) := by decide +kernel
theorem dX11_heard_32 : decode cX11_heard 32 = .ok (.getfield 165, 3) := by decide +kernel
theorem dX11_heard_35 : decode cX11_heard 35 = .ok (.iload_n 3, 1) := by decide +kernel
theorem dX11_heard_36 : decode cX11_heard 36 = .ok (.aaload, 1) := by decide +kernel
theorem dX11_heard_37 : decode cX11_heard 37 = .ok (.astore 4, 2) := by decide +kernel
theorem dX11_heard_39 : decode cX11_heard 39 = .ok (.aload_n 0, 1) := by decide +kernel
theorem dX11_heard_40 : decode cX11_heard 40 = .ok (.getfield 55, 3) := by decide +kernel
theorem dX11_heard_43 : decode cX11_heard 43 = .ok (.aload 4, 2) := by decide +kernel
theorem dX11_heard_45 : decode cX11_heard 45 = .ok (.invokevirtual 220, 3) := by decide +kernel
theorem dX11_heard_48 : decode cX11_heard 48 = .ok (.aload_n 0, 1) := by decide +kernel
theorem dX11_heard_49 : decode cX11_heard 49 = .ok (.getfield 23, 3) := by decide +kernel
theorem dX11_heard_52 : decode cX11_heard 52 = .ok (.aload_n 0, 1) := by decide +kernel
theorem dX11_heard_53 : decode cX11_heard 53 = .ok (.getfield 55, 3) := by decide +kernel
theorem dX11_heard_56 : decode cX11_heard 56 = .ok (.iload_n 1, 1) := by decide +kernel
theorem dX11_heard_57 : decode cX11_heard 57 = .ok (.invokevirtual 234, 3) := by decide +kernel
theorem dX11_heard_60 : decode cX11_heard 60 = .ok (.iload_n 2, 1) := by decide +kernel
theorem dX11_heard_61 : decode cX11_heard 61 = .ok (.aload_n 0, 1) := by decide +kernel
theorem dX11_heard_62 : decode cX11_heard 62 = .ok (.getfield 55, 3) := by decide +kernel
theorem dX11_heard_65 : decode cX11_heard 65 = .ok (.getfield 206, 3) := by decide +kernel
theorem dX11_heard_68 : decode cX11_heard 68 = .ok (.aload 4, 2) := by decide +kernel
theorem dX11_heard_70 : decode cX11_heard 70 = .ok (.getfield 206, 3) := by decide +kernel
theorem dX11_heard_73 : decode cX11_heard 73 = .ok (.isub, 1) := by decide +kernel
theorem dX11_heard_74 : decode cX11_heard 74 = .ok (.iadd, 1) := by decide +kernel
theorem dX11_heard_75 : decode cX11_heard 75 = .ok (.istore_n 2, 1) := by decide +kernel
theorem dX11_heard_76 : decode cX11_heard 76 = .ok (.iinc 3 1, 3) := by decide +kernel
theorem dX11_heard_79 : decode cX11_heard 79 = .ok (.goto (-68), 3) := by decide +kernel
theorem dX11_heard_82 : decode cX11_heard 82 = .ok (.iload_n 2, 1) := by decide +kernel
theorem dX11_heard_83 : decode cX11_heard 83 = .ok (.ireturn, 1) := by decide +kernel
theorem dX11_best_0 : decode cX11_best 0 = .ok (.iload_n 1, 1) := by decide +kernel
theorem dX11_best_1 : decode cX11_best 1 = .ok (.iconst 0, 1) := by decide +kernel
theorem dX11_best_2 : decode cX11_best 2 = .ok (.bipush 60, 2) := by decide +kernel
theorem dX11_best_4 : decode cX11_best 4 = .ok (.invokestatic 255, 3) := by decide +kernel
theorem dX11_best_7 : decode cX11_best 7 = .ok (.aload_n 0, 1) := by decide +kernel
theorem dX11_best_8 : decode cX11_best 8 = .ok (.iload_n 1, 1) := by decide +kernel
theorem dX11_best_9 : decode cX11_best 9 = .ok (.iconst 0, 1) := by decide +kernel
theorem dX11_best_10 : decode cX11_best 10 = .ok (.invokevirtual 262, 3) := by decide +kernel
theorem dX11_best_13 : decode cX11_best 13 = .ok (.ireturn, 1) := by decide +kernel
theorem dX11_whoHasMost_0 : decode cX11_whoHasMost 0 = .ok (.iconst (-1), 1) := by decide +kernel
theorem dX11_whoHasMost_1 : decode cX11_whoHasMost 1 = .ok (.istore_n 3, 1) := by decide +kernel
theorem dX11_whoHasMost_2 : decode cX11_whoHasMost 2 = .ok (.iconst (-1), 1) := by decide +kernel
theorem dX11_whoHasMost_3 : decode cX11_whoHasMost 3 = .ok (.istore 4, 2) := by decide +kernel
theorem dX11_whoHasMost_5 : decode cX11_whoHasMost 5 = .ok (.iconst 0, 1) := by decide +kernel
theorem dX11_whoHasMost_6 : decode cX11_whoHasMost 6 = .ok (.istore 5, 2) := by decide +kernel
theorem dX11_whoHasMost_8 : decode cX11_whoHasMost 8 = .ok (.iload 5, 2) := by decide +kernel
theorem dX11_whoHasMost_10 : decode cX11_whoHasMost 10 = .ok (.aload_n 0, 1) := by decide +kernel
theorem dX11_whoHasMost_11 : decode cX11_whoHasMost 11 = .ok (.getfield 23, 3) := by decide +kernel
theorem dX11_whoHasMost_14 : decode cX11_whoHasMost 14 = .ok (.getfield 132, 3) := by decide +kernel
theorem dX11_whoHasMost_17 : decode cX11_whoHasMost 17 = .ok (.getfield 135, 3) := by decide +kernel
theorem dX11_whoHasMost_20 : decode cX11_whoHasMost 20 = .ok (.if_icmp .ge 78, 3) := by decide +kernel
theorem dX11_whoHasMost_23 : decode cX11_whoHasMost 23 = .ok (.aload_n 0, 1) := by decide +kernel
theorem dX11_whoHasMost_24 : decode cX11_whoHasMost 24 = .ok (.getfield 55, 3) := by decide +kernel
theorem dX11_whoHasMost_27 : decode cX11_whoHasMost 27 = .ok (.aload_n 0, 1) := by decide +kernel
theorem dX11_whoHasMost_28 : decode cX11_whoHasMost 28 = .ok (.getfield 23, 3) := by decide +kernel
theorem dX11_whoHasMost_31 : decode cX11_whoHasMost 31 = .ok (.getfield 132, 3) := by decide +kernel
theorem dX11_whoHasMost_34 : decode cX11_whoHasMost 34 = .ok (.getfield 165, 3) := by decide +kernel
theorem dX11_whoHasMost_37 : decode cX11_whoHasMost 37 = .ok (.iload 5, 2) := by decide +kernel
theorem dX11_whoHasMost_39 : decode cX11_whoHasMost 39 = .ok (.aaload, 1) := by decide +kernel
theorem dX11_whoHasMost_40 : decode cX11_whoHasMost 40 = .ok (.invokevirtual 220, 3) := by decide +kernel
theorem dX11_whoHasMost_43 : decode cX11_whoHasMost 43 = .ok (.aload_n 0, 1) := by decide +kernel
theorem dX11_whoHasMost_44 : decode cX11_whoHasMost 44 = .ok (.getfield 23, 3) := by decide +kernel
theorem dX11_whoHasMost_47 : decode cX11_whoHasMost 47 = .ok (.aload_n 0, 1) := by decide +kernel
theorem dX11_whoHasMost_48 : decode cX11_whoHasMost 48 = .ok (.getfield 55, 3) := by decide +kernel
theorem dX11_whoHasMost_51 : decode cX11_whoHasMost 51 = .ok (.iload_n 1, 1) := by decide +kernel
theorem dX11_whoHasMost_52 : decode cX11_whoHasMost 52 = .ok (.invokevirtual 234, 3) := by decide +kernel
theorem dX11_whoHasMost_55 : decode cX11_whoHasMost 55 = .ok (.iload_n 2, 1) := by decide +kernel
theorem dX11_whoHasMost_56 : decode cX11_whoHasMost 56 = .ok (.ifCond .eq 13, 3) := by decide +kernel
theorem dX11_whoHasMost_59 : decode cX11_whoHasMost 59 = .ok (.aload_n 0, 1) := by decide +kernel
theorem dX11_whoHasMost_60 : decode cX11_whoHasMost 60 = .ok (.getfield 55, 3) := by decide +kernel
theorem dX11_whoHasMost_63 : decode cX11_whoHasMost 63 = .ok (.getfield 200, 3) := by decide +kernel
theorem dX11_whoHasMost_66 : decode cX11_whoHasMost 66 = .ok (.goto 10, 3) := by decide +kernel
theorem dX11_whoHasMost_69 : decode cX11_whoHasMost 69 = .ok (.aload_n 0, 1) := by decide +kernel
theorem dX11_whoHasMost_70 : decode cX11_whoHasMost 70 = .ok (.getfield 55, 3) := by decide +kernel
theorem dX11_whoHasMost_73 : decode cX11_whoHasMost 73 = .ok (.getfield 197, 3) := by decide +kernel
theorem dX11_whoHasMost_76 : decode cX11_whoHasMost 76 = .ok (.istore 6, 2) := by decide +kernel
theorem dX11_whoHasMost_78 : decode cX11_whoHasMost 78 = .ok (.iload 6, 2) := by decide +kernel
theorem dX11_whoHasMost_80 : decode cX11_whoHasMost 80 = .ok (.iload 4, 2) := by decide +kernel
theorem dX11_whoHasMost_82 : decode cX11_whoHasMost 82 = .ok (.if_icmp .le 10, 3) := by decide +kernel
theorem dX11_whoHasMost_85 : decode cX11_whoHasMost 85 = .ok (.iload 6, 2) := by decide +kernel
theorem dX11_whoHasMost_87 : decode cX11_whoHasMost 87 = .ok (.istore 4, 2) := by decide +kernel
theorem dX11_whoHasMost_89 : decode cX11_whoHasMost 89 = .ok (.iload 5, 2) := by decide +kernel
theorem dX11_whoHasMost_91 : decode cX11_whoHasMost 91 = .ok (.istore_n 3, 1) := by decide +kernel
theorem dX11_whoHasMost_92 : decode cX11_whoHasMost 92 = .ok (.iinc 5 1, 3) := by decide +kernel
theorem dX11_whoHasMost_95 : decode cX11_whoHasMost 95 = .ok (.goto (-87), 3) := by decide +kernel
theorem dX11_whoHasMost_98 : decode cX11_whoHasMost 98 = .ok (.iload_n 3, 1) := by decide +kernel
theorem dX11_whoHasMost_99 : decode cX11_whoHasMost 99 = .ok (.ireturn, 1) := by decide +kernel
theorem dX11_stuck_0 : decode cX11_stuck 0 = .ok (.iconst 0, 1) := by decide +kernel
theorem dX11_stuck_1 : decode cX11_stuck 1 = .ok (.istore_n 1, 1) := by decide +kernel
theorem dX11_stuck_2 : decode cX11_stuck 2 = .ok (.iconst 0, 1) := by decide +kernel
theorem dX11_stuck_3 : decode cX11_stuck 3 = .ok (.istore_n 2, 1) := by decide +kernel
theorem dX11_stuck_4 : decode cX11_stuck 4 = .ok (.iload_n 2, 1) := by decide +kernel
theorem dX11_stuck_5 : decode cX11_stuck 5 = .ok (.aload_n 0, 1) := by decide +kernel
theorem dX11_stuck_6 : decode cX11_stuck 6 = .ok (.getfield 23, 3) := by decide +kernel
theorem dX11_stuck_9 : decode cX11_stuck 9 = .ok (.getfield 132, 3) := by decide +kernel
theorem dX11_stuck_12 : decode cX11_stuck 12 = .ok (.getfield 135, 3) := by decide +kernel
theorem dX11_stuck_15 : decode cX11_stuck 15 = .ok (.if_icmp .ge 35, 3) := by decide +kernel
theorem dX11_stuck_18 : decode cX11_stuck 18 = .ok (.aload_n 0, 1) := by decide +kernel
theorem dX11_stuck_19 : decode cX11_stuck 19 = .ok (.aload_n 0, 1) := by decide +kernel
theorem dX11_stuck_20 : decode cX11_stuck 20 = .ok (.getfield 23, 3) := by decide +kernel
theorem dX11_stuck_23 : decode cX11_stuck 23 = .ok (.getfield 132, 3) := by decide +kernel
theorem dX11_stuck_26 : decode cX11_stuck 26 = .ok (.getfield 165, 3) := by decide +kernel
theorem dX11_stuck_29 : decode cX11_stuck 29 = .ok (.iload_n 2, 1) := by decide +kernel
theorem dX11_stuck_30 : decode cX11_stuck 30 = .ok (.aaload, 1) := by decide +kernel
theorem dX11_stuck_31 : decode cX11_stuck 31 = .ok (.invokevirtual 259, 3) := by decide +kernel
theorem dX11_stuck_34 : decode cX11_stuck 34 = .ok (.iconst (-1), 1) := by decide +kernel
theorem dX11_stuck_35 : decode cX11_stuck 35 = .ok (.if_icmp .ne 9, 3) := by decide +kernel
theorem dX11_stuck_38 : decode cX11_stuck 38 = .ok (.iload_n 1, 1) := by decide +kernel
theorem dX11_stuck_39 : decode cX11_stuck 39 = .ok (.iconst 1, 1) := by decide +kernel
theorem dX11_stuck_40 : decode cX11_stuck 40 = .ok (.iload_n 2, 1) := by decide +kernel
theorem dX11_stuck_41 : decode cX11_stuck 41 = .ok (.ishl, 1) := by decide +kernel
theorem dX11_stuck_42 : decode cX11_stuck 42 = .ok (.ior, 1) := by decide +kernel
theorem dX11_stuck_43 : decode cX11_stuck 43 = .ok (.istore_n 1, 1) := by decide +kernel
theorem dX11_stuck_44 : decode cX11_stuck 44 = .ok (.iinc 2 1, 3) := by decide +kernel
theorem dX11_stuck_47 : decode cX11_stuck 47 = .ok (.goto (-43), 3) := by decide +kernel
theorem dX11_stuck_50 : decode cX11_stuck 50 = .ok (.iload_n 1, 1) := by decide +kernel
theorem dX11_stuck_51 : decode cX11_stuck 51 = .ok (.ireturn, 1) := by decide +kernel
theorem dX11_free_0 : decode cX11_free 0 = .ok (.aload_n 0, 1) := by decide +kernel
theorem dX11_free_1 : decode cX11_free 1 = .ok (.getfield 23, 3) := by decide +kernel
theorem dX11_free_4 : decode cX11_free 4 = .ok (.getfield 132, 3) := by decide +kernel
theorem dX11_free_7 : decode cX11_free 7 = .ok (.aload_n 0, 1) := by decide +kernel
theorem dX11_free_8 : decode cX11_free 8 = .ok (.iload_n 1, 1) := by decide +kernel
theorem dX11_free_9 : decode cX11_free 9 = .ok (.invokevirtual 193, 3) := by decide +kernel
theorem dX11_free_12 : decode cX11_free 12 = .ok (.invokevirtual 266, 3) := by decide +kernel
theorem dX11_free_15 : decode cX11_free 15 = .ok (.ireturn, 1) := by decide +kernel
theorem dX11_nobody_0 : decode cX11_nobody 0 = .ok (.iload_n 1, 1) := by decide +kernel
theorem dX11_nobody_1 : decode cX11_nobody 1 = .ok (.iconst 1, 1) := by decide +kernel
theorem dX11_nobody_2 : decode cX11_nobody 2 = .ok (.bipush 30, 2) := by decide +kernel
theorem dX11_nobody_4 : decode cX11_nobody 4 = .ok (.invokestatic 255, 3) := by decide +kernel
theorem dX11_nobody_7 : decode cX11_nobody 7 = .ok (.aload_n 0, 1) := by decide +kernel
theorem dX11_nobody_8 : decode cX11_nobody 8 = .ok (.getfield 23, 3) := by decide +kernel
theorem dX11_nobody_11 : decode cX11_nobody 11 = .ok (.getfield 132, 3) := by decide +kernel
theorem dX11_nobody_14 : decode cX11_nobody 14 = .ok (.getfield 135, 3) := by decide +kernel
theorem dX11_nobody_17 : decode cX11_nobody 17 = .ok (.istore_n 2, 1) := by decide +kernel
theorem dX11_nobody_18 : decode cX11_nobody 18 = .ok (.iload_n 2, 1) := by decide +kernel
theorem dX11_nobody_19 : decode cX11_nobody 19 = .ok (.ifCond .ne 7, 3) := by decide +kernel
theorem dX11_nobody_22 : decode cX11_nobody 22 = .ok (.iconst 0, 1) := by decide +kernel
theorem dX11_nobody_23 : decode cX11_nobody 23 = .ok (.goto 13, 3) := by decide +kernel
theorem dX11_nobody_26 : decode cX11_nobody 26 = .ok (.aload_n 0, 1) := by decide +kernel
theorem dX11_nobody_27 : decode cX11_nobody 27 = .ok (.iload_n 1, 1) := by decide +kernel
theorem dX11_nobody_28 : decode cX11_nobody 28 = .ok (.iconst 1, 1) := by decide +kernel
theorem dX11_nobody_29 : decode cX11_nobody 29 = .ok (.iload_n 2, 1) := by decide +kernel
theorem dX11_nobody_30 : decode cX11_nobody 30 = .ok (.ishl, 1) := by decide +kernel
theorem dX11_nobody_31 : decode cX11_nobody 31 = .ok (.iconst 1, 1) := by decide +kernel
theorem dX11_nobody_32 : decode cX11_nobody 32 = .ok (.isub, 1) := by decide +kernel
theorem dX11_nobody_33 : decode cX11_nobody 33 = .ok (.invokevirtual 269, 3) := by decide +kernel
theorem dX11_nobody_36 : decode cX11_nobody 36 = .ok (.ireturn, 1) := by decide +kernel
theorem dX11_weeksWithAway_0 : decode cX11_weeksWithAway 0 = .ok (.iconst 0, 1) := by decide +kernel
theorem dX11_weeksWithAway_1 : decode cX11_weeksWithAway 1 = .ok (.istore_n 3, 1) := by decide +kernel
theorem dX11_weeksWithAway_2 : decode cX11_weeksWithAway 2 = .ok (.iconst 1, 1) := by decide +kernel
theorem dX11_weeksWithAway_3 : decode cX11_weeksWithAway 3 = .ok (.istore 4, 2) := by decide +kernel
theorem dX11_weeksWithAway_5 : decode cX11_weeksWithAway 5 = .ok (.iload 4, 2) := by decide +kernel
theorem dX11_weeksWithAway_7 : decode cX11_weeksWithAway 7 = .ok (.iload_n 1, 1) := by decide +kernel
theorem dX11_weeksWithAway_8 : decode cX11_weeksWithAway 8 = .ok (.if_icmp .gt 28, 3) := by decide +kernel
theorem dX11_weeksWithAway_11 : decode cX11_weeksWithAway 11 = .ok (.aload_n 0, 1) := by decide +kernel
theorem dX11_weeksWithAway_12 : decode cX11_weeksWithAway 12 = .ok (.getfield 23, 3) := by decide +kernel
theorem dX11_weeksWithAway_15 : decode cX11_weeksWithAway 15 = .ok (.getfield 132, 3) := by decide +kernel
theorem dX11_weeksWithAway_18 : decode cX11_weeksWithAway 18 = .ok (.iload 4, 2) := by decide +kernel
theorem dX11_weeksWithAway_20 : decode cX11_weeksWithAway 20 = .ok (.invokevirtual 144, 3) := by decide +kernel
theorem dX11_weeksWithAway_23 : decode cX11_weeksWithAway 23 = .ok (.iload_n 2, 1) := by decide +kernel
theorem dX11_weeksWithAway_24 : decode cX11_weeksWithAway 24 = .ok (.if_icmp .ne 6, 3) := by decide +kernel
theorem dX11_weeksWithAway_27 : decode cX11_weeksWithAway 27 = .ok (.iinc 3 1, 3) := by decide +kernel
theorem dX11_weeksWithAway_30 : decode cX11_weeksWithAway 30 = .ok (.iinc 4 1, 3) := by decide +kernel
theorem dX11_weeksWithAway_33 : decode cX11_weeksWithAway 33 = .ok (.goto (-28), 3) := by decide +kernel
theorem dX11_weeksWithAway_36 : decode cX11_weeksWithAway 36 = .ok (.iload_n 3, 1) := by decide +kernel
theorem dX11_weeksWithAway_37 : decode cX11_weeksWithAway 37 = .ok (.ireturn, 1) := by decide +kernel
theorem dX11_through_0 : decode cX11_through 0 = .ok (.aload_n 0, 1) := by decide +kernel
theorem dX11_through_1 : decode cX11_through 1 = .ok (.iload_n 1, 1) := by decide +kernel
theorem dX11_through_2 : decode cX11_through 2 = .ok (.invokevirtual 193, 3) := by decide +kernel
theorem dX11_through_5 : decode cX11_through 5 = .ok (.astore_n 2, 1) := by decide +kernel
theorem dX11_through_6 : decode cX11_through 6 = .ok (.aload_n 0, 1) := by decide +kernel
theorem dX11_through_7 : decode cX11_through 7 = .ok (.getfield 23, 3) := by decide +kernel
theorem dX11_through_10 : decode cX11_through 10 = .ok (.getfield 132, 3) := by decide +kernel
theorem dX11_through_13 : decode cX11_through 13 = .ok (.aload_n 2, 1) := by decide +kernel
theorem dX11_through_14 : decode cX11_through 14 = .ok (.invokevirtual 266, 3) := by decide +kernel
theorem dX11_through_17 : decode cX11_through 17 = .ok (.istore_n 3, 1) := by decide +kernel
theorem dX11_through_18 : decode cX11_through 18 = .ok (.aload_n 0, 1) := by decide +kernel
theorem dX11_through_19 : decode cX11_through 19 = .ok (.getfield 55, 3) := by decide +kernel
theorem dX11_through_22 : decode cX11_through 22 = .ok (.aload_n 2, 1) := by decide +kernel
theorem dX11_through_23 : decode cX11_through 23 = .ok (.invokevirtual 220, 3) := by decide +kernel
theorem dX11_through_26 : decode cX11_through 26 = .ok (.iconst 0, 1) := by decide +kernel
theorem dX11_through_27 : decode cX11_through 27 = .ok (.istore 4, 2) := by decide +kernel
theorem dX11_through_29 : decode cX11_through 29 = .ok (.iload 4, 2) := by decide +kernel
theorem dX11_through_31 : decode cX11_through 31 = .ok (.bipush 30, 2) := by decide +kernel
theorem dX11_through_33 : decode cX11_through 33 = .ok (.if_icmp .gt 45, 3) := by decide +kernel
theorem dX11_through_36 : decode cX11_through 36 = .ok (.aload_n 0, 1) := by decide +kernel
theorem dX11_through_37 : decode cX11_through 37 = .ok (.getfield 55, 3) := by decide +kernel
theorem dX11_through_40 : decode cX11_through 40 = .ok (.getfield 197, 3) := by decide +kernel
theorem dX11_through_43 : decode cX11_through 43 = .ok (.aload_n 0, 1) := by decide +kernel
theorem dX11_through_44 : decode cX11_through 44 = .ok (.getfield 23, 3) := by decide +kernel
theorem dX11_through_47 : decode cX11_through 47 = .ok (.aload_n 0, 1) := by decide +kernel
theorem dX11_through_48 : decode cX11_through 48 = .ok (.getfield 55, 3) := by decide +kernel
theorem dX11_through_51 : decode cX11_through 51 = .ok (.invokevirtual 272, 3) := by decide +kernel
theorem dX11_through_54 : decode cX11_through 54 = .ok (.if_icmp .lt 6, 3) := by decide +kernel
theorem dX11_through_57 : decode cX11_through 57 = .ok (.iload 4, 2) := by decide +kernel
theorem dX11_through_59 : decode cX11_through 59 = .ok (.ireturn, 1) := by decide +kernel
theorem dX11_through_60 : decode cX11_through 60 = .ok (.iload_n 3, 1) := by decide +kernel
theorem dX11_through_61 : decode cX11_through 61 = .ok (.ifCond .ne 5, 3) := by decide +kernel
theorem dX11_through_64 : decode cX11_through 64 = .ok (.iconst (-1), 1) := by decide +kernel
theorem dX11_through_65 : decode cX11_through 65 = .ok (.ireturn, 1) := by decide +kernel
theorem dX11_through_66 : decode cX11_through 66 = .ok (.aload_n 0, 1) := by decide +kernel
theorem dX11_through_67 : decode cX11_through 67 = .ok (.iload_n 3, 1) := by decide +kernel
theorem dX11_through_68 : decode cX11_through 68 = .ok (.invokevirtual 275, 3) := by decide +kernel
theorem dX11_through_71 : decode cX11_through 71 = .ok (.istore_n 3, 1) := by decide +kernel
theorem dX11_through_72 : decode cX11_through 72 = .ok (.iinc 4 1, 3) := by decide +kernel
theorem dX11_through_75 : decode cX11_through 75 = .ok (.goto (-46), 3) := by decide +kernel
theorem dX11_through_78 : decode cX11_through 78 = .ok (.iconst (-1), 1) := by decide +kernel
theorem dX11_through_79 : decode cX11_through 79 = .ok (.ireturn, 1) := by decide +kernel
theorem dX11_goToLast_0 : decode cX11_goToLast 0 = .ok (.iload_n 1, 1) := by decide +kernel
theorem dX11_goToLast_1 : decode cX11_goToLast 1 = .ok (.invokestatic 278, 3) := by decide +kernel
theorem dX11_goToLast_4 : decode cX11_goToLast 4 = .ok (.istore_n 2, 1) := by decide +kernel
theorem dX11_goToLast_5 : decode cX11_goToLast 5 = .ok (.aload_n 0, 1) := by decide +kernel
theorem dX11_goToLast_6 : decode cX11_goToLast 6 = .ok (.getfield 23, 3) := by decide +kernel
theorem dX11_goToLast_9 : decode cX11_goToLast 9 = .ok (.aload_n 0, 1) := by decide +kernel
theorem dX11_goToLast_10 : decode cX11_goToLast 10 = .ok (.getfield 55, 3) := by decide +kernel
theorem dX11_goToLast_13 : decode cX11_goToLast 13 = .ok (.iload_n 2, 1) := by decide +kernel
theorem dX11_goToLast_14 : decode cX11_goToLast 14 = .ok (.invokestatic 283, 3) := by decide +kernel
theorem dX11_goToLast_17 : decode cX11_goToLast 17 = .ok (.iconst 1, 1) := by decide +kernel
theorem dX11_goToLast_18 : decode cX11_goToLast 18 = .ok (.iadd, 1) := by decide +kernel
theorem dX11_goToLast_19 : decode cX11_goToLast 19 = .ok (.invokevirtual 242, 3) := by decide +kernel
theorem dX11_goToLast_22 : decode cX11_goToLast 22 = .ok (.iload_n 1, 1) := by decide +kernel
theorem dX11_goToLast_23 : decode cX11_goToLast 23 = .ok (.iload_n 2, 1) := by decide +kernel
theorem dX11_goToLast_24 : decode cX11_goToLast 24 = .ok (.iconst (-1), 1) := by decide +kernel
theorem dX11_goToLast_25 : decode cX11_goToLast 25 = .ok (.ixor, 1) := by decide +kernel
theorem dX11_goToLast_26 : decode cX11_goToLast 26 = .ok (.iand, 1) := by decide +kernel
theorem dX11_goToLast_27 : decode cX11_goToLast 27 = .ok (.ireturn, 1) := by decide +kernel
theorem dX11_toBeDone_0 : decode cX11_toBeDone 0 = .ok (.aload_n 0, 1) := by decide +kernel
theorem dX11_toBeDone_1 : decode cX11_toBeDone 1 = .ok (.iload_n 1, 1) := by decide +kernel
theorem dX11_toBeDone_2 : decode cX11_toBeDone 2 = .ok (.invokevirtual 193, 3) := by decide +kernel
theorem dX11_toBeDone_5 : decode cX11_toBeDone 5 = .ok (.astore_n 3, 1) := by decide +kernel
theorem dX11_toBeDone_6 : decode cX11_toBeDone 6 = .ok (.iload_n 2, 1) := by decide +kernel
theorem dX11_toBeDone_7 : decode cX11_toBeDone 7 = .ok (.iconst 0, 1) := by decide +kernel
theorem dX11_toBeDone_8 : decode cX11_toBeDone 8 = .ok (.bipush 30, 2) := by decide +kernel
theorem dX11_toBeDone_10 : decode cX11_toBeDone 10 = .ok (.invokestatic 255, 3) := by decide +kernel
theorem dX11_toBeDone_13 : decode cX11_toBeDone 13 = .ok (.aload_n 0, 1) := by decide +kernel
theorem dX11_toBeDone_14 : decode cX11_toBeDone 14 = .ok (.getfield 23, 3) := by decide +kernel
theorem dX11_toBeDone_17 : decode cX11_toBeDone 17 = .ok (.getfield 132, 3) := by decide +kernel
theorem dX11_toBeDone_20 : decode cX11_toBeDone 20 = .ok (.aload_n 3, 1) := by decide +kernel
theorem dX11_toBeDone_21 : decode cX11_toBeDone 21 = .ok (.invokevirtual 266, 3) := by decide +kernel
theorem dX11_toBeDone_24 : decode cX11_toBeDone 24 = .ok (.istore 4, 2) := by decide +kernel
theorem dX11_toBeDone_26 : decode cX11_toBeDone 26 = .ok (.aload_n 0, 1) := by decide +kernel
theorem dX11_toBeDone_27 : decode cX11_toBeDone 27 = .ok (.getfield 55, 3) := by decide +kernel
theorem dX11_toBeDone_30 : decode cX11_toBeDone 30 = .ok (.aload_n 3, 1) := by decide +kernel
theorem dX11_toBeDone_31 : decode cX11_toBeDone 31 = .ok (.invokevirtual 220, 3) := by decide +kernel
theorem dX11_toBeDone_34 : decode cX11_toBeDone 34 = .ok (.iconst 0, 1) := by decide +kernel
theorem dX11_toBeDone_35 : decode cX11_toBeDone 35 = .ok (.istore 5, 2) := by decide +kernel
theorem dX11_toBeDone_37 : decode cX11_toBeDone 37 = .ok (.iload 5, 2) := by decide +kernel
theorem dX11_toBeDone_39 : decode cX11_toBeDone 39 = .ok (.bipush 30, 2) := by decide +kernel
theorem dX11_toBeDone_41 : decode cX11_toBeDone 41 = .ok (.if_icmp .gt 64, 3) := by decide +kernel
theorem dX11_toBeDone_44 : decode cX11_toBeDone 44 = .ok (.aload_n 0, 1) := by decide +kernel
theorem dX11_toBeDone_45 : decode cX11_toBeDone 45 = .ok (.getfield 59, 3) := by decide +kernel
theorem dX11_toBeDone_48 : decode cX11_toBeDone 48 = .ok (.aload_n 0, 1) := by decide +kernel
theorem dX11_toBeDone_49 : decode cX11_toBeDone 49 = .ok (.getfield 55, 3) := by decide +kernel
theorem dX11_toBeDone_52 : decode cX11_toBeDone 52 = .ok (.invokevirtual 220, 3) := by decide +kernel
theorem dX11_toBeDone_55 : decode cX11_toBeDone 55 = .ok (.aload_n 0, 1) := by decide +kernel
theorem dX11_toBeDone_56 : decode cX11_toBeDone 56 = .ok (.getfield 23, 3) := by decide +kernel
theorem dX11_toBeDone_59 : decode cX11_toBeDone 59 = .ok (.aload_n 0, 1) := by decide +kernel
theorem dX11_toBeDone_60 : decode cX11_toBeDone 60 = .ok (.getfield 59, 3) := by decide +kernel
theorem dX11_toBeDone_63 : decode cX11_toBeDone 63 = .ok (.iload_n 2, 1) := by decide +kernel
theorem dX11_toBeDone_64 : decode cX11_toBeDone 64 = .ok (.invokevirtual 234, 3) := by decide +kernel
theorem dX11_toBeDone_67 : decode cX11_toBeDone 67 = .ok (.aload_n 0, 1) := by decide +kernel
theorem dX11_toBeDone_68 : decode cX11_toBeDone 68 = .ok (.getfield 23, 3) := by decide +kernel
theorem dX11_toBeDone_71 : decode cX11_toBeDone 71 = .ok (.aload_n 0, 1) := by decide +kernel
theorem dX11_toBeDone_72 : decode cX11_toBeDone 72 = .ok (.getfield 59, 3) := by decide +kernel
theorem dX11_toBeDone_75 : decode cX11_toBeDone 75 = .ok (.invokevirtual 169, 3) := by decide +kernel
theorem dX11_toBeDone_78 : decode cX11_toBeDone 78 = .ok (.ifCond .eq 6, 3) := by decide +kernel
theorem dX11_toBeDone_81 : decode cX11_toBeDone 81 = .ok (.iload 5, 2) := by decide +kernel
theorem dX11_toBeDone_83 : decode cX11_toBeDone 83 = .ok (.ireturn, 1) := by decide +kernel
theorem dX11_toBeDone_84 : decode cX11_toBeDone 84 = .ok (.iload 4, 2) := by decide +kernel
theorem dX11_toBeDone_86 : decode cX11_toBeDone 86 = .ok (.ifCond .ne 5, 3) := by decide +kernel
theorem dX11_toBeDone_89 : decode cX11_toBeDone 89 = .ok (.iconst (-1), 1) := by decide +kernel
theorem dX11_toBeDone_90 : decode cX11_toBeDone 90 = .ok (.ireturn, 1) := by decide +kernel
theorem dX11_toBeDone_91 : decode cX11_toBeDone 91 = .ok (.aload_n 0, 1) := by decide +kernel
theorem dX11_toBeDone_92 : decode cX11_toBeDone 92 = .ok (.iload 4, 2) := by decide +kernel
theorem dX11_toBeDone_94 : decode cX11_toBeDone 94 = .ok (.invokevirtual 275, 3) := by decide +kernel
theorem dX11_toBeDone_97 : decode cX11_toBeDone 97 = .ok (.istore 4, 2) := by decide +kernel
theorem dX11_toBeDone_99 : decode cX11_toBeDone 99 = .ok (.iinc 5 1, 3) := by decide +kernel
theorem dX11_toBeDone_102 : decode cX11_toBeDone 102 = .ok (.goto (-65), 3) := by decide +kernel
theorem dX11_toBeDone_105 : decode cX11_toBeDone 105 = .ok (.iconst (-1), 1) := by decide +kernel
theorem dX11_toBeDone_106 : decode cX11_toBeDone 106 = .ok (.ireturn, 1) := by decide +kernel
theorem dX11_fits_0 : decode cX11_fits 0 = .ok (.aload_n 0, 1) := by decide +kernel
theorem dX11_fits_1 : decode cX11_fits 1 = .ok (.iload_n 1, 1) := by decide +kernel
theorem dX11_fits_2 : decode cX11_fits 2 = .ok (.invokevirtual 193, 3) := by decide +kernel
theorem dX11_fits_5 : decode cX11_fits 5 = .ok (.astore_n 3, 1) := by decide +kernel
theorem dX11_fits_6 : decode cX11_fits 6 = .ok (.aload_n 0, 1) := by decide +kernel
theorem dX11_fits_7 : decode cX11_fits 7 = .ok (.iload_n 2, 1) := by decide +kernel
theorem dX11_fits_8 : decode cX11_fits 8 = .ok (.invokevirtual 173, 3) := by decide +kernel
theorem dX11_fits_11 : decode cX11_fits 11 = .ok (.aload_n 0, 1) := by decide +kernel
theorem dX11_fits_12 : decode cX11_fits 12 = .ok (.getfield 23, 3) := by decide +kernel
theorem dX11_fits_15 : decode cX11_fits 15 = .ok (.aload_n 3, 1) := by decide +kernel
theorem dX11_fits_16 : decode cX11_fits 16 = .ok (.getfield 197, 3) := by decide +kernel
theorem dX11_fits_19 : decode cX11_fits 19 = .ok (.iload_n 2, 1) := by decide +kernel
theorem dX11_fits_20 : decode cX11_fits 20 = .ok (.invokevirtual 286, 3) := by decide +kernel
theorem dX11_fits_23 : decode cX11_fits 23 = .ok (.ireturn, 1) := by decide +kernel
theorem dX11_repertoire_0 : decode cX11_repertoire 0 = .ok (.aload_n 0, 1) := by decide +kernel
theorem dX11_repertoire_1 : decode cX11_repertoire 1 = .ok (.iload_n 1, 1) := by decide +kernel
theorem dX11_repertoire_2 : decode cX11_repertoire 2 = .ok (.invokevirtual 193, 3) := by decide +kernel
theorem dX11_repertoire_5 : decode cX11_repertoire 5 = .ok (.astore_n 2, 1) := by decide +kernel
theorem dX11_repertoire_6 : decode cX11_repertoire 6 = .ok (.iconst 0, 1) := by decide +kernel
theorem dX11_repertoire_7 : decode cX11_repertoire 7 = .ok (.istore_n 3, 1) := by decide +kernel
theorem dX11_repertoire_8 : decode cX11_repertoire 8 = .ok (.iconst 0, 1) := by decide +kernel
theorem dX11_repertoire_9 : decode cX11_repertoire 9 = .ok (.istore 4, 2) := by decide +kernel
theorem dX11_repertoire_11 : decode cX11_repertoire 11 = .ok (.iload 4, 2) := by decide +kernel
theorem dX11_repertoire_13 : decode cX11_repertoire 13 = .ok (.aload_n 0, 1) := by decide +kernel
theorem dX11_repertoire_14 : decode cX11_repertoire 14 = .ok (.getfield 23, 3) := by decide +kernel
theorem dX11_repertoire_17 : decode cX11_repertoire 17 = .ok (.getfield 129, 3) := by decide +kernel
theorem dX11_repertoire_20 : decode cX11_repertoire 20 = .ok (.if_icmp .ge 42, 3) := by decide +kernel
theorem dX11_repertoire_23 : decode cX11_repertoire 23 = .ok (.aload_n 0, 1) := by decide +kernel
theorem dX11_repertoire_24 : decode cX11_repertoire 24 = .ok (.getfield 23, 3) := by decide +kernel
theorem dX11_repertoire_27 : decode cX11_repertoire 27 = .ok (.aload_n 2, 1) := by decide +kernel
theorem dX11_repertoire_28 : decode cX11_repertoire 28 = .ok (.getfield 197, 3) := by decide +kernel
theorem dX11_repertoire_31 : decode cX11_repertoire 31 = .ok (.iload 4, 2) := by decide +kernel
theorem dX11_repertoire_33 : decode cX11_repertoire 33 = .ok (.invokevirtual 286, 3) := by decide +kernel
theorem dX11_repertoire_36 : decode cX11_repertoire 36 = .ok (.aload_n 0, 1) := by decide +kernel
theorem dX11_repertoire_37 : decode cX11_repertoire 37 = .ok (.getfield 23, 3) := by decide +kernel
theorem dX11_repertoire_40 : decode cX11_repertoire 40 = .ok (.getfield 176, 3) := by decide +kernel
theorem dX11_repertoire_43 : decode cX11_repertoire 43 = .ok (.iload 4, 2) := by decide +kernel
theorem dX11_repertoire_45 : decode cX11_repertoire 45 = .ok (.iaload, 1) := by decide +kernel
theorem dX11_repertoire_46 : decode cX11_repertoire 46 = .ok (.if_icmp .ne 10, 3) := by decide +kernel
theorem dX11_repertoire_49 : decode cX11_repertoire 49 = .ok (.iload_n 3, 1) := by decide +kernel
theorem dX11_repertoire_50 : decode cX11_repertoire 50 = .ok (.iconst 1, 1) := by decide +kernel
theorem dX11_repertoire_51 : decode cX11_repertoire 51 = .ok (.iload 4, 2) := by decide +kernel
theorem dX11_repertoire_53 : decode cX11_repertoire 53 = .ok (.ishl, 1) := by decide +kernel
theorem dX11_repertoire_54 : decode cX11_repertoire 54 = .ok (.ior, 1) := by decide +kernel
theorem dX11_repertoire_55 : decode cX11_repertoire 55 = .ok (.istore_n 3, 1) := by decide +kernel
theorem dX11_repertoire_56 : decode cX11_repertoire 56 = .ok (.iinc 4 1, 3) := by decide +kernel
theorem dX11_repertoire_59 : decode cX11_repertoire 59 = .ok (.goto (-48), 3) := by decide +kernel
theorem dX11_repertoire_62 : decode cX11_repertoire 62 = .ok (.iload_n 3, 1) := by decide +kernel
theorem dX11_repertoire_63 : decode cX11_repertoire 63 = .ok (.ireturn, 1) := by decide +kernel
theorem dX11_choice_0 : decode cX11_choice 0 = .ok (.iload_n 1, 1) := by decide +kernel
theorem dX11_choice_1 : decode cX11_choice 1 = .ok (.iconst (-1), 1) := by decide +kernel
theorem dX11_choice_2 : decode cX11_choice 2 = .ok (.if_icmp .eq 9, 3) := by decide +kernel
theorem dX11_choice_5 : decode cX11_choice 5 = .ok (.aload_n 0, 1) := by decide +kernel
theorem dX11_choice_6 : decode cX11_choice 6 = .ok (.iload_n 1, 1) := by decide +kernel
theorem dX11_choice_7 : decode cX11_choice 7 = .ok (.invokevirtual 193, 3) := by decide +kernel
theorem dX11_choice_10 : decode cX11_choice 10 = .ok (.pop, 1) := by decide +kernel
theorem dX11_choice_11 : decode cX11_choice 11 = .ok (.aload_n 0, 1) := by decide +kernel
theorem dX11_choice_12 : decode cX11_choice 12 = .ok (.getfield 82, 3) := by decide +kernel
theorem dX11_choice_15 : decode cX11_choice 15 = .ok (.aload_n 0, 1) := by decide +kernel
theorem dX11_choice_16 : decode cX11_choice 16 = .ok (.getfield 23, 3) := by decide +kernel
theorem dX11_choice_19 : decode cX11_choice 19 = .ok (.invokevirtual 289, 3) := by decide +kernel
theorem dX11_choice_22 : decode cX11_choice 22 = .ok (.iload_n 1, 1) := by decide +kernel
theorem dX11_choice_23 : decode cX11_choice 23 = .ok (.iconst (-1), 1) := by decide +kernel
theorem dX11_choice_24 : decode cX11_choice 24 = .ok (.if_icmp .ne 13, 3) := by decide +kernel
theorem dX11_choice_27 : decode cX11_choice 27 = .ok (.aload_n 0, 1) := by decide +kernel
theorem dX11_choice_28 : decode cX11_choice 28 = .ok (.getfield 82, 3) := by decide +kernel
theorem dX11_choice_31 : decode cX11_choice 31 = .ok (.invokevirtual 293, 3) := by decide +kernel
theorem dX11_choice_34 : decode cX11_choice 34 = .ok (.goto 15, 3) := by decide +kernel
theorem dX11_choice_37 : decode cX11_choice 37 = .ok (.aload_n 0, 1) := by decide +kernel
theorem dX11_choice_38 : decode cX11_choice 38 = .ok (.getfield 82, 3) := by decide +kernel
theorem dX11_choice_41 : decode cX11_choice 41 = .ok (.aload_n 0, 1) := by decide +kernel
theorem dX11_choice_42 : decode cX11_choice 42 = .ok (.getfield 23, 3) := by decide +kernel
theorem dX11_choice_45 : decode cX11_choice 45 = .ok (.iload_n 1, 1) := by decide +kernel
theorem dX11_choice_46 : decode cX11_choice 46 = .ok (.invokevirtual 296, 3) := by decide +kernel
theorem dX11_choice_49 : decode cX11_choice 49 = .ok (.ireturn, 1) := by decide +kernel
theorem dX11_hardest_0 : decode cX11_hardest 0 = .ok (.iconst (-1), 1) := by decide +kernel
theorem dX11_hardest_1 : decode cX11_hardest 1 = .ok (.istore_n 1, 1) := by decide +kernel
theorem dX11_hardest_2 : decode cX11_hardest 2 = .ok (.iconst 0, 1) := by decide +kernel
theorem dX11_hardest_3 : decode cX11_hardest 3 = .ok (.istore_n 2, 1) := by decide +kernel
theorem dX11_hardest_4 : decode cX11_hardest 4 = .ok (.iconst 0, 1) := by decide +kernel
theorem dX11_hardest_5 : decode cX11_hardest 5 = .ok (.istore_n 3, 1) := by decide +kernel
theorem dX11_hardest_6 : decode cX11_hardest 6 = .ok (.iload_n 3, 1) := by decide +kernel
theorem dX11_hardest_7 : decode cX11_hardest 7 = .ok (.aload_n 0, 1) := by decide +kernel
theorem dX11_hardest_8 : decode cX11_hardest 8 = .ok (.getfield 23, 3) := by decide +kernel
theorem dX11_hardest_11 : decode cX11_hardest 11 = .ok (.getfield 129, 3) := by decide +kernel
theorem dX11_hardest_14 : decode cX11_hardest 14 = .ok (.if_icmp .ge 59, 3) := by decide +kernel
theorem dX11_hardest_17 : decode cX11_hardest 17 = .ok (.iconst 0, 1) := by decide +kernel
theorem dX11_hardest_18 : decode cX11_hardest 18 = .ok (.istore 4, 2) := by decide +kernel
theorem dX11_hardest_20 : decode cX11_hardest 20 = .ok (.iload 4, 2) := by decide +kernel
theorem dX11_hardest_22 : decode cX11_hardest 22 = .ok (.aload_n 0, 1) := by decide +kernel
theorem dX11_hardest_23 : decode cX11_hardest 23 = .ok (.getfield 23, 3) := by decide +kernel
theorem dX11_hardest_26 : decode cX11_hardest 26 = .ok (.getfield 176, 3) := by decide +kernel
theorem dX11_hardest_29 : decode cX11_hardest 29 = .ok (.iload_n 3, 1) := by decide +kernel
theorem dX11_hardest_30 : decode cX11_hardest 30 = .ok (.iaload, 1) := by decide +kernel
theorem dX11_hardest_31 : decode cX11_hardest 31 = .ok (.if_icmp .ge 36, 3) := by decide +kernel
theorem dX11_hardest_34 : decode cX11_hardest 34 = .ok (.aload_n 0, 1) := by decide +kernel
theorem dX11_hardest_35 : decode cX11_hardest 35 = .ok (.getfield 23, 3) := by decide +kernel
theorem dX11_hardest_38 : decode cX11_hardest 38 = .ok (.iload_n 3, 1) := by decide +kernel
theorem dX11_hardest_39 : decode cX11_hardest 39 = .ok (.iload 4, 2) := by decide +kernel
theorem dX11_hardest_41 : decode cX11_hardest 41 = .ok (.invokevirtual 189, 3) := by decide +kernel
theorem dX11_hardest_44 : decode cX11_hardest 44 = .ok (.iload_n 2, 1) := by decide +kernel
theorem dX11_hardest_45 : decode cX11_hardest 45 = .ok (.if_icmp .le 16, 3) := by decide +kernel
theorem dX11_hardest_48 : decode cX11_hardest 48 = .ok (.aload_n 0, 1) := by decide +kernel
theorem dX11_hardest_49 : decode cX11_hardest 49 = .ok (.getfield 23, 3) := by decide +kernel
theorem dX11_hardest_52 : decode cX11_hardest 52 = .ok (.iload_n 3, 1) := by decide +kernel
theorem dX11_hardest_53 : decode cX11_hardest 53 = .ok (.iload 4, 2) := by decide +kernel
theorem dX11_hardest_55 : decode cX11_hardest 55 = .ok (.invokevirtual 189, 3) := by decide +kernel
theorem dX11_hardest_58 : decode cX11_hardest 58 = .ok (.istore_n 2, 1) := by decide +kernel
theorem dX11_hardest_59 : decode cX11_hardest 59 = .ok (.iload_n 3, 1) := by decide +kernel
theorem dX11_hardest_60 : decode cX11_hardest 60 = .ok (.istore_n 1, 1) := by decide +kernel
theorem dX11_hardest_61 : decode cX11_hardest 61 = .ok (.iinc 4 1, 3) := by decide +kernel
theorem dX11_hardest_64 : decode cX11_hardest 64 = .ok (.goto (-44), 3) := by decide +kernel
theorem dX11_hardest_67 : decode cX11_hardest 67 = .ok (.iinc 3 1, 3) := by decide +kernel
theorem dX11_hardest_70 : decode cX11_hardest 70 = .ok (.goto (-64), 3) := by decide +kernel
theorem dX11_hardest_73 : decode cX11_hardest 73 = .ok (.iload_n 1, 1) := by decide +kernel
theorem dX11_hardest_74 : decode cX11_hardest 74 = .ok (.ireturn, 1) := by decide +kernel
theorem dX11_concert_0 : decode cX11_concert 0 = .ok (.iload_n 2, 1) := by decide +kernel
theorem dX11_concert_1 : decode cX11_concert 1 = .ok (.ifCond .lt 12, 3) := by decide +kernel
theorem dX11_concert_4 : decode cX11_concert 4 = .ok (.iload_n 1, 1) := by decide +kernel
theorem dX11_concert_5 : decode cX11_concert 5 = .ok (.ifCond .lt 8, 3) := by decide +kernel
theorem dX11_concert_8 : decode cX11_concert 8 = .ok (.iload_n 1, 1) := by decide +kernel
theorem dX11_concert_9 : decode cX11_concert 9 = .ok (.iconst 1, 1) := by decide +kernel
theorem dX11_concert_10 : decode cX11_concert 10 = .ok (.if_icmp .le 14, 3) := by decide +kernel
theorem dX11_concert_13 : decode cX11_concert 13 = .ok (.new 104, 3) := by decide +kernel
theorem dX11_concert_16 : decode cX11_concert 16 = .ok (.dup, 1) := by decide +kernel
theorem dX11_concert_17 : decode cX11_concert 17 = .ok (.ldc_w 300, 3) := by decide +kernel
theorem dX11_concert_20 : decode cX11_concert 20 = .ok (.invokespecial 108, 3) := by decide +kernel
theorem dX11_concert_23 : decode cX11_concert 23 = .ok (.athrow, 1) := by decide +kernel
theorem dX11_concert_24 : decode cX11_concert 24 = .ok (.iload_n 1, 1) := by decide +kernel
theorem dX11_concert_25 : decode cX11_concert 25 = .ok (.ifCond .ne 10, 3) := by decide +kernel
theorem dX11_concert_28 : decode cX11_concert 28 = .ok (.aload_n 0, 1) := by decide +kernel
theorem dX11_concert_29 : decode cX11_concert 29 = .ok (.invokevirtual 148, 3) := by decide +kernel
theorem dX11_concert_32 : decode cX11_concert 32 = .ok (.goto 17, 3) := by decide +kernel
theorem dX11_concert_35 : decode cX11_concert 35 = .ok (.iconst 1, 1) := by decide +kernel
theorem dX11_concert_36 : decode cX11_concert 36 = .ok (.aload_n 0, 1) := by decide +kernel
theorem dX11_concert_37 : decode cX11_concert 37 = .ok (.getfield 23, 3) := by decide +kernel
theorem dX11_concert_40 : decode cX11_concert 40 = .ok (.getfield 132, 3) := by decide +kernel
theorem dX11_concert_43 : decode cX11_concert 43 = .ok (.getfield 135, 3) := by decide +kernel
theorem dX11_concert_46 : decode cX11_concert 46 = .ok (.ishl, 1) := by decide +kernel
theorem dX11_concert_47 : decode cX11_concert 47 = .ok (.iconst 1, 1) := by decide +kernel
theorem dX11_concert_48 : decode cX11_concert 48 = .ok (.isub, 1) := by decide +kernel
theorem dX11_concert_49 : decode cX11_concert 49 = .ok (.istore_n 3, 1) := by decide +kernel
theorem dX11_concert_50 : decode cX11_concert 50 = .ok (.iconst 0, 1) := by decide +kernel
theorem dX11_concert_51 : decode cX11_concert 51 = .ok (.istore 4, 2) := by decide +kernel
theorem dX11_concert_53 : decode cX11_concert 53 = .ok (.iload 4, 2) := by decide +kernel
theorem dX11_concert_55 : decode cX11_concert 55 = .ok (.aload_n 0, 1) := by decide +kernel
theorem dX11_concert_56 : decode cX11_concert 56 = .ok (.getfield 23, 3) := by decide +kernel
theorem dX11_concert_59 : decode cX11_concert 59 = .ok (.getfield 132, 3) := by decide +kernel
theorem dX11_concert_62 : decode cX11_concert 62 = .ok (.getfield 135, 3) := by decide +kernel
theorem dX11_concert_65 : decode cX11_concert 65 = .ok (.if_icmp .ge 33, 3) := by decide +kernel
theorem dX11_concert_68 : decode cX11_concert 68 = .ok (.iload_n 3, 1) := by decide +kernel
theorem dX11_concert_69 : decode cX11_concert 69 = .ok (.iload 4, 2) := by decide +kernel
theorem dX11_concert_71 : decode cX11_concert 71 = .ok (.ishr, 1) := by decide +kernel
theorem dX11_concert_72 : decode cX11_concert 72 = .ok (.iconst 1, 1) := by decide +kernel
theorem dX11_concert_73 : decode cX11_concert 73 = .ok (.iand, 1) := by decide +kernel
theorem dX11_concert_74 : decode cX11_concert 74 = .ok (.iconst 1, 1) := by decide +kernel
theorem dX11_concert_75 : decode cX11_concert 75 = .ok (.if_icmp .ne 17, 3) := by decide +kernel
theorem dX11_concert_78 : decode cX11_concert 78 = .ok (.aload_n 0, 1) := by decide +kernel
theorem dX11_concert_79 : decode cX11_concert 79 = .ok (.iload 4, 2) := by decide +kernel
theorem dX11_concert_81 : decode cX11_concert 81 = .ok (.iload_n 3, 1) := by decide +kernel
theorem dX11_concert_82 : decode cX11_concert 82 = .ok (.invokevirtual 302, 3) := by decide +kernel
theorem dX11_concert_85 : decode cX11_concert 85 = .ok (.iload_n 2, 1) := by decide +kernel
theorem dX11_concert_86 : decode cX11_concert 86 = .ok (.if_icmp .ne 6, 3) := by decide +kernel
theorem dX11_concert_89 : decode cX11_concert 89 = .ok (.iload 4, 2) := by decide +kernel
theorem dX11_concert_91 : decode cX11_concert 91 = .ok (.ireturn, 1) := by decide +kernel
theorem dX11_concert_92 : decode cX11_concert 92 = .ok (.iinc 4 1, 3) := by decide +kernel
theorem dX11_concert_95 : decode cX11_concert 95 = .ok (.goto (-42), 3) := by decide +kernel
theorem dX11_concert_98 : decode cX11_concert 98 = .ok (.iconst (-1), 1) := by decide +kernel
theorem dX11_concert_99 : decode cX11_concert 99 = .ok (.ireturn, 1) := by decide +kernel
theorem dX11_playAhead_0 : decode cX11_playAhead 0 = .ok (.aload_n 0, 1) := by decide +kernel
theorem dX11_playAhead_1 : decode cX11_playAhead 1 = .ok (.getfield 23, 3) := by decide +kernel
theorem dX11_playAhead_4 : decode cX11_playAhead 4 = .ok (.getfield 132, 3) := by decide +kernel
theorem dX11_playAhead_7 : decode cX11_playAhead 7 = .ok (.getfield 165, 3) := by decide +kernel
theorem dX11_playAhead_10 : decode cX11_playAhead 10 = .ok (.iload_n 1, 1) := by decide +kernel
theorem dX11_playAhead_11 : decode cX11_playAhead 11 = .ok (.aaload, 1) := by decide +kernel
theorem dX11_playAhead_12 : decode cX11_playAhead 12 = .ok (.getfield 197, 3) := by decide +kernel
theorem dX11_playAhead_15 : decode cX11_playAhead 15 = .ok (.istore_n 3, 1) := by decide +kernel
theorem dX11_playAhead_16 : decode cX11_playAhead 16 = .ok (.iconst 0, 1) := by decide +kernel
theorem dX11_playAhead_17 : decode cX11_playAhead 17 = .ok (.istore 4, 2) := by decide +kernel
theorem dX11_playAhead_19 : decode cX11_playAhead 19 = .ok (.iconst 0, 1) := by decide +kernel
theorem dX11_playAhead_20 : decode cX11_playAhead 20 = .ok (.istore 5, 2) := by decide +kernel
theorem dX11_playAhead_22 : decode cX11_playAhead 22 = .ok (.iload 5, 2) := by decide +kernel
theorem dX11_playAhead_24 : decode cX11_playAhead 24 = .ok (.aload_n 0, 1) := by decide +kernel
theorem dX11_playAhead_25 : decode cX11_playAhead 25 = .ok (.getfield 23, 3) := by decide +kernel
theorem dX11_playAhead_28 : decode cX11_playAhead 28 = .ok (.getfield 132, 3) := by decide +kernel
theorem dX11_playAhead_31 : decode cX11_playAhead 31 = .ok (.getfield 135, 3) := by decide +kernel
theorem dX11_playAhead_34 : decode cX11_playAhead 34 = .ok (.if_icmp .ge 70, 3) := by decide +kernel
theorem dX11_playAhead_37 : decode cX11_playAhead 37 = .ok (.aload_n 0, 1) := by decide +kernel
theorem dX11_playAhead_38 : decode cX11_playAhead 38 = .ok (.getfield 23, 3) := by decide +kernel
theorem dX11_playAhead_41 : decode cX11_playAhead 41 = .ok (.getfield 132, 3) := by decide +kernel
theorem dX11_playAhead_44 : decode cX11_playAhead 44 = .ok (.getfield 165, 3) := by decide +kernel
theorem dX11_playAhead_47 : decode cX11_playAhead 47 = .ok (.iload 5, 2) := by decide +kernel
theorem dX11_playAhead_49 : decode cX11_playAhead 49 = .ok (.aaload, 1) := by decide +kernel
theorem dX11_playAhead_50 : decode cX11_playAhead 50 = .ok (.getfield 197, 3) := by decide +kernel
theorem dX11_playAhead_53 : decode cX11_playAhead 53 = .ok (.istore 6, 2) := by decide +kernel
theorem dX11_playAhead_55 : decode cX11_playAhead 55 = .ok (.iload 6, 2) := by decide +kernel
theorem dX11_playAhead_57 : decode cX11_playAhead 57 = .ok (.iload_n 3, 1) := by decide +kernel
theorem dX11_playAhead_58 : decode cX11_playAhead 58 = .ok (.if_icmp .lt 15, 3) := by decide +kernel
theorem dX11_playAhead_61 : decode cX11_playAhead 61 = .ok (.iload 6, 2) := by decide +kernel
theorem dX11_playAhead_63 : decode cX11_playAhead 63 = .ok (.iload_n 3, 1) := by decide +kernel
theorem dX11_playAhead_64 : decode cX11_playAhead 64 = .ok (.if_icmp .ne 13, 3) := by decide +kernel
theorem dX11_playAhead_67 : decode cX11_playAhead 67 = .ok (.iload 5, 2) := by decide +kernel
theorem dX11_playAhead_69 : decode cX11_playAhead 69 = .ok (.iload_n 1, 1) := by decide +kernel
theorem dX11_playAhead_70 : decode cX11_playAhead 70 = .ok (.if_icmp .ge 7, 3) := by decide +kernel
theorem dX11_playAhead_73 : decode cX11_playAhead 73 = .ok (.iconst 1, 1) := by decide +kernel
theorem dX11_playAhead_74 : decode cX11_playAhead 74 = .ok (.goto 4, 3) := by decide +kernel
theorem dX11_playAhead_77 : decode cX11_playAhead 77 = .ok (.iconst 0, 1) := by decide +kernel
theorem dX11_playAhead_78 : decode cX11_playAhead 78 = .ok (.istore 7, 2) := by decide +kernel
theorem dX11_playAhead_80 : decode cX11_playAhead 80 = .ok (.iload 7, 2) := by decide +kernel
theorem dX11_playAhead_82 : decode cX11_playAhead 82 = .ok (.ifCond .eq 16, 3) := by decide +kernel
theorem dX11_playAhead_85 : decode cX11_playAhead 85 = .ok (.iload_n 2, 1) := by decide +kernel
theorem dX11_playAhead_86 : decode cX11_playAhead 86 = .ok (.iload 5, 2) := by decide +kernel
theorem dX11_playAhead_88 : decode cX11_playAhead 88 = .ok (.ishr, 1) := by decide +kernel
theorem dX11_playAhead_89 : decode cX11_playAhead 89 = .ok (.iconst 1, 1) := by decide +kernel
theorem dX11_playAhead_90 : decode cX11_playAhead 90 = .ok (.iand, 1) := by decide +kernel
theorem dX11_playAhead_91 : decode cX11_playAhead 91 = .ok (.iconst 1, 1) := by decide +kernel
theorem dX11_playAhead_92 : decode cX11_playAhead 92 = .ok (.if_icmp .ne 6, 3) := by decide +kernel
theorem dX11_playAhead_95 : decode cX11_playAhead 95 = .ok (.iinc 4 1, 3) := by decide +kernel
theorem dX11_playAhead_98 : decode cX11_playAhead 98 = .ok (.iinc 5 1, 3) := by decide +kernel
theorem dX11_playAhead_101 : decode cX11_playAhead 101 = .ok (.goto (-79), 3) := by decide +kernel
theorem dX11_playAhead_104 : decode cX11_playAhead 104 = .ok (.iload 4, 2) := by decide +kernel
theorem dX11_playAhead_106 : decode cX11_playAhead 106 = .ok (.ireturn, 1) := by decide +kernel
theorem dX11_duet_0 : decode cX11_duet 0 = .ok (.iconst (-1), 1) := by decide +kernel
theorem dX11_duet_1 : decode cX11_duet 1 = .ok (.istore_n 1, 1) := by decide +kernel
theorem dX11_duet_2 : decode cX11_duet 2 = .ok (.bipush 100, 2) := by decide +kernel
theorem dX11_duet_4 : decode cX11_duet 4 = .ok (.istore_n 2, 1) := by decide +kernel
theorem dX11_duet_5 : decode cX11_duet 5 = .ok (.iconst 0, 1) := by decide +kernel
theorem dX11_duet_6 : decode cX11_duet 6 = .ok (.istore_n 3, 1) := by decide +kernel
theorem dX11_duet_7 : decode cX11_duet 7 = .ok (.iload_n 3, 1) := by decide +kernel
theorem dX11_duet_8 : decode cX11_duet 8 = .ok (.aload_n 0, 1) := by decide +kernel
theorem dX11_duet_9 : decode cX11_duet 9 = .ok (.getfield 23, 3) := by decide +kernel
theorem dX11_duet_12 : decode cX11_duet 12 = .ok (.getfield 132, 3) := by decide +kernel
theorem dX11_duet_15 : decode cX11_duet 15 = .ok (.getfield 135, 3) := by decide +kernel
theorem dX11_duet_18 : decode cX11_duet 18 = .ok (.if_icmp .ge 89, 3) := by decide +kernel
theorem dX11_duet_21 : decode cX11_duet 21 = .ok (.iload_n 3, 1) := by decide +kernel
theorem dX11_duet_22 : decode cX11_duet 22 = .ok (.iconst 1, 1) := by decide +kernel
theorem dX11_duet_23 : decode cX11_duet 23 = .ok (.iadd, 1) := by decide +kernel
theorem dX11_duet_24 : decode cX11_duet 24 = .ok (.istore 4, 2) := by decide +kernel
theorem dX11_duet_26 : decode cX11_duet 26 = .ok (.iload 4, 2) := by decide +kernel
theorem dX11_duet_28 : decode cX11_duet 28 = .ok (.aload_n 0, 1) := by decide +kernel
theorem dX11_duet_29 : decode cX11_duet 29 = .ok (.getfield 23, 3) := by decide +kernel
theorem dX11_duet_32 : decode cX11_duet 32 = .ok (.getfield 132, 3) := by decide +kernel
theorem dX11_duet_35 : decode cX11_duet 35 = .ok (.getfield 135, 3) := by decide +kernel
theorem dX11_duet_38 : decode cX11_duet 38 = .ok (.if_icmp .ge 63, 3) := by decide +kernel
theorem dX11_duet_41 : decode cX11_duet 41 = .ok (.aload_n 0, 1) := by decide +kernel
theorem dX11_duet_42 : decode cX11_duet 42 = .ok (.getfield 23, 3) := by decide +kernel
theorem dX11_duet_45 : decode cX11_duet 45 = .ok (.getfield 132, 3) := by decide +kernel
theorem dX11_duet_48 : decode cX11_duet 48 = .ok (.getfield 165, 3) := by decide +kernel
theorem dX11_duet_51 : decode cX11_duet 51 = .ok (.iload_n 3, 1) := by decide +kernel
theorem dX11_duet_52 : decode cX11_duet 52 = .ok (.aaload, 1) := by decide +kernel
theorem dX11_duet_53 : decode cX11_duet 53 = .ok (.getfield 197, 3) := by decide +kernel
theorem dX11_duet_56 : decode cX11_duet 56 = .ok (.aload_n 0, 1) := by decide +kernel
theorem dX11_duet_57 : decode cX11_duet 57 = .ok (.getfield 23, 3) := by decide +kernel
theorem dX11_duet_60 : decode cX11_duet 60 = .ok (.getfield 132, 3) := by decide +kernel
theorem dX11_duet_63 : decode cX11_duet 63 = .ok (.getfield 165, 3) := by decide +kernel
theorem dX11_duet_66 : decode cX11_duet 66 = .ok (.iload 4, 2) := by decide +kernel
theorem dX11_duet_68 : decode cX11_duet 68 = .ok (.aaload, 1) := by decide +kernel
theorem dX11_duet_69 : decode cX11_duet 69 = .ok (.getfield 197, 3) := by decide +kernel
theorem dX11_duet_72 : decode cX11_duet 72 = .ok (.isub, 1) := by decide +kernel
theorem dX11_duet_73 : decode cX11_duet 73 = .ok (.invokestatic 305, 3) := by decide +kernel
theorem dX11_duet_76 : decode cX11_duet 76 = .ok (.istore 5, 2) := by decide +kernel
theorem dX11_duet_78 : decode cX11_duet 78 = .ok (.iload 5, 2) := by decide +kernel
theorem dX11_duet_80 : decode cX11_duet 80 = .ok (.iload_n 2, 1) := by decide +kernel
theorem dX11_duet_81 : decode cX11_duet 81 = .ok (.if_icmp .ge 14, 3) := by decide +kernel
theorem dX11_duet_84 : decode cX11_duet 84 = .ok (.iload 5, 2) := by decide +kernel
theorem dX11_duet_86 : decode cX11_duet 86 = .ok (.istore_n 2, 1) := by decide +kernel
theorem dX11_duet_87 : decode cX11_duet 87 = .ok (.bipush 10, 2) := by decide +kernel
theorem dX11_duet_89 : decode cX11_duet 89 = .ok (.iload_n 3, 1) := by decide +kernel
theorem dX11_duet_90 : decode cX11_duet 90 = .ok (.imul, 1) := by decide +kernel
theorem dX11_duet_91 : decode cX11_duet 91 = .ok (.iload 4, 2) := by decide +kernel
theorem dX11_duet_93 : decode cX11_duet 93 = .ok (.iadd, 1) := by decide +kernel
theorem dX11_duet_94 : decode cX11_duet 94 = .ok (.istore_n 1, 1) := by decide +kernel
theorem dX11_duet_95 : decode cX11_duet 95 = .ok (.iinc 4 1, 3) := by decide +kernel
theorem dX11_duet_98 : decode cX11_duet 98 = .ok (.goto (-72), 3) := by decide +kernel
theorem dX11_duet_101 : decode cX11_duet 101 = .ok (.iinc 3 1, 3) := by decide +kernel
theorem dX11_duet_104 : decode cX11_duet 104 = .ok (.goto (-97), 3) := by decide +kernel
theorem dX11_duet_107 : decode cX11_duet 107 = .ok (.iload_n 1, 1) := by decide +kernel
theorem dX11_duet_108 : decode cX11_duet 108 = .ok (.ireturn, 1) := by decide +kernel
theorem dX11_next_0 : decode cX11_next 0 = .ok (.aload_n 0, 1) := by decide +kernel
theorem dX11_next_1 : decode cX11_next 1 = .ok (.iload_n 1, 1) := by decide +kernel
theorem dX11_next_2 : decode cX11_next 2 = .ok (.invokevirtual 193, 3) := by decide +kernel
theorem dX11_next_5 : decode cX11_next 5 = .ok (.astore_n 2, 1) := by decide +kernel
theorem dX11_next_6 : decode cX11_next 6 = .ok (.aload_n 0, 1) := by decide +kernel
theorem dX11_next_7 : decode cX11_next 7 = .ok (.getfield 55, 3) := by decide +kernel
theorem dX11_next_10 : decode cX11_next 10 = .ok (.aload_n 2, 1) := by decide +kernel
theorem dX11_next_11 : decode cX11_next 11 = .ok (.invokevirtual 220, 3) := by decide +kernel
theorem dX11_next_14 : decode cX11_next 14 = .ok (.iconst 1, 1) := by decide +kernel
theorem dX11_next_15 : decode cX11_next 15 = .ok (.istore_n 3, 1) := by decide +kernel
theorem dX11_next_16 : decode cX11_next 16 = .ok (.iload_n 3, 1) := by decide +kernel
theorem dX11_next_17 : decode cX11_next 17 = .ok (.bipush 60, 2) := by decide +kernel
theorem dX11_next_19 : decode cX11_next 19 = .ok (.if_icmp .gt 37, 3) := by decide +kernel
theorem dX11_next_22 : decode cX11_next 22 = .ok (.aload_n 0, 1) := by decide +kernel
theorem dX11_next_23 : decode cX11_next 23 = .ok (.getfield 23, 3) := by decide +kernel
theorem dX11_next_26 : decode cX11_next 26 = .ok (.aload_n 0, 1) := by decide +kernel
theorem dX11_next_27 : decode cX11_next 27 = .ok (.getfield 55, 3) := by decide +kernel
theorem dX11_next_30 : decode cX11_next 30 = .ok (.iconst 1, 1) := by decide +kernel
theorem dX11_next_31 : decode cX11_next 31 = .ok (.invokevirtual 234, 3) := by decide +kernel
theorem dX11_next_34 : decode cX11_next 34 = .ok (.aload_n 0, 1) := by decide +kernel
theorem dX11_next_35 : decode cX11_next 35 = .ok (.getfield 55, 3) := by decide +kernel
theorem dX11_next_38 : decode cX11_next 38 = .ok (.getfield 206, 3) := by decide +kernel
theorem dX11_next_41 : decode cX11_next 41 = .ok (.aload_n 2, 1) := by decide +kernel
theorem dX11_next_42 : decode cX11_next 42 = .ok (.getfield 206, 3) := by decide +kernel
theorem dX11_next_45 : decode cX11_next 45 = .ok (.if_icmp .le 5, 3) := by decide +kernel
theorem dX11_next_48 : decode cX11_next 48 = .ok (.iload_n 3, 1) := by decide +kernel
theorem dX11_next_49 : decode cX11_next 49 = .ok (.ireturn, 1) := by decide +kernel
theorem dX11_next_50 : decode cX11_next 50 = .ok (.iinc 3 1, 3) := by decide +kernel
theorem dX11_next_53 : decode cX11_next 53 = .ok (.goto (-37), 3) := by decide +kernel
theorem dX11_next_56 : decode cX11_next 56 = .ok (.iconst (-1), 1) := by decide +kernel
theorem dX11_next_57 : decode cX11_next 57 = .ok (.ireturn, 1) := by decide +kernel
theorem dX11_rush_0 : decode cX11_rush 0 = .ok (.iload_n 2, 1) := by decide +kernel
theorem dX11_rush_1 : decode cX11_rush 1 = .ok (.iconst 1, 1) := by decide +kernel
theorem dX11_rush_2 : decode cX11_rush 2 = .ok (.invokestatic 251, 3) := by decide +kernel
theorem dX11_rush_5 : decode cX11_rush 5 = .ok (.iload_n 1, 1) := by decide +kernel
theorem dX11_rush_6 : decode cX11_rush 6 = .ok (.iconst 1, 1) := by decide +kernel
theorem dX11_rush_7 : decode cX11_rush 7 = .ok (.bipush 60, 2) := by decide +kernel
theorem dX11_rush_9 : decode cX11_rush 9 = .ok (.invokestatic 255, 3) := by decide +kernel
theorem dX11_rush_12 : decode cX11_rush 12 = .ok (.aload_n 0, 1) := by decide +kernel
theorem dX11_rush_13 : decode cX11_rush 13 = .ok (.iload_n 1, 1) := by decide +kernel
theorem dX11_rush_14 : decode cX11_rush 14 = .ok (.invokevirtual 310, 3) := by decide +kernel
theorem dX11_rush_17 : decode cX11_rush 17 = .ok (.iconst 1, 1) := by decide +kernel
theorem dX11_rush_18 : decode cX11_rush 18 = .ok (.istore_n 3, 1) := by decide +kernel
theorem dX11_rush_19 : decode cX11_rush 19 = .ok (.iconst 2, 1) := by decide +kernel
theorem dX11_rush_20 : decode cX11_rush 20 = .ok (.istore 4, 2) := by decide +kernel
theorem dX11_rush_22 : decode cX11_rush 22 = .ok (.iload 4, 2) := by decide +kernel
theorem dX11_rush_24 : decode cX11_rush 24 = .ok (.iload_n 1, 1) := by decide +kernel
theorem dX11_rush_25 : decode cX11_rush 25 = .ok (.if_icmp .gt 28, 3) := by decide +kernel
theorem dX11_rush_28 : decode cX11_rush 28 = .ok (.aload_n 0, 1) := by decide +kernel
theorem dX11_rush_29 : decode cX11_rush 29 = .ok (.getfield 69, 3) := by decide +kernel
theorem dX11_rush_32 : decode cX11_rush 32 = .ok (.iload 4, 2) := by decide +kernel
theorem dX11_rush_34 : decode cX11_rush 34 = .ok (.iaload, 1) := by decide +kernel
theorem dX11_rush_35 : decode cX11_rush 35 = .ok (.aload_n 0, 1) := by decide +kernel
theorem dX11_rush_36 : decode cX11_rush 36 = .ok (.getfield 69, 3) := by decide +kernel
theorem dX11_rush_39 : decode cX11_rush 39 = .ok (.iload_n 3, 1) := by decide +kernel
theorem dX11_rush_40 : decode cX11_rush 40 = .ok (.iaload, 1) := by decide +kernel
theorem dX11_rush_41 : decode cX11_rush 41 = .ok (.if_icmp .le 6, 3) := by decide +kernel
theorem dX11_rush_44 : decode cX11_rush 44 = .ok (.iload 4, 2) := by decide +kernel
theorem dX11_rush_46 : decode cX11_rush 46 = .ok (.istore_n 3, 1) := by decide +kernel
theorem dX11_rush_47 : decode cX11_rush 47 = .ok (.iinc 4 1, 3) := by decide +kernel
theorem dX11_rush_50 : decode cX11_rush 50 = .ok (.goto (-28), 3) := by decide +kernel
theorem dX11_rush_53 : decode cX11_rush 53 = .ok (.iload_n 2, 1) := by decide +kernel
theorem dX11_rush_54 : decode cX11_rush 54 = .ok (.ifCond .ne 7, 3) := by decide +kernel
theorem dX11_rush_57 : decode cX11_rush 57 = .ok (.iload_n 3, 1) := by decide +kernel
theorem dX11_rush_58 : decode cX11_rush 58 = .ok (.goto 9, 3) := by decide +kernel
theorem dX11_rush_61 : decode cX11_rush 61 = .ok (.aload_n 0, 1) := by decide +kernel
theorem dX11_rush_62 : decode cX11_rush 62 = .ok (.getfield 69, 3) := by decide +kernel
theorem dX11_rush_65 : decode cX11_rush 65 = .ok (.iload_n 3, 1) := by decide +kernel
theorem dX11_rush_66 : decode cX11_rush 66 = .ok (.iaload, 1) := by decide +kernel
theorem dX11_rush_67 : decode cX11_rush 67 = .ok (.ireturn, 1) := by decide +kernel
theorem dX11_tallyBars_0 : decode cX11_tallyBars 0 = .ok (.iconst 1, 1) := by decide +kernel
theorem dX11_tallyBars_1 : decode cX11_tallyBars 1 = .ok (.istore_n 2, 1) := by decide +kernel
theorem dX11_tallyBars_2 : decode cX11_tallyBars 2 = .ok (.iload_n 2, 1) := by decide +kernel
theorem dX11_tallyBars_3 : decode cX11_tallyBars 3 = .ok (.iload_n 1, 1) := by decide +kernel
theorem dX11_tallyBars_4 : decode cX11_tallyBars 4 = .ok (.if_icmp .gt 16, 3) := by decide +kernel
theorem dX11_tallyBars_7 : decode cX11_tallyBars 7 = .ok (.aload_n 0, 1) := by decide +kernel
theorem dX11_tallyBars_8 : decode cX11_tallyBars 8 = .ok (.getfield 69, 3) := by decide +kernel
theorem dX11_tallyBars_11 : decode cX11_tallyBars 11 = .ok (.iload_n 2, 1) := by decide +kernel
theorem dX11_tallyBars_12 : decode cX11_tallyBars 12 = .ok (.iconst 0, 1) := by decide +kernel
theorem dX11_tallyBars_13 : decode cX11_tallyBars 13 = .ok (.iastore, 1) := by decide +kernel
theorem dX11_tallyBars_14 : decode cX11_tallyBars 14 = .ok (.iinc 2 1, 3) := by decide +kernel
theorem dX11_tallyBars_17 : decode cX11_tallyBars 17 = .ok (.goto (-15), 3) := by decide +kernel
theorem dX11_tallyBars_20 : decode cX11_tallyBars 20 = .ok (.iconst 0, 1) := by decide +kernel
theorem dX11_tallyBars_21 : decode cX11_tallyBars 21 = .ok (.istore_n 2, 1) := by decide +kernel
theorem dX11_tallyBars_22 : decode cX11_tallyBars 22 = .ok (.iload_n 2, 1) := by decide +kernel
theorem dX11_tallyBars_23 : decode cX11_tallyBars 23 = .ok (.aload_n 0, 1) := by decide +kernel
theorem dX11_tallyBars_24 : decode cX11_tallyBars 24 = .ok (.getfield 23, 3) := by decide +kernel
theorem dX11_tallyBars_27 : decode cX11_tallyBars 27 = .ok (.getfield 132, 3) := by decide +kernel
theorem dX11_tallyBars_30 : decode cX11_tallyBars 30 = .ok (.getfield 135, 3) := by decide +kernel
theorem dX11_tallyBars_33 : decode cX11_tallyBars 33 = .ok (.if_icmp .ge 81, 3) := by decide +kernel
theorem dX11_tallyBars_36 : decode cX11_tallyBars 36 = .ok (.aload_n 0, 1) := by decide +kernel
theorem dX11_tallyBars_37 : decode cX11_tallyBars 37 = .ok (.getfield 55, 3) := by decide +kernel
theorem dX11_tallyBars_40 : decode cX11_tallyBars 40 = .ok (.aload_n 0, 1) := by decide +kernel
theorem dX11_tallyBars_41 : decode cX11_tallyBars 41 = .ok (.getfield 23, 3) := by decide +kernel
theorem dX11_tallyBars_44 : decode cX11_tallyBars 44 = .ok (.getfield 132, 3) := by decide +kernel
theorem dX11_tallyBars_47 : decode cX11_tallyBars 47 = .ok (.getfield 165, 3) := by decide +kernel
theorem dX11_tallyBars_50 : decode cX11_tallyBars 50 = .ok (.iload_n 2, 1) := by decide +kernel
theorem dX11_tallyBars_51 : decode cX11_tallyBars 51 = .ok (.aaload, 1) := by decide +kernel
theorem dX11_tallyBars_52 : decode cX11_tallyBars 52 = .ok (.invokevirtual 220, 3) := by decide +kernel
theorem dX11_tallyBars_55 : decode cX11_tallyBars 55 = .ok (.iconst 1, 1) := by decide +kernel
theorem dX11_tallyBars_56 : decode cX11_tallyBars 56 = .ok (.istore_n 3, 1) := by decide +kernel
theorem dX11_tallyBars_57 : decode cX11_tallyBars 57 = .ok (.iload_n 3, 1) := by decide +kernel
theorem dX11_tallyBars_58 : decode cX11_tallyBars 58 = .ok (.iload_n 1, 1) := by decide +kernel
theorem dX11_tallyBars_59 : decode cX11_tallyBars 59 = .ok (.if_icmp .gt 49, 3) := by decide +kernel
theorem dX11_tallyBars_62 : decode cX11_tallyBars 62 = .ok (.aload_n 0, 1) := by decide +kernel
theorem dX11_tallyBars_63 : decode cX11_tallyBars 63 = .ok (.getfield 55, 3) := by decide +kernel
theorem dX11_tallyBars_66 : decode cX11_tallyBars 66 = .ok (.getfield 206, 3) := by decide +kernel
theorem dX11_tallyBars_69 : decode cX11_tallyBars 69 = .ok (.istore 4, 2) := by decide +kernel
theorem dX11_tallyBars_71 : decode cX11_tallyBars 71 = .ok (.aload_n 0, 1) := by decide +kernel
theorem dX11_tallyBars_72 : decode cX11_tallyBars 72 = .ok (.getfield 23, 3) := by decide +kernel
theorem dX11_tallyBars_75 : decode cX11_tallyBars 75 = .ok (.aload_n 0, 1) := by decide +kernel
theorem dX11_tallyBars_76 : decode cX11_tallyBars 76 = .ok (.getfield 55, 3) := by decide +kernel
theorem dX11_tallyBars_79 : decode cX11_tallyBars 79 = .ok (.iconst 1, 1) := by decide +kernel
theorem dX11_tallyBars_80 : decode cX11_tallyBars 80 = .ok (.invokevirtual 234, 3) := by decide +kernel
theorem dX11_tallyBars_83 : decode cX11_tallyBars 83 = .ok (.aload_n 0, 1) := by decide +kernel
theorem dX11_tallyBars_84 : decode cX11_tallyBars 84 = .ok (.getfield 69, 3) := by decide +kernel
theorem dX11_tallyBars_87 : decode cX11_tallyBars 87 = .ok (.iload_n 3, 1) := by decide +kernel
theorem dX11_tallyBars_88 : decode cX11_tallyBars 88 = .ok (.dup2, 1) := by decide +kernel
theorem dX11_tallyBars_89 : decode cX11_tallyBars 89 = .ok (.iaload, 1) := by decide +kernel
theorem dX11_tallyBars_90 : decode cX11_tallyBars 90 = .ok (.aload_n 0, 1) := by decide +kernel
theorem dX11_tallyBars_91 : decode cX11_tallyBars 91 = .ok (.getfield 55, 3) := by decide +kernel
theorem dX11_tallyBars_94 : decode cX11_tallyBars 94 = .ok (.getfield 206, 3) := by decide +kernel
theorem dX11_tallyBars_97 : decode cX11_tallyBars 97 = .ok (.iload 4, 2) := by decide +kernel
theorem dX11_tallyBars_99 : decode cX11_tallyBars 99 = .ok (.isub, 1) := by decide +kernel
theorem dX11_tallyBars_100 : decode cX11_tallyBars 100 = .ok (.iadd, 1) := by decide +kernel
theorem dX11_tallyBars_101 : decode cX11_tallyBars 101 = .ok (.iastore, 1) := by decide +kernel
theorem dX11_tallyBars_102 : decode cX11_tallyBars 102 = .ok (.iinc 3 1, 3) := by decide +kernel
theorem dX11_tallyBars_105 : decode cX11_tallyBars 105 = .ok (.goto (-48), 3) := by decide +kernel
theorem dX11_tallyBars_108 : decode cX11_tallyBars 108 = .ok (.iinc 2 1, 3) := by decide +kernel
theorem dX11_tallyBars_111 : decode cX11_tallyBars 111 = .ok (.goto (-89), 3) := by decide +kernel
theorem dX11_tallyBars_114 : decode cX11_tallyBars 114 = .ok (.return_, 1) := by decide +kernel
theorem dX11_sorest_0 : decode cX11_sorest 0 = .ok (.iload_n 1, 1) := by decide +kernel
theorem dX11_sorest_1 : decode cX11_sorest 1 = .ok (.iconst 0, 1) := by decide +kernel
theorem dX11_sorest_2 : decode cX11_sorest 2 = .ok (.bipush 60, 2) := by decide +kernel
theorem dX11_sorest_4 : decode cX11_sorest 4 = .ok (.invokestatic 255, 3) := by decide +kernel
theorem dX11_sorest_7 : decode cX11_sorest 7 = .ok (.aload_n 0, 1) := by decide +kernel
theorem dX11_sorest_8 : decode cX11_sorest 8 = .ok (.iload_n 1, 1) := by decide +kernel
theorem dX11_sorest_9 : decode cX11_sorest 9 = .ok (.iconst 1, 1) := by decide +kernel
theorem dX11_sorest_10 : decode cX11_sorest 10 = .ok (.invokevirtual 262, 3) := by decide +kernel
theorem dX11_sorest_13 : decode cX11_sorest 13 = .ok (.ireturn, 1) := by decide +kernel
theorem dX11_toGlove_0 : decode cX11_toGlove 0 = .ok (.aload_n 0, 1) := by decide +kernel
theorem dX11_toGlove_1 : decode cX11_toGlove 1 = .ok (.iload_n 1, 1) := by decide +kernel
theorem dX11_toGlove_2 : decode cX11_toGlove 2 = .ok (.invokevirtual 193, 3) := by decide +kernel
theorem dX11_toGlove_5 : decode cX11_toGlove 5 = .ok (.astore_n 2, 1) := by decide +kernel
theorem dX11_toGlove_6 : decode cX11_toGlove 6 = .ok (.iconst 0, 1) := by decide +kernel
theorem dX11_toGlove_7 : decode cX11_toGlove 7 = .ok (.istore_n 3, 1) := by decide +kernel
theorem dX11_toGlove_8 : decode cX11_toGlove 8 = .ok (.iload_n 3, 1) := by decide +kernel
theorem dX11_toGlove_9 : decode cX11_toGlove 9 = .ok (.bipush 9, 2) := by decide +kernel
theorem dX11_toGlove_11 : decode cX11_toGlove 11 = .ok (.if_icmp .gt 54, 3) := by decide +kernel
theorem dX11_toGlove_14 : decode cX11_toGlove 14 = .ok (.aload_n 0, 1) := by decide +kernel
theorem dX11_toGlove_15 : decode cX11_toGlove 15 = .ok (.getfield 55, 3) := by decide +kernel
theorem dX11_toGlove_18 : decode cX11_toGlove 18 = .ok (.aload_n 2, 1) := by decide +kernel
theorem dX11_toGlove_19 : decode cX11_toGlove 19 = .ok (.invokevirtual 220, 3) := by decide +kernel
theorem dX11_toGlove_22 : decode cX11_toGlove 22 = .ok (.aload_n 0, 1) := by decide +kernel
theorem dX11_toGlove_23 : decode cX11_toGlove 23 = .ok (.getfield 55, 3) := by decide +kernel
theorem dX11_toGlove_26 : decode cX11_toGlove 26 = .ok (.iload_n 3, 1) := by decide +kernel
theorem dX11_toGlove_27 : decode cX11_toGlove 27 = .ok (.ineg, 1) := by decide +kernel
theorem dX11_toGlove_28 : decode cX11_toGlove 28 = .ok (.invokevirtual 245, 3) := by decide +kernel
theorem dX11_toGlove_31 : decode cX11_toGlove 31 = .ok (.aload_n 0, 1) := by decide +kernel
theorem dX11_toGlove_32 : decode cX11_toGlove 32 = .ok (.getfield 23, 3) := by decide +kernel
theorem dX11_toGlove_35 : decode cX11_toGlove 35 = .ok (.aload_n 0, 1) := by decide +kernel
theorem dX11_toGlove_36 : decode cX11_toGlove 36 = .ok (.getfield 55, 3) := by decide +kernel
theorem dX11_toGlove_39 : decode cX11_toGlove 39 = .ok (.iconst 1, 1) := by decide +kernel
theorem dX11_toGlove_40 : decode cX11_toGlove 40 = .ok (.invokevirtual 234, 3) := by decide +kernel
theorem dX11_toGlove_43 : decode cX11_toGlove 43 = .ok (.aload_n 0, 1) := by decide +kernel
theorem dX11_toGlove_44 : decode cX11_toGlove 44 = .ok (.getfield 55, 3) := by decide +kernel
theorem dX11_toGlove_47 : decode cX11_toGlove 47 = .ok (.getfield 206, 3) := by decide +kernel
theorem dX11_toGlove_50 : decode cX11_toGlove 50 = .ok (.aload_n 2, 1) := by decide +kernel
theorem dX11_toGlove_51 : decode cX11_toGlove 51 = .ok (.getfield 206, 3) := by decide +kernel
theorem dX11_toGlove_54 : decode cX11_toGlove 54 = .ok (.if_icmp .le 5, 3) := by decide +kernel
theorem dX11_toGlove_57 : decode cX11_toGlove 57 = .ok (.iload_n 3, 1) := by decide +kernel
theorem dX11_toGlove_58 : decode cX11_toGlove 58 = .ok (.ireturn, 1) := by decide +kernel
theorem dX11_toGlove_59 : decode cX11_toGlove 59 = .ok (.iinc 3 1, 3) := by decide +kernel
theorem dX11_toGlove_62 : decode cX11_toGlove 62 = .ok (.goto (-54), 3) := by decide +kernel
theorem dX11_toGlove_65 : decode cX11_toGlove 65 = .ok (.iconst (-1), 1) := by decide +kernel
theorem dX11_toGlove_66 : decode cX11_toGlove 66 = .ok (.ireturn, 1) := by decide +kernel
theorem dX11_full_0 : decode cX11_full 0 = .ok (.iload_n 1, 1) := by decide +kernel
theorem dX11_full_1 : decode cX11_full 1 = .ok (.iconst 1, 1) := by decide +kernel
theorem dX11_full_2 : decode cX11_full 2 = .ok (.bipush 30, 2) := by decide +kernel
theorem dX11_full_4 : decode cX11_full 4 = .ok (.invokestatic 255, 3) := by decide +kernel
theorem dX11_full_7 : decode cX11_full 7 = .ok (.aload_n 0, 1) := by decide +kernel
theorem dX11_full_8 : decode cX11_full 8 = .ok (.getfield 23, 3) := by decide +kernel
theorem dX11_full_11 : decode cX11_full 11 = .ok (.getfield 132, 3) := by decide +kernel
theorem dX11_full_14 : decode cX11_full 14 = .ok (.iload_n 1, 1) := by decide +kernel
theorem dX11_full_15 : decode cX11_full 15 = .ok (.invokevirtual 144, 3) := by decide +kernel
theorem dX11_full_18 : decode cX11_full 18 = .ok (.ireturn, 1) := by decide +kernel
theorem dX11_empty_0 : decode cX11_empty 0 = .ok (.iload_n 1, 1) := by decide +kernel
theorem dX11_empty_1 : decode cX11_empty 1 = .ok (.iconst 1, 1) := by decide +kernel
theorem dX11_empty_2 : decode cX11_empty 2 = .ok (.bipush 30, 2) := by decide +kernel
theorem dX11_empty_4 : decode cX11_empty 4 = .ok (.invokestatic 255, 3) := by decide +kernel
theorem dX11_empty_7 : decode cX11_empty 7 = .ok (.aload_n 0, 1) := by decide +kernel
theorem dX11_empty_8 : decode cX11_empty 8 = .ok (.iload_n 1, 1) := by decide +kernel
theorem dX11_empty_9 : decode cX11_empty 9 = .ok (.iconst 0, 1) := by decide +kernel
theorem dX11_empty_10 : decode cX11_empty 10 = .ok (.invokevirtual 269, 3) := by decide +kernel
theorem dX11_empty_13 : decode cX11_empty 13 = .ok (.ireturn, 1) := by decide +kernel
theorem dX11_common_0 : decode cX11_common 0 = .ok (.aload_n 0, 1) := by decide +kernel
theorem dX11_common_1 : decode cX11_common 1 = .ok (.iload_n 1, 1) := by decide +kernel
theorem dX11_common_2 : decode cX11_common 2 = .ok (.invokevirtual 173, 3) := by decide +kernel
theorem dX11_common_5 : decode cX11_common 5 = .ok (.aload_n 0, 1) := by decide +kernel
theorem dX11_common_6 : decode cX11_common 6 = .ok (.iload_n 2, 1) := by decide +kernel
theorem dX11_common_7 : decode cX11_common 7 = .ok (.invokevirtual 173, 3) := by decide +kernel
theorem dX11_common_10 : decode cX11_common 10 = .ok (.aload_n 0, 1) := by decide +kernel
theorem dX11_common_11 : decode cX11_common 11 = .ok (.getfield 23, 3) := by decide +kernel
theorem dX11_common_14 : decode cX11_common 14 = .ok (.iload_n 1, 1) := by decide +kernel
theorem dX11_common_15 : decode cX11_common 15 = .ok (.iload_n 2, 1) := by decide +kernel
theorem dX11_common_16 : decode cX11_common 16 = .ok (.invokevirtual 313, 3) := by decide +kernel
theorem dX11_common_19 : decode cX11_common 19 = .ok (.ireturn, 1) := by decide +kernel
theorem dX11_work_0 : decode cX11_work 0 = .ok (.aload_n 0, 1) := by decide +kernel
theorem dX11_work_1 : decode cX11_work 1 = .ok (.iload_n 1, 1) := by decide +kernel
theorem dX11_work_2 : decode cX11_work 2 = .ok (.invokevirtual 173, 3) := by decide +kernel
theorem dX11_work_5 : decode cX11_work 5 = .ok (.iconst 0, 1) := by decide +kernel
theorem dX11_work_6 : decode cX11_work 6 = .ok (.istore_n 2, 1) := by decide +kernel
theorem dX11_work_7 : decode cX11_work 7 = .ok (.iconst 0, 1) := by decide +kernel
theorem dX11_work_8 : decode cX11_work 8 = .ok (.istore_n 3, 1) := by decide +kernel
theorem dX11_work_9 : decode cX11_work 9 = .ok (.iload_n 3, 1) := by decide +kernel
theorem dX11_work_10 : decode cX11_work 10 = .ok (.aload_n 0, 1) := by decide +kernel
theorem dX11_work_11 : decode cX11_work 11 = .ok (.getfield 23, 3) := by decide +kernel
theorem dX11_work_14 : decode cX11_work 14 = .ok (.getfield 176, 3) := by decide +kernel
theorem dX11_work_17 : decode cX11_work 17 = .ok (.iload_n 1, 1) := by decide +kernel
theorem dX11_work_18 : decode cX11_work 18 = .ok (.iaload, 1) := by decide +kernel
theorem dX11_work_19 : decode cX11_work 19 = .ok (.if_icmp .ge 21, 3) := by decide +kernel
theorem dX11_work_22 : decode cX11_work 22 = .ok (.iload_n 2, 1) := by decide +kernel
theorem dX11_work_23 : decode cX11_work 23 = .ok (.aload_n 0, 1) := by decide +kernel
theorem dX11_work_24 : decode cX11_work 24 = .ok (.getfield 23, 3) := by decide +kernel
theorem dX11_work_27 : decode cX11_work 27 = .ok (.iload_n 1, 1) := by decide +kernel
theorem dX11_work_28 : decode cX11_work 28 = .ok (.iload_n 3, 1) := by decide +kernel
theorem dX11_work_29 : decode cX11_work 29 = .ok (.invokevirtual 189, 3) := by decide +kernel
theorem dX11_work_32 : decode cX11_work 32 = .ok (.iadd, 1) := by decide +kernel
theorem dX11_work_33 : decode cX11_work 33 = .ok (.istore_n 2, 1) := by decide +kernel
theorem dX11_work_34 : decode cX11_work 34 = .ok (.iinc 3 1, 3) := by decide +kernel
theorem dX11_work_37 : decode cX11_work 37 = .ok (.goto (-28), 3) := by decide +kernel
theorem dX11_work_40 : decode cX11_work 40 = .ok (.iload_n 2, 1) := by decide +kernel
theorem dX11_work_41 : decode cX11_work 41 = .ok (.ireturn, 1) := by decide +kernel
theorem dX11_mates_0 : decode cX11_mates 0 = .ok (.aload_n 0, 1) := by decide +kernel
theorem dX11_mates_1 : decode cX11_mates 1 = .ok (.iload_n 1, 1) := by decide +kernel
theorem dX11_mates_2 : decode cX11_mates 2 = .ok (.invokevirtual 193, 3) := by decide +kernel
theorem dX11_mates_5 : decode cX11_mates 5 = .ok (.astore_n 2, 1) := by decide +kernel
theorem dX11_mates_6 : decode cX11_mates 6 = .ok (.iconst 0, 1) := by decide +kernel
theorem dX11_mates_7 : decode cX11_mates 7 = .ok (.istore_n 3, 1) := by decide +kernel
theorem dX11_mates_8 : decode cX11_mates 8 = .ok (.iconst 0, 1) := by decide +kernel
theorem dX11_mates_9 : decode cX11_mates 9 = .ok (.istore 4, 2) := by decide +kernel
theorem dX11_mates_11 : decode cX11_mates 11 = .ok (.iload 4, 2) := by decide +kernel
theorem dX11_mates_13 : decode cX11_mates 13 = .ok (.aload_n 0, 1) := by decide +kernel
theorem dX11_mates_14 : decode cX11_mates 14 = .ok (.getfield 23, 3) := by decide +kernel
theorem dX11_mates_17 : decode cX11_mates 17 = .ok (.getfield 132, 3) := by decide +kernel
theorem dX11_mates_20 : decode cX11_mates 20 = .ok (.getfield 135, 3) := by decide +kernel
theorem dX11_mates_23 : decode cX11_mates 23 = .ok (.if_icmp .ge 45, 3) := by decide +kernel
theorem dX11_mates_26 : decode cX11_mates 26 = .ok (.iload 4, 2) := by decide +kernel
theorem dX11_mates_28 : decode cX11_mates 28 = .ok (.iload_n 1, 1) := by decide +kernel
theorem dX11_mates_29 : decode cX11_mates 29 = .ok (.if_icmp .eq 33, 3) := by decide +kernel
theorem dX11_mates_32 : decode cX11_mates 32 = .ok (.aload_n 0, 1) := by decide +kernel
theorem dX11_mates_33 : decode cX11_mates 33 = .ok (.getfield 23, 3) := by decide +kernel
theorem dX11_mates_36 : decode cX11_mates 36 = .ok (.getfield 132, 3) := by decide +kernel
theorem dX11_mates_39 : decode cX11_mates 39 = .ok (.getfield 165, 3) := by decide +kernel
theorem dX11_mates_42 : decode cX11_mates 42 = .ok (.iload 4, 2) := by decide +kernel
theorem dX11_mates_44 : decode cX11_mates 44 = .ok (.aaload, 1) := by decide +kernel
theorem dX11_mates_45 : decode cX11_mates 45 = .ok (.getfield 203, 3) := by decide +kernel
theorem dX11_mates_48 : decode cX11_mates 48 = .ok (.aload_n 2, 1) := by decide +kernel
theorem dX11_mates_49 : decode cX11_mates 49 = .ok (.getfield 203, 3) := by decide +kernel
theorem dX11_mates_52 : decode cX11_mates 52 = .ok (.if_icmp .ne 10, 3) := by decide +kernel
theorem dX11_mates_55 : decode cX11_mates 55 = .ok (.iload_n 3, 1) := by decide +kernel
theorem dX11_mates_56 : decode cX11_mates 56 = .ok (.iconst 1, 1) := by decide +kernel
theorem dX11_mates_57 : decode cX11_mates 57 = .ok (.iload 4, 2) := by decide +kernel
theorem dX11_mates_59 : decode cX11_mates 59 = .ok (.ishl, 1) := by decide +kernel
theorem dX11_mates_60 : decode cX11_mates 60 = .ok (.ior, 1) := by decide +kernel
theorem dX11_mates_61 : decode cX11_mates 61 = .ok (.istore_n 3, 1) := by decide +kernel
theorem dX11_mates_62 : decode cX11_mates 62 = .ok (.iinc 4 1, 3) := by decide +kernel
theorem dX11_mates_65 : decode cX11_mates 65 = .ok (.goto (-54), 3) := by decide +kernel
theorem dX11_mates_68 : decode cX11_mates 68 = .ok (.iload_n 3, 1) := by decide +kernel
theorem dX11_mates_69 : decode cX11_mates 69 = .ok (.ireturn, 1) := by decide +kernel
theorem dX11_see_0 : decode cX11_see 0 = .ok (.aload_n 0, 1) := by decide +kernel
theorem dX11_see_1 : decode cX11_see 1 = .ok (.iload_n 1, 1) := by decide +kernel
theorem dX11_see_2 : decode cX11_see 2 = .ok (.invokevirtual 193, 3) := by decide +kernel
theorem dX11_see_5 : decode cX11_see 5 = .ok (.pop, 1) := by decide +kernel
theorem dX11_see_6 : decode cX11_see 6 = .ok (.iload_n 2, 1) := by decide +kernel
theorem dX11_see_7 : decode cX11_see 7 = .ok (.iconst 1, 1) := by decide +kernel
theorem dX11_see_8 : decode cX11_see 8 = .ok (.if_icmp .lt 23, 3) := by decide +kernel
theorem dX11_see_11 : decode cX11_see 11 = .ok (.iload_n 2, 1) := by decide +kernel
theorem dX11_see_12 : decode cX11_see 12 = .ok (.bipush 20, 2) := by decide +kernel
theorem dX11_see_14 : decode cX11_see 14 = .ok (.if_icmp .gt 17, 3) := by decide +kernel
theorem dX11_see_17 : decode cX11_see 17 = .ok (.iload_n 3, 1) := by decide +kernel
theorem dX11_see_18 : decode cX11_see 18 = .ok (.ifCond .lt 13, 3) := by decide +kernel
theorem dX11_see_21 : decode cX11_see 21 = .ok (.iload_n 3, 1) := by decide +kernel
theorem dX11_see_22 : decode cX11_see 22 = .ok (.bipush 8, 2) := by decide +kernel
theorem dX11_see_24 : decode cX11_see 24 = .ok (.if_icmp .gt 7, 3) := by decide +kernel
theorem dX11_see_27 : decode cX11_see 27 = .ok (.iconst 1, 1) := by decide +kernel
theorem dX11_see_28 : decode cX11_see 28 = .ok (.goto 4, 3) := by decide +kernel
theorem dX11_see_31 : decode cX11_see 31 = .ok (.iconst 0, 1) := by decide +kernel
theorem dX11_see_32 : decode cX11_see 32 = .ok (.istore 4, 2) := by decide +kernel
theorem dX11_see_34 : decode cX11_see 34 = .ok (.iload 4, 2) := by decide +kernel
theorem dX11_see_36 : decode cX11_see 36 = .ok (.ifCond .eq 15, 3) := by decide +kernel
theorem dX11_see_39 : decode cX11_see 39 = .ok (.aload_n 0, 1) := by decide +kernel
theorem dX11_see_40 : decode cX11_see 40 = .ok (.getfield 37, 3) := by decide +kernel
theorem dX11_see_43 : decode cX11_see 43 = .ok (.getfield 157, 3) := by decide +kernel
theorem dX11_see_46 : decode cX11_see 46 = .ok (.bipush 8, 2) := by decide +kernel
theorem dX11_see_48 : decode cX11_see 48 = .ok (.if_icmp .lt 9, 3) := by decide +kernel
theorem dX11_see_51 : decode cX11_see 51 = .ok (.aload_n 0, 1) := by decide +kernel
theorem dX11_see_52 : decode cX11_see 52 = .ok (.iconst 2, 1) := by decide +kernel
theorem dX11_see_53 : decode cX11_see 53 = .ok (.invokevirtual 227, 3) := by decide +kernel
theorem dX11_see_56 : decode cX11_see 56 = .ok (.ireturn, 1) := by decide +kernel
theorem dX11_see_57 : decode cX11_see 57 = .ok (.aload_n 0, 1) := by decide +kernel
theorem dX11_see_58 : decode cX11_see 58 = .ok (.getfield 37, 3) := by decide +kernel
theorem dX11_see_61 : decode cX11_see 61 = .ok (.iload_n 1, 1) := by decide +kernel
theorem dX11_see_62 : decode cX11_see 62 = .ok (.iload_n 2, 1) := by decide +kernel
theorem dX11_see_63 : decode cX11_see 63 = .ok (.iload_n 3, 1) := by decide +kernel
theorem dX11_see_64 : decode cX11_see 64 = .ok (.invokevirtual 316, 3) := by decide +kernel
theorem dX11_see_67 : decode cX11_see 67 = .ok (.aload_n 0, 1) := by decide +kernel
theorem dX11_see_68 : decode cX11_see 68 = .ok (.getfield 37, 3) := by decide +kernel
theorem dX11_see_71 : decode cX11_see 71 = .ok (.getfield 157, 3) := by decide +kernel
theorem dX11_see_74 : decode cX11_see 74 = .ok (.ireturn, 1) := by decide +kernel
theorem dX11_been_0 : decode cX11_been 0 = .ok (.iload_n 1, 1) := by decide +kernel
theorem dX11_been_1 : decode cX11_been 1 = .ok (.iconst 2, 1) := by decide +kernel
theorem dX11_been_2 : decode cX11_been 2 = .ok (.invokestatic 251, 3) := by decide +kernel
theorem dX11_been_5 : decode cX11_been 5 = .ok (.aload_n 0, 1) := by decide +kernel
theorem dX11_been_6 : decode cX11_been 6 = .ok (.getfield 75, 3) := by decide +kernel
theorem dX11_been_9 : decode cX11_been 9 = .ok (.aload_n 0, 1) := by decide +kernel
theorem dX11_been_10 : decode cX11_been 10 = .ok (.getfield 23, 3) := by decide +kernel
theorem dX11_been_13 : decode cX11_been 13 = .ok (.aload_n 0, 1) := by decide +kernel
theorem dX11_been_14 : decode cX11_been 14 = .ok (.getfield 37, 3) := by decide +kernel
theorem dX11_been_17 : decode cX11_been 17 = .ok (.invokevirtual 319, 3) := by decide +kernel
theorem dX11_been_20 : decode cX11_been 20 = .ok (.iload_n 1, 1) := by decide +kernel
theorem dX11_been_21 : decode cX11_been 21 = .ok (.ifCond .ne 11, 3) := by decide +kernel
theorem dX11_been_24 : decode cX11_been 24 = .ok (.aload_n 0, 1) := by decide +kernel
theorem dX11_been_25 : decode cX11_been 25 = .ok (.getfield 75, 3) := by decide +kernel
theorem dX11_been_28 : decode cX11_been 28 = .ok (.invokevirtual 323, 3) := by decide +kernel
theorem dX11_been_31 : decode cX11_been 31 = .ok (.ireturn, 1) := by decide +kernel
theorem dX11_been_32 : decode cX11_been 32 = .ok (.iload_n 1, 1) := by decide +kernel
theorem dX11_been_33 : decode cX11_been 33 = .ok (.iconst 1, 1) := by decide +kernel
theorem dX11_been_34 : decode cX11_been 34 = .ok (.if_icmp .ne 11, 3) := by decide +kernel
theorem dX11_been_37 : decode cX11_been 37 = .ok (.aload_n 0, 1) := by decide +kernel
theorem dX11_been_38 : decode cX11_been 38 = .ok (.getfield 75, 3) := by decide +kernel
theorem dX11_been_41 : decode cX11_been 41 = .ok (.invokevirtual 326, 3) := by decide +kernel
theorem dX11_been_44 : decode cX11_been 44 = .ok (.ireturn, 1) := by decide +kernel
theorem dX11_been_45 : decode cX11_been 45 = .ok (.aload_n 0, 1) := by decide +kernel
theorem dX11_been_46 : decode cX11_been 46 = .ok (.getfield 75, 3) := by decide +kernel
theorem dX11_been_49 : decode cX11_been 49 = .ok (.getfield 329, 3) := by decide +kernel
theorem dX11_been_52 : decode cX11_been 52 = .ok (.ifCond .ne 7, 3) := by decide +kernel
theorem dX11_been_55 : decode cX11_been 55 = .ok (.iconst 1, 1) := by decide +kernel
theorem dX11_been_56 : decode cX11_been 56 = .ok (.goto 4, 3) := by decide +kernel
theorem dX11_been_59 : decode cX11_been 59 = .ok (.iconst 0, 1) := by decide +kernel
theorem dX11_been_60 : decode cX11_been 60 = .ok (.ireturn, 1) := by decide +kernel
theorem dX11_listen_0 : decode cX11_listen 0 = .ok (.iload_n 1, 1) := by decide +kernel
theorem dX11_listen_1 : decode cX11_listen 1 = .ok (.iconst 1, 1) := by decide +kernel
theorem dX11_listen_2 : decode cX11_listen 2 = .ok (.invokestatic 251, 3) := by decide +kernel
theorem dX11_listen_5 : decode cX11_listen 5 = .ok (.aload_n 0, 1) := by decide +kernel
theorem dX11_listen_6 : decode cX11_listen 6 = .ok (.getfield 75, 3) := by decide +kernel
theorem dX11_listen_9 : decode cX11_listen 9 = .ok (.aload_n 0, 1) := by decide +kernel
theorem dX11_listen_10 : decode cX11_listen 10 = .ok (.getfield 23, 3) := by decide +kernel
theorem dX11_listen_13 : decode cX11_listen 13 = .ok (.aload_n 0, 1) := by decide +kernel
theorem dX11_listen_14 : decode cX11_listen 14 = .ok (.getfield 37, 3) := by decide +kernel
theorem dX11_listen_17 : decode cX11_listen 17 = .ok (.invokevirtual 319, 3) := by decide +kernel
theorem dX11_listen_20 : decode cX11_listen 20 = .ok (.iconst (-1), 1) := by decide +kernel
theorem dX11_listen_21 : decode cX11_listen 21 = .ok (.istore_n 2, 1) := by decide +kernel
theorem dX11_listen_22 : decode cX11_listen 22 = .ok (.iconst 0, 1) := by decide +kernel
theorem dX11_listen_23 : decode cX11_listen 23 = .ok (.istore_n 3, 1) := by decide +kernel
theorem dX11_listen_24 : decode cX11_listen 24 = .ok (.iconst 0, 1) := by decide +kernel
theorem dX11_listen_25 : decode cX11_listen 25 = .ok (.istore 4, 2) := by decide +kernel
theorem dX11_listen_27 : decode cX11_listen 27 = .ok (.iload 4, 2) := by decide +kernel
theorem dX11_listen_29 : decode cX11_listen 29 = .ok (.aload_n 0, 1) := by decide +kernel
theorem dX11_listen_30 : decode cX11_listen 30 = .ok (.getfield 23, 3) := by decide +kernel
theorem dX11_listen_33 : decode cX11_listen 33 = .ok (.getfield 132, 3) := by decide +kernel
theorem dX11_listen_36 : decode cX11_listen 36 = .ok (.getfield 135, 3) := by decide +kernel
theorem dX11_listen_39 : decode cX11_listen 39 = .ok (.if_icmp .ge 36, 3) := by decide +kernel
theorem dX11_listen_42 : decode cX11_listen 42 = .ok (.aload_n 0, 1) := by decide +kernel
theorem dX11_listen_43 : decode cX11_listen 43 = .ok (.getfield 75, 3) := by decide +kernel
theorem dX11_listen_46 : decode cX11_listen 46 = .ok (.aload_n 0, 1) := by decide +kernel
theorem dX11_listen_47 : decode cX11_listen 47 = .ok (.getfield 23, 3) := by decide +kernel
theorem dX11_listen_50 : decode cX11_listen 50 = .ok (.iload 4, 2) := by decide +kernel
theorem dX11_listen_52 : decode cX11_listen 52 = .ok (.invokevirtual 332, 3) := by decide +kernel
theorem dX11_listen_55 : decode cX11_listen 55 = .ok (.istore 5, 2) := by decide +kernel
theorem dX11_listen_57 : decode cX11_listen 57 = .ok (.iload 5, 2) := by decide +kernel
theorem dX11_listen_59 : decode cX11_listen 59 = .ok (.iload_n 3, 1) := by decide +kernel
theorem dX11_listen_60 : decode cX11_listen 60 = .ok (.if_icmp .le 9, 3) := by decide +kernel
theorem dX11_listen_63 : decode cX11_listen 63 = .ok (.iload 5, 2) := by decide +kernel
theorem dX11_listen_65 : decode cX11_listen 65 = .ok (.istore_n 3, 1) := by decide +kernel
theorem dX11_listen_66 : decode cX11_listen 66 = .ok (.iload 4, 2) := by decide +kernel
theorem dX11_listen_68 : decode cX11_listen 68 = .ok (.istore_n 2, 1) := by decide +kernel
theorem dX11_listen_69 : decode cX11_listen 69 = .ok (.iinc 4 1, 3) := by decide +kernel
theorem dX11_listen_72 : decode cX11_listen 72 = .ok (.goto (-45), 3) := by decide +kernel
theorem dX11_listen_75 : decode cX11_listen 75 = .ok (.iload_n 1, 1) := by decide +kernel
theorem dX11_listen_76 : decode cX11_listen 76 = .ok (.ifCond .ne 7, 3) := by decide +kernel
theorem dX11_listen_79 : decode cX11_listen 79 = .ok (.iload_n 2, 1) := by decide +kernel
theorem dX11_listen_80 : decode cX11_listen 80 = .ok (.goto 4, 3) := by decide +kernel
theorem dX11_listen_83 : decode cX11_listen 83 = .ok (.iload_n 3, 1) := by decide +kernel
theorem dX11_listen_84 : decode cX11_listen 84 = .ok (.ireturn, 1) := by decide +kernel
theorem dX11_forget_0 : decode cX11_forget 0 = .ok (.aload_n 0, 1) := by decide +kernel
theorem dX11_forget_1 : decode cX11_forget 1 = .ok (.getfield 37, 3) := by decide +kernel
theorem dX11_forget_4 : decode cX11_forget 4 = .ok (.invokevirtual 124, 3) := by decide +kernel
theorem dX11_forget_7 : decode cX11_forget 7 = .ok (.return_, 1) := by decide +kernel
theorem dX11_game_0 : decode cX11_game 0 = .ok (.aload_n 0, 1) := by decide +kernel
theorem dX11_game_1 : decode cX11_game 1 = .ok (.iload_n 1, 1) := by decide +kernel
theorem dX11_game_2 : decode cX11_game 2 = .ok (.invokevirtual 193, 3) := by decide +kernel
theorem dX11_game_5 : decode cX11_game 5 = .ok (.pop, 1) := by decide +kernel
theorem dX11_game_6 : decode cX11_game 6 = .ok (.aload_n 0, 1) := by decide +kernel
theorem dX11_game_7 : decode cX11_game 7 = .ok (.iload_n 2, 1) := by decide +kernel
theorem dX11_game_8 : decode cX11_game 8 = .ok (.invokevirtual 193, 3) := by decide +kernel
theorem dX11_game_11 : decode cX11_game 11 = .ok (.pop, 1) := by decide +kernel
theorem dX11_game_12 : decode cX11_game 12 = .ok (.iload_n 3, 1) := by decide +kernel
theorem dX11_game_13 : decode cX11_game 13 = .ok (.iconst 1, 1) := by decide +kernel
theorem dX11_game_14 : decode cX11_game 14 = .ok (.invokestatic 251, 3) := by decide +kernel
theorem dX11_game_17 : decode cX11_game 17 = .ok (.iload_n 1, 1) := by decide +kernel
theorem dX11_game_18 : decode cX11_game 18 = .ok (.iload_n 2, 1) := by decide +kernel
theorem dX11_game_19 : decode cX11_game 19 = .ok (.if_icmp .ne 14, 3) := by decide +kernel
theorem dX11_game_22 : decode cX11_game 22 = .ok (.new 104, 3) := by decide +kernel
theorem dX11_game_25 : decode cX11_game 25 = .ok (.dup, 1) := by decide +kernel
theorem dX11_game_26 : decode cX11_game 26 = .ok (.ldc_w 335, 3) := by decide +kernel
theorem dX11_game_29 : decode cX11_game 29 = .ok (.invokespecial 108, 3) := by decide +kernel
theorem dX11_game_32 : decode cX11_game 32 = .ok (.athrow, 1) := by decide +kernel
theorem dX11_game_33 : decode cX11_game 33 = .ok (.aload_n 0, 1) := by decide +kernel
theorem dX11_game_34 : decode cX11_game 34 = .ok (.getfield 89, 3) := by decide +kernel
theorem dX11_game_37 : decode cX11_game 37 = .ok (.aload_n 0, 1) := by decide +kernel
theorem dX11_game_38 : decode cX11_game 38 = .ok (.getfield 23, 3) := by decide +kernel
theorem dX11_game_41 : decode cX11_game 41 = .ok (.iload_n 1, 1) := by decide +kernel
theorem dX11_game_42 : decode cX11_game 42 = .ok (.iload_n 2, 1) := by decide +kernel
theorem dX11_game_43 : decode cX11_game 43 = .ok (.invokevirtual 337, 3) := by decide +kernel
theorem dX11_game_46 : decode cX11_game 46 = .ok (.iconst 0, 1) := by decide +kernel
theorem dX11_game_47 : decode cX11_game 47 = .ok (.istore 4, 2) := by decide +kernel
theorem dX11_game_49 : decode cX11_game 49 = .ok (.iconst (-1), 1) := by decide +kernel
theorem dX11_game_50 : decode cX11_game 50 = .ok (.istore 5, 2) := by decide +kernel
theorem dX11_game_52 : decode cX11_game 52 = .ok (.iconst 0, 1) := by decide +kernel
theorem dX11_game_53 : decode cX11_game 53 = .ok (.istore 6, 2) := by decide +kernel
theorem dX11_game_55 : decode cX11_game 55 = .ok (.iload 6, 2) := by decide +kernel
theorem dX11_game_57 : decode cX11_game 57 = .ok (.iconst 4, 1) := by decide +kernel
theorem dX11_game_58 : decode cX11_game 58 = .ok (.if_icmp .ge 58, 3) := by decide +kernel
theorem dX11_game_61 : decode cX11_game 61 = .ok (.iload 6, 2) := by decide +kernel
theorem dX11_game_63 : decode cX11_game 63 = .ok (.iconst 1, 1) := by decide +kernel
theorem dX11_game_64 : decode cX11_game 64 = .ok (.ishr, 1) := by decide +kernel
theorem dX11_game_65 : decode cX11_game 65 = .ok (.istore 7, 2) := by decide +kernel
theorem dX11_game_67 : decode cX11_game 67 = .ok (.iload 6, 2) := by decide +kernel
theorem dX11_game_69 : decode cX11_game 69 = .ok (.iconst 1, 1) := by decide +kernel
theorem dX11_game_70 : decode cX11_game 70 = .ok (.iand, 1) := by decide +kernel
theorem dX11_game_71 : decode cX11_game 71 = .ok (.istore 8, 2) := by decide +kernel
theorem dX11_game_73 : decode cX11_game 73 = .ok (.aload_n 0, 1) := by decide +kernel
theorem dX11_game_74 : decode cX11_game 74 = .ok (.getfield 89, 3) := by decide +kernel
theorem dX11_game_77 : decode cX11_game 77 = .ok (.iload 7, 2) := by decide +kernel
theorem dX11_game_79 : decode cX11_game 79 = .ok (.iload 8, 2) := by decide +kernel
theorem dX11_game_81 : decode cX11_game 81 = .ok (.invokevirtual 340, 3) := by decide +kernel
theorem dX11_game_84 : decode cX11_game 84 = .ok (.ifCond .eq 26, 3) := by decide +kernel
theorem dX11_game_87 : decode cX11_game 87 = .ok (.iload 4, 2) := by decide +kernel
theorem dX11_game_89 : decode cX11_game 89 = .ok (.ifCond .ne 14, 3) := by decide +kernel
theorem dX11_game_92 : decode cX11_game 92 = .ok (.bipush 10, 2) := by decide +kernel
theorem dX11_game_94 : decode cX11_game 94 = .ok (.iload 7, 2) := by decide +kernel
theorem dX11_game_96 : decode cX11_game 96 = .ok (.imul, 1) := by decide +kernel
theorem dX11_game_97 : decode cX11_game 97 = .ok (.iload 8, 2) := by decide +kernel
theorem dX11_game_99 : decode cX11_game 99 = .ok (.iadd, 1) := by decide +kernel
theorem dX11_game_100 : decode cX11_game 100 = .ok (.goto 5, 3) := by decide +kernel
theorem dX11_game_103 : decode cX11_game 103 = .ok (.iload 5, 2) := by decide +kernel
theorem dX11_game_105 : decode cX11_game 105 = .ok (.istore 5, 2) := by decide +kernel
theorem dX11_game_107 : decode cX11_game 107 = .ok (.iinc 4 1, 3) := by decide +kernel
theorem dX11_game_110 : decode cX11_game 110 = .ok (.iinc 6 1, 3) := by decide +kernel
theorem dX11_game_113 : decode cX11_game 113 = .ok (.goto (-58), 3) := by decide +kernel
theorem dX11_game_116 : decode cX11_game 116 = .ok (.iload_n 3, 1) := by decide +kernel
theorem dX11_game_117 : decode cX11_game 117 = .ok (.ifCond .ne 8, 3) := by decide +kernel
theorem dX11_game_120 : decode cX11_game 120 = .ok (.iload 4, 2) := by decide +kernel
theorem dX11_game_122 : decode cX11_game 122 = .ok (.goto 5, 3) := by decide +kernel
theorem dX11_game_125 : decode cX11_game 125 = .ok (.iload 5, 2) := by decide +kernel
theorem dX11_game_127 : decode cX11_game 127 = .ok (.ireturn, 1) := by decide +kernel
theorem dX11_years_0 : decode cX11_years 0 = .ok (.iload_n 3, 1) := by decide +kernel
theorem dX11_years_1 : decode cX11_years 1 = .ok (.iconst 2, 1) := by decide +kernel
theorem dX11_years_2 : decode cX11_years 2 = .ok (.invokestatic 251, 3) := by decide +kernel
theorem dX11_years_5 : decode cX11_years 5 = .ok (.iload_n 2, 1) := by decide +kernel
theorem dX11_years_6 : decode cX11_years 6 = .ok (.iconst 0, 1) := by decide +kernel
theorem dX11_years_7 : decode cX11_years 7 = .ok (.bipush 60, 2) := by decide +kernel
theorem dX11_years_9 : decode cX11_years 9 = .ok (.invokestatic 255, 3) := by decide +kernel
theorem dX11_years_12 : decode cX11_years 12 = .ok (.aload_n 0, 1) := by decide +kernel
theorem dX11_years_13 : decode cX11_years 13 = .ok (.iload_n 1, 1) := by decide +kernel
theorem dX11_years_14 : decode cX11_years 14 = .ok (.putfield 344, 3) := by decide +kernel
theorem dX11_years_17 : decode cX11_years 17 = .ok (.aload_n 0, 1) := by decide +kernel
theorem dX11_years_18 : decode cX11_years 18 = .ok (.getfield 65, 3) := by decide +kernel
theorem dX11_years_21 : decode cX11_years 21 = .ok (.aload_n 0, 1) := by decide +kernel
theorem dX11_years_22 : decode cX11_years 22 = .ok (.getfield 23, 3) := by decide +kernel
theorem dX11_years_25 : decode cX11_years 25 = .ok (.getfield 132, 3) := by decide +kernel
theorem dX11_years_28 : decode cX11_years 28 = .ok (.invokevirtual 347, 3) := by decide +kernel
theorem dX11_years_31 : decode cX11_years 31 = .ok (.iconst 0, 1) := by decide +kernel
theorem dX11_years_32 : decode cX11_years 32 = .ok (.istore 4, 2) := by decide +kernel
theorem dX11_years_34 : decode cX11_years 34 = .ok (.iload 4, 2) := by decide +kernel
theorem dX11_years_36 : decode cX11_years 36 = .ok (.iload_n 2, 1) := by decide +kernel
theorem dX11_years_37 : decode cX11_years 37 = .ok (.if_icmp .ge 62, 3) := by decide +kernel
theorem dX11_years_40 : decode cX11_years 40 = .ok (.aload_n 0, 1) := by decide +kernel
theorem dX11_years_41 : decode cX11_years 41 = .ok (.getfield 65, 3) := by decide +kernel
theorem dX11_years_44 : decode cX11_years 44 = .ok (.getfield 135, 3) := by decide +kernel
theorem dX11_years_47 : decode cX11_years 47 = .ok (.ifCond .le 7, 3) := by decide +kernel
theorem dX11_years_50 : decode cX11_years 50 = .ok (.aload_n 0, 1) := by decide +kernel
theorem dX11_years_51 : decode cX11_years 51 = .ok (.invokevirtual 349, 3) := by decide +kernel
theorem dX11_years_54 : decode cX11_years 54 = .ok (.iconst 0, 1) := by decide +kernel
theorem dX11_years_55 : decode cX11_years 55 = .ok (.istore 5, 2) := by decide +kernel
theorem dX11_years_57 : decode cX11_years 57 = .ok (.iload 5, 2) := by decide +kernel
theorem dX11_years_59 : decode cX11_years 59 = .ok (.aload_n 0, 1) := by decide +kernel
theorem dX11_years_60 : decode cX11_years 60 = .ok (.getfield 65, 3) := by decide +kernel
theorem dX11_years_63 : decode cX11_years 63 = .ok (.getfield 135, 3) := by decide +kernel
theorem dX11_years_66 : decode cX11_years 66 = .ok (.if_icmp .ge 27, 3) := by decide +kernel
theorem dX11_years_69 : decode cX11_years 69 = .ok (.aload_n 0, 1) := by decide +kernel
theorem dX11_years_70 : decode cX11_years 70 = .ok (.getfield 23, 3) := by decide +kernel
theorem dX11_years_73 : decode cX11_years 73 = .ok (.aload_n 0, 1) := by decide +kernel
theorem dX11_years_74 : decode cX11_years 74 = .ok (.getfield 65, 3) := by decide +kernel
theorem dX11_years_77 : decode cX11_years 77 = .ok (.getfield 165, 3) := by decide +kernel
theorem dX11_years_80 : decode cX11_years 80 = .ok (.iload 5, 2) := by decide +kernel
theorem dX11_years_82 : decode cX11_years 82 = .ok (.aaload, 1) := by decide +kernel
theorem dX11_years_83 : decode cX11_years 83 = .ok (.iconst 1, 1) := by decide +kernel
theorem dX11_years_84 : decode cX11_years 84 = .ok (.invokevirtual 234, 3) := by decide +kernel
theorem dX11_years_87 : decode cX11_years 87 = .ok (.iinc 5 1, 3) := by decide +kernel
theorem dX11_years_90 : decode cX11_years 90 = .ok (.goto (-33), 3) := by decide +kernel
theorem dX11_years_93 : decode cX11_years 93 = .ok (.iinc 4 1, 3) := by decide +kernel
theorem dX11_years_96 : decode cX11_years 96 = .ok (.goto (-62), 3) := by decide +kernel
theorem dX11_years_99 : decode cX11_years 99 = .ok (.iload_n 3, 1) := by decide +kernel
theorem dX11_years_100 : decode cX11_years 100 = .ok (.ifCond .ne 22, 3) := by decide +kernel
theorem dX11_years_103 : decode cX11_years 103 = .ok (.aload_n 0, 1) := by decide +kernel
theorem dX11_years_104 : decode cX11_years 104 = .ok (.getfield 65, 3) := by decide +kernel
theorem dX11_years_107 : decode cX11_years 107 = .ok (.invokevirtual 352, 3) := by decide +kernel
theorem dX11_years_110 : decode cX11_years 110 = .ok (.aload_n 0, 1) := by decide +kernel
theorem dX11_years_111 : decode cX11_years 111 = .ok (.getfield 23, 3) := by decide +kernel
theorem dX11_years_114 : decode cX11_years 114 = .ok (.getfield 132, 3) := by decide +kernel
theorem dX11_years_117 : decode cX11_years 117 = .ok (.invokevirtual 352, 3) := by decide +kernel
theorem dX11_years_120 : decode cX11_years 120 = .ok (.isub, 1) := by decide +kernel
theorem dX11_years_121 : decode cX11_years 121 = .ok (.ireturn, 1) := by decide +kernel
theorem dX11_years_122 : decode cX11_years 122 = .ok (.iload_n 3, 1) := by decide +kernel
theorem dX11_years_123 : decode cX11_years 123 = .ok (.iconst 1, 1) := by decide +kernel
theorem dX11_years_124 : decode cX11_years 124 = .ok (.if_icmp .ne 10, 3) := by decide +kernel
theorem dX11_years_127 : decode cX11_years 127 = .ok (.aload_n 0, 1) := by decide +kernel
theorem dX11_years_128 : decode cX11_years 128 = .ok (.invokevirtual 355, 3) := by decide +kernel
theorem dX11_years_131 : decode cX11_years 131 = .ok (.goto 10, 3) := by decide +kernel
theorem dX11_years_134 : decode cX11_years 134 = .ok (.aload_n 0, 1) := by decide +kernel
theorem dX11_years_135 : decode cX11_years 135 = .ok (.getfield 65, 3) := by decide +kernel
theorem dX11_years_138 : decode cX11_years 138 = .ok (.invokevirtual 152, 3) := by decide +kernel
theorem dX11_years_141 : decode cX11_years 141 = .ok (.ireturn, 1) := by decide +kernel
theorem dX11_dreamOfChance_0 : decode cX11_dreamOfChance 0 = .ok (.aload_n 0, 1) := by decide +kernel
theorem dX11_dreamOfChance_1 : decode cX11_dreamOfChance 1 = .ok (.iconst 5, 1) := by decide +kernel
theorem dX11_dreamOfChance_2 : decode cX11_dreamOfChance 2 = .ok (.invokevirtual 358, 3) := by decide +kernel
theorem dX11_dreamOfChance_5 : decode cX11_dreamOfChance 5 = .ok (.istore_n 1, 1) := by decide +kernel
theorem dX11_dreamOfChance_6 : decode cX11_dreamOfChance 6 = .ok (.iload_n 1, 1) := by decide +kernel
theorem dX11_dreamOfChance_7 : decode cX11_dreamOfChance 7 = .ok (.iconst 2, 1) := by decide +kernel
theorem dX11_dreamOfChance_8 : decode cX11_dreamOfChance 8 = .ok (.if_icmp .le 4, 3) := by decide +kernel
theorem dX11_dreamOfChance_11 : decode cX11_dreamOfChance 11 = .ok (.return_, 1) := by decide +kernel
theorem dX11_dreamOfChance_12 : decode cX11_dreamOfChance 12 = .ok (.aload_n 0, 1) := by decide +kernel
theorem dX11_dreamOfChance_13 : decode cX11_dreamOfChance 13 = .ok (.aload_n 0, 1) := by decide +kernel
theorem dX11_dreamOfChance_14 : decode cX11_dreamOfChance 14 = .ok (.getfield 65, 3) := by decide +kernel
theorem dX11_dreamOfChance_17 : decode cX11_dreamOfChance 17 = .ok (.getfield 135, 3) := by decide +kernel
theorem dX11_dreamOfChance_20 : decode cX11_dreamOfChance 20 = .ok (.invokevirtual 358, 3) := by decide +kernel
theorem dX11_dreamOfChance_23 : decode cX11_dreamOfChance 23 = .ok (.istore_n 2, 1) := by decide +kernel
theorem dX11_dreamOfChance_24 : decode cX11_dreamOfChance 24 = .ok (.iload_n 2, 1) := by decide +kernel
theorem dX11_dreamOfChance_25 : decode cX11_dreamOfChance 25 = .ok (.ifCond .lt 9, 3) := by decide +kernel
theorem dX11_dreamOfChance_28 : decode cX11_dreamOfChance 28 = .ok (.iload_n 2, 1) := by decide +kernel
theorem dX11_dreamOfChance_29 : decode cX11_dreamOfChance 29 = .ok (.bipush 7, 2) := by decide +kernel
theorem dX11_dreamOfChance_31 : decode cX11_dreamOfChance 31 = .ok (.if_icmp .lt 4, 3) := by decide +kernel
theorem dX11_dreamOfChance_34 : decode cX11_dreamOfChance 34 = .ok (.return_, 1) := by decide +kernel
theorem dX11_dreamOfChance_35 : decode cX11_dreamOfChance 35 = .ok (.aload_n 0, 1) := by decide +kernel
theorem dX11_dreamOfChance_36 : decode cX11_dreamOfChance 36 = .ok (.getfield 65, 3) := by decide +kernel
theorem dX11_dreamOfChance_39 : decode cX11_dreamOfChance 39 = .ok (.getfield 165, 3) := by decide +kernel
theorem dX11_dreamOfChance_42 : decode cX11_dreamOfChance 42 = .ok (.iload_n 2, 1) := by decide +kernel
theorem dX11_dreamOfChance_43 : decode cX11_dreamOfChance 43 = .ok (.aaload, 1) := by decide +kernel
theorem dX11_dreamOfChance_44 : decode cX11_dreamOfChance 44 = .ok (.astore_n 3, 1) := by decide +kernel
theorem dX11_dreamOfChance_45 : decode cX11_dreamOfChance 45 = .ok (.iload_n 1, 1) := by decide +kernel
theorem dX11_dreamOfChance_46 : decode cX11_dreamOfChance 46 = .ok (.ifCond .ne 39, 3) := by decide +kernel
theorem dX11_dreamOfChance_49 : decode cX11_dreamOfChance 49 = .ok (.aload_n 0, 1) := by decide +kernel
theorem dX11_dreamOfChance_50 : decode cX11_dreamOfChance 50 = .ok (.bipush 30, 2) := by decide +kernel
theorem dX11_dreamOfChance_52 : decode cX11_dreamOfChance 52 = .ok (.invokevirtual 358, 3) := by decide +kernel
theorem dX11_dreamOfChance_55 : decode cX11_dreamOfChance 55 = .ok (.iconst 1, 1) := by decide +kernel
theorem dX11_dreamOfChance_56 : decode cX11_dreamOfChance 56 = .ok (.iadd, 1) := by decide +kernel
theorem dX11_dreamOfChance_57 : decode cX11_dreamOfChance 57 = .ok (.istore 4, 2) := by decide +kernel
theorem dX11_dreamOfChance_59 : decode cX11_dreamOfChance 59 = .ok (.aload_n 0, 1) := by decide +kernel
theorem dX11_dreamOfChance_60 : decode cX11_dreamOfChance 60 = .ok (.getfield 65, 3) := by decide +kernel
theorem dX11_dreamOfChance_63 : decode cX11_dreamOfChance 63 = .ok (.aload_n 3, 1) := by decide +kernel
theorem dX11_dreamOfChance_64 : decode cX11_dreamOfChance 64 = .ok (.iload 4, 2) := by decide +kernel
theorem dX11_dreamOfChance_66 : decode cX11_dreamOfChance 66 = .ok (.invokevirtual 238, 3) := by decide +kernel
theorem dX11_dreamOfChance_69 : decode cX11_dreamOfChance 69 = .ok (.ifCond .eq 13, 3) := by decide +kernel
theorem dX11_dreamOfChance_72 : decode cX11_dreamOfChance 72 = .ok (.aload_n 0, 1) := by decide +kernel
theorem dX11_dreamOfChance_73 : decode cX11_dreamOfChance 73 = .ok (.getfield 23, 3) := by decide +kernel
theorem dX11_dreamOfChance_76 : decode cX11_dreamOfChance 76 = .ok (.aload_n 3, 1) := by decide +kernel
theorem dX11_dreamOfChance_77 : decode cX11_dreamOfChance 77 = .ok (.iload 4, 2) := by decide +kernel
theorem dX11_dreamOfChance_79 : decode cX11_dreamOfChance 79 = .ok (.invokevirtual 242, 3) := by decide +kernel
theorem dX11_dreamOfChance_82 : decode cX11_dreamOfChance 82 = .ok (.goto 18, 3) := by decide +kernel
theorem dX11_dreamOfChance_85 : decode cX11_dreamOfChance 85 = .ok (.aload_n 3, 1) := by decide +kernel
theorem dX11_dreamOfChance_86 : decode cX11_dreamOfChance 86 = .ok (.iload_n 1, 1) := by decide +kernel
theorem dX11_dreamOfChance_87 : decode cX11_dreamOfChance 87 = .ok (.iconst 1, 1) := by decide +kernel
theorem dX11_dreamOfChance_88 : decode cX11_dreamOfChance 88 = .ok (.if_icmp .ne 7, 3) := by decide +kernel
theorem dX11_dreamOfChance_91 : decode cX11_dreamOfChance 91 = .ok (.iconst 3, 1) := by decide +kernel
theorem dX11_dreamOfChance_92 : decode cX11_dreamOfChance 92 = .ok (.goto 5, 3) := by decide +kernel
theorem dX11_dreamOfChance_95 : decode cX11_dreamOfChance 95 = .ok (.bipush (-3), 2) := by decide +kernel
theorem dX11_dreamOfChance_97 : decode cX11_dreamOfChance 97 = .ok (.invokevirtual 245, 3) := by decide +kernel
theorem dX11_dreamOfChance_100 : decode cX11_dreamOfChance 100 = .ok (.return_, 1) := by decide +kernel
theorem dX11_draw_0 : decode cX11_draw 0 = .ok (.aload_n 0, 1) := by decide +kernel
theorem dX11_draw_1 : decode cX11_draw 1 = .ok (.aload_n 0, 1) := by decide +kernel
theorem dX11_draw_2 : decode cX11_draw 2 = .ok (.getfield 344, 3) := by decide +kernel
theorem dX11_draw_5 : decode cX11_draw 5 = .ok (.ldc_w 361, 3) := by decide +kernel
theorem dX11_draw_8 : decode cX11_draw 8 = .ok (.imul, 1) := by decide +kernel
theorem dX11_draw_9 : decode cX11_draw 9 = .ok (.sipush 12345, 3) := by decide +kernel
theorem dX11_draw_12 : decode cX11_draw 12 = .ok (.iadd, 1) := by decide +kernel
theorem dX11_draw_13 : decode cX11_draw 13 = .ok (.putfield 344, 3) := by decide +kernel
theorem dX11_draw_16 : decode cX11_draw 16 = .ok (.iload_n 1, 1) := by decide +kernel
theorem dX11_draw_17 : decode cX11_draw 17 = .ok (.iconst 1, 1) := by decide +kernel
theorem dX11_draw_18 : decode cX11_draw 18 = .ok (.if_icmp .ge 7, 3) := by decide +kernel
theorem dX11_draw_21 : decode cX11_draw 21 = .ok (.iconst 0, 1) := by decide +kernel
theorem dX11_draw_22 : decode cX11_draw 22 = .ok (.goto 16, 3) := by decide +kernel
theorem dX11_draw_25 : decode cX11_draw 25 = .ok (.aload_n 0, 1) := by decide +kernel
theorem dX11_draw_26 : decode cX11_draw 26 = .ok (.getfield 344, 3) := by decide +kernel
theorem dX11_draw_29 : decode cX11_draw 29 = .ok (.bipush 16, 2) := by decide +kernel
theorem dX11_draw_31 : decode cX11_draw 31 = .ok (.iushr, 1) := by decide +kernel
theorem dX11_draw_32 : decode cX11_draw 32 = .ok (.sipush 32767, 3) := by decide +kernel
theorem dX11_draw_35 : decode cX11_draw 35 = .ok (.iand, 1) := by decide +kernel
theorem dX11_draw_36 : decode cX11_draw 36 = .ok (.iload_n 1, 1) := by decide +kernel
theorem dX11_draw_37 : decode cX11_draw 37 = .ok (.irem, 1) := by decide +kernel
theorem dX11_draw_38 : decode cX11_draw 38 = .ok (.ireturn, 1) := by decide +kernel
theorem dX11_piecesDoneInDream_0 : decode cX11_piecesDoneInDream 0 = .ok (.iconst 0, 1) := by decide +kernel
theorem dX11_piecesDoneInDream_1 : decode cX11_piecesDoneInDream 1 = .ok (.istore_n 1, 1) := by decide +kernel
theorem dX11_piecesDoneInDream_2 : decode cX11_piecesDoneInDream 2 = .ok (.iconst 0, 1) := by decide +kernel
theorem dX11_piecesDoneInDream_3 : decode cX11_piecesDoneInDream 3 = .ok (.istore_n 2, 1) := by decide +kernel
theorem dX11_piecesDoneInDream_4 : decode cX11_piecesDoneInDream 4 = .ok (.iload_n 2, 1) := by decide +kernel
theorem dX11_piecesDoneInDream_5 : decode cX11_piecesDoneInDream 5 = .ok (.aload_n 0, 1) := by decide +kernel
theorem dX11_piecesDoneInDream_6 : decode cX11_piecesDoneInDream 6 = .ok (.getfield 65, 3) := by decide +kernel
theorem dX11_piecesDoneInDream_9 : decode cX11_piecesDoneInDream 9 = .ok (.getfield 135, 3) := by decide +kernel
theorem dX11_piecesDoneInDream_12 : decode cX11_piecesDoneInDream 12 = .ok (.if_icmp .ge 31, 3) := by decide +kernel
theorem dX11_piecesDoneInDream_15 : decode cX11_piecesDoneInDream 15 = .ok (.aload_n 0, 1) := by decide +kernel
theorem dX11_piecesDoneInDream_16 : decode cX11_piecesDoneInDream 16 = .ok (.getfield 23, 3) := by decide +kernel
theorem dX11_piecesDoneInDream_19 : decode cX11_piecesDoneInDream 19 = .ok (.aload_n 0, 1) := by decide +kernel
theorem dX11_piecesDoneInDream_20 : decode cX11_piecesDoneInDream 20 = .ok (.getfield 65, 3) := by decide +kernel
theorem dX11_piecesDoneInDream_23 : decode cX11_piecesDoneInDream 23 = .ok (.getfield 165, 3) := by decide +kernel
theorem dX11_piecesDoneInDream_26 : decode cX11_piecesDoneInDream 26 = .ok (.iload_n 2, 1) := by decide +kernel
theorem dX11_piecesDoneInDream_27 : decode cX11_piecesDoneInDream 27 = .ok (.aaload, 1) := by decide +kernel
theorem dX11_piecesDoneInDream_28 : decode cX11_piecesDoneInDream 28 = .ok (.invokevirtual 169, 3) := by decide +kernel
theorem dX11_piecesDoneInDream_31 : decode cX11_piecesDoneInDream 31 = .ok (.ifCond .eq 6, 3) := by decide +kernel
theorem dX11_piecesDoneInDream_34 : decode cX11_piecesDoneInDream 34 = .ok (.iinc 1 1, 3) := by decide +kernel
theorem dX11_piecesDoneInDream_37 : decode cX11_piecesDoneInDream 37 = .ok (.iinc 2 1, 3) := by decide +kernel
theorem dX11_piecesDoneInDream_40 : decode cX11_piecesDoneInDream 40 = .ok (.goto (-36), 3) := by decide +kernel
theorem dX11_piecesDoneInDream_43 : decode cX11_piecesDoneInDream 43 = .ok (.iload_n 1, 1) := by decide +kernel
theorem dX11_piecesDoneInDream_44 : decode cX11_piecesDoneInDream 44 = .ok (.ireturn, 1) := by decide +kernel
theorem dX11_image_0 : decode cX11_image 0 = .ok (.aload_n 0, 1) := by decide +kernel
theorem dX11_image_1 : decode cX11_image 1 = .ok (.getfield 23, 3) := by decide +kernel
theorem dX11_image_4 : decode cX11_image 4 = .ok (.getfield 132, 3) := by decide +kernel
theorem dX11_image_7 : decode cX11_image 7 = .ok (.aload_n 0, 1) := by decide +kernel
theorem dX11_image_8 : decode cX11_image 8 = .ok (.getfield 48, 3) := by decide +kernel
theorem dX11_image_11 : decode cX11_image 11 = .ok (.getfield 362, 3) := by decide +kernel
theorem dX11_image_14 : decode cX11_image 14 = .ok (.iconst 0, 1) := by decide +kernel
theorem dX11_image_15 : decode cX11_image 15 = .ok (.invokevirtual 365, 3) := by decide +kernel
theorem dX11_image_18 : decode cX11_image 18 = .ok (.aload_n 0, 1) := by decide +kernel
theorem dX11_image_19 : decode cX11_image 19 = .ok (.getfield 48, 3) := by decide +kernel
theorem dX11_image_22 : decode cX11_image 22 = .ok (.getfield 369, 3) := by decide +kernel
theorem dX11_image_25 : decode cX11_image 25 = .ok (.aload_n 0, 1) := by decide +kernel
theorem dX11_image_26 : decode cX11_image 26 = .ok (.getfield 30, 3) := by decide +kernel
theorem dX11_image_29 : decode cX11_image 29 = .ok (.invokevirtual 370, 3) := by decide +kernel
theorem dX11_image_32 : decode cX11_image 32 = .ok (.aload_n 0, 1) := by decide +kernel
theorem dX11_image_33 : decode cX11_image 33 = .ok (.getfield 48, 3) := by decide +kernel
theorem dX11_image_36 : decode cX11_image 36 = .ok (.getfield 373, 3) := by decide +kernel
theorem dX11_image_39 : decode cX11_image 39 = .ok (.aload_n 0, 1) := by decide +kernel
theorem dX11_image_40 : decode cX11_image 40 = .ok (.getfield 37, 3) := by decide +kernel
theorem dX11_image_43 : decode cX11_image 43 = .ok (.invokevirtual 374, 3) := by decide +kernel
theorem dX11_image_46 : decode cX11_image 46 = .ok (.aload_n 0, 1) := by decide +kernel
theorem dX11_image_47 : decode cX11_image 47 = .ok (.getfield 41, 3) := by decide +kernel
theorem dX11_image_50 : decode cX11_image 50 = .ok (.iconst 0, 1) := by decide +kernel
theorem dX11_image_51 : decode cX11_image 51 = .ok (.aload_n 0, 1) := by decide +kernel
theorem dX11_image_52 : decode cX11_image 52 = .ok (.getfield 48, 3) := by decide +kernel
theorem dX11_image_55 : decode cX11_image 55 = .ok (.getfield 377, 3) := by decide +kernel
theorem dX11_image_58 : decode cX11_image 58 = .ok (.iconst 0, 1) := by decide +kernel
theorem dX11_image_59 : decode cX11_image 59 = .ok (.aload_n 0, 1) := by decide +kernel
theorem dX11_image_60 : decode cX11_image 60 = .ok (.getfield 41, 3) := by decide +kernel
theorem dX11_image_63 : decode cX11_image 63 = .ok (.arraylength, 1) := by decide +kernel
theorem dX11_image_64 : decode cX11_image 64 = .ok (.invokestatic 378, 3) := by decide +kernel
theorem dX11_image_67 : decode cX11_image 67 = .ok (.aload_n 0, 1) := by decide +kernel
theorem dX11_image_68 : decode cX11_image 68 = .ok (.getfield 48, 3) := by decide +kernel
theorem dX11_image_71 : decode cX11_image 71 = .ok (.iconst 1, 1) := by decide +kernel
theorem dX11_image_72 : decode cX11_image 72 = .ok (.putfield 125, 3) := by decide +kernel
theorem dX11_image_75 : decode cX11_image 75 = .ok (.return_, 1) := by decide +kernel
theorem dX11_restore_0 : decode cX11_restore 0 = .ok (.aload_n 0, 1) := by decide +kernel
theorem dX11_restore_1 : decode cX11_restore 1 = .ok (.getfield 48, 3) := by decide +kernel
theorem dX11_restore_4 : decode cX11_restore 4 = .ok (.getfield 125, 3) := by decide +kernel
theorem dX11_restore_7 : decode cX11_restore 7 = .ok (.ifCond .ne 5, 3) := by decide +kernel
theorem dX11_restore_10 : decode cX11_restore 10 = .ok (.iconst 0, 1) := by decide +kernel
theorem dX11_restore_11 : decode cX11_restore 11 = .ok (.ireturn, 1) := by decide +kernel
theorem dX11_restore_12 : decode cX11_restore 12 = .ok (.aload_n 0, 1) := by decide +kernel
theorem dX11_restore_13 : decode cX11_restore 13 = .ok (.getfield 23, 3) := by decide +kernel
theorem dX11_restore_16 : decode cX11_restore 16 = .ok (.getfield 132, 3) := by decide +kernel
theorem dX11_restore_19 : decode cX11_restore 19 = .ok (.aload_n 0, 1) := by decide +kernel
theorem dX11_restore_20 : decode cX11_restore 20 = .ok (.getfield 48, 3) := by decide +kernel
theorem dX11_restore_23 : decode cX11_restore 23 = .ok (.getfield 362, 3) := by decide +kernel
theorem dX11_restore_26 : decode cX11_restore 26 = .ok (.iconst 0, 1) := by decide +kernel
theorem dX11_restore_27 : decode cX11_restore 27 = .ok (.invokevirtual 384, 3) := by decide +kernel
theorem dX11_restore_30 : decode cX11_restore 30 = .ok (.aload_n 0, 1) := by decide +kernel
theorem dX11_restore_31 : decode cX11_restore 31 = .ok (.getfield 30, 3) := by decide +kernel
theorem dX11_restore_34 : decode cX11_restore 34 = .ok (.aload_n 0, 1) := by decide +kernel
theorem dX11_restore_35 : decode cX11_restore 35 = .ok (.getfield 48, 3) := by decide +kernel
theorem dX11_restore_38 : decode cX11_restore 38 = .ok (.getfield 369, 3) := by decide +kernel
theorem dX11_restore_41 : decode cX11_restore 41 = .ok (.invokevirtual 370, 3) := by decide +kernel
theorem dX11_restore_44 : decode cX11_restore 44 = .ok (.aload_n 0, 1) := by decide +kernel
theorem dX11_restore_45 : decode cX11_restore 45 = .ok (.getfield 37, 3) := by decide +kernel
theorem dX11_restore_48 : decode cX11_restore 48 = .ok (.aload_n 0, 1) := by decide +kernel
theorem dX11_restore_49 : decode cX11_restore 49 = .ok (.getfield 48, 3) := by decide +kernel
theorem dX11_restore_52 : decode cX11_restore 52 = .ok (.getfield 373, 3) := by decide +kernel
theorem dX11_restore_55 : decode cX11_restore 55 = .ok (.invokevirtual 374, 3) := by decide +kernel
theorem dX11_restore_58 : decode cX11_restore 58 = .ok (.aload_n 0, 1) := by decide +kernel
theorem dX11_restore_59 : decode cX11_restore 59 = .ok (.getfield 48, 3) := by decide +kernel
theorem dX11_restore_62 : decode cX11_restore 62 = .ok (.getfield 377, 3) := by decide +kernel
theorem dX11_restore_65 : decode cX11_restore 65 = .ok (.iconst 0, 1) := by decide +kernel
theorem dX11_restore_66 : decode cX11_restore 66 = .ok (.aload_n 0, 1) := by decide +kernel
theorem dX11_restore_67 : decode cX11_restore 67 = .ok (.getfield 41, 3) := by decide +kernel
theorem dX11_restore_70 : decode cX11_restore 70 = .ok (.iconst 0, 1) := by decide +kernel
theorem dX11_restore_71 : decode cX11_restore 71 = .ok (.aload_n 0, 1) := by decide +kernel
theorem dX11_restore_72 : decode cX11_restore 72 = .ok (.getfield 41, 3) := by decide +kernel
theorem dX11_restore_75 : decode cX11_restore 75 = .ok (.arraylength, 1) := by decide +kernel
theorem dX11_restore_76 : decode cX11_restore 76 = .ok (.invokestatic 378, 3) := by decide +kernel
theorem dX11_restore_79 : decode cX11_restore 79 = .ok (.iconst 1, 1) := by decide +kernel
theorem dX11_restore_80 : decode cX11_restore 80 = .ok (.ireturn, 1) := by decide +kernel
theorem dX11_refuse_0 : decode cX11_refuse 0 = .ok (.aload_n 0, 1) := by decide +kernel
theorem dX11_refuse_1 : decode cX11_refuse 1 = .ok (.getfield 41, 3) := by decide +kernel
theorem dX11_refuse_4 : decode cX11_refuse 4 = .ok (.iload_n 1, 1) := by decide +kernel
theorem dX11_refuse_5 : decode cX11_refuse 5 = .ok (.dup2, 1) := by decide +kernel
theorem dX11_refuse_6 : decode cX11_refuse 6 = .ok (.iaload, 1) := by decide +kernel
theorem dX11_refuse_7 : decode cX11_refuse 7 = .ok (.iconst 1, 1) := by decide +kernel
theorem dX11_refuse_8 : decode cX11_refuse 8 = .ok (.iadd, 1) := by decide +kernel
theorem dX11_refuse_9 : decode cX11_refuse 9 = .ok (.iastore, 1) := by decide +kernel
theorem dX11_refuse_10 : decode cX11_refuse 10 = .ok (.iconst (-1), 1) := by decide +kernel
theorem dX11_refuse_11 : decode cX11_refuse 11 = .ok (.ireturn, 1) := by decide +kernel
theorem dX11_needPupil_0 : decode cX11_needPupil 0 = .ok (.iload_n 1, 1) := by decide +kernel
theorem dX11_needPupil_1 : decode cX11_needPupil 1 = .ok (.ifCond .lt 17, 3) := by decide +kernel
theorem dX11_needPupil_4 : decode cX11_needPupil 4 = .ok (.iload_n 1, 1) := by decide +kernel
theorem dX11_needPupil_5 : decode cX11_needPupil 5 = .ok (.aload_n 0, 1) := by decide +kernel
theorem dX11_needPupil_6 : decode cX11_needPupil 6 = .ok (.getfield 23, 3) := by decide +kernel
theorem dX11_needPupil_9 : decode cX11_needPupil 9 = .ok (.getfield 132, 3) := by decide +kernel
theorem dX11_needPupil_12 : decode cX11_needPupil 12 = .ok (.getfield 135, 3) := by decide +kernel
theorem dX11_needPupil_15 : decode cX11_needPupil 15 = .ok (.if_icmp .lt 14, 3) := by decide +kernel
theorem dX11_needPupil_18 : decode cX11_needPupil 18 = .ok (.new 160, 3) := by decide +kernel
theorem dX11_needPupil_21 : decode cX11_needPupil 21 = .ok (.dup, 1) := by decide +kernel
theorem dX11_needPupil_22 : decode cX11_needPupil 22 = .ok (.ldc_w 387, 3) := by decide +kernel
theorem dX11_needPupil_25 : decode cX11_needPupil 25 = .ok (.invokespecial 164, 3) := by decide +kernel
theorem dX11_needPupil_28 : decode cX11_needPupil 28 = .ok (.athrow, 1) := by decide +kernel
theorem dX11_needPupil_29 : decode cX11_needPupil 29 = .ok (.aload_n 0, 1) := by decide +kernel
theorem dX11_needPupil_30 : decode cX11_needPupil 30 = .ok (.getfield 23, 3) := by decide +kernel
theorem dX11_needPupil_33 : decode cX11_needPupil 33 = .ok (.getfield 132, 3) := by decide +kernel
theorem dX11_needPupil_36 : decode cX11_needPupil 36 = .ok (.getfield 165, 3) := by decide +kernel
theorem dX11_needPupil_39 : decode cX11_needPupil 39 = .ok (.iload_n 1, 1) := by decide +kernel
theorem dX11_needPupil_40 : decode cX11_needPupil 40 = .ok (.aaload, 1) := by decide +kernel
theorem dX11_needPupil_41 : decode cX11_needPupil 41 = .ok (.areturn, 1) := by decide +kernel
theorem dX11_needPiece_0 : decode cX11_needPiece 0 = .ok (.iload_n 1, 1) := by decide +kernel
theorem dX11_needPiece_1 : decode cX11_needPiece 1 = .ok (.ifCond .lt 14, 3) := by decide +kernel
theorem dX11_needPiece_4 : decode cX11_needPiece 4 = .ok (.iload_n 1, 1) := by decide +kernel
theorem dX11_needPiece_5 : decode cX11_needPiece 5 = .ok (.aload_n 0, 1) := by decide +kernel
theorem dX11_needPiece_6 : decode cX11_needPiece 6 = .ok (.getfield 23, 3) := by decide +kernel
theorem dX11_needPiece_9 : decode cX11_needPiece 9 = .ok (.getfield 129, 3) := by decide +kernel
theorem dX11_needPiece_12 : decode cX11_needPiece 12 = .ok (.if_icmp .lt 14, 3) := by decide +kernel
theorem dX11_needPiece_15 : decode cX11_needPiece 15 = .ok (.new 160, 3) := by decide +kernel
theorem dX11_needPiece_18 : decode cX11_needPiece 18 = .ok (.dup, 1) := by decide +kernel
theorem dX11_needPiece_19 : decode cX11_needPiece 19 = .ok (.ldc_w 389, 3) := by decide +kernel
theorem dX11_needPiece_22 : decode cX11_needPiece 22 = .ok (.invokespecial 164, 3) := by decide +kernel
theorem dX11_needPiece_25 : decode cX11_needPiece 25 = .ok (.athrow, 1) := by decide +kernel
theorem dX11_needPiece_26 : decode cX11_needPiece 26 = .ok (.return_, 1) := by decide +kernel
theorem dX11_needWhat_0 : decode cX11_needWhat 0 = .ok (.iload_n 0, 1) := by decide +kernel
theorem dX11_needWhat_1 : decode cX11_needWhat 1 = .ok (.ifCond .lt 8, 3) := by decide +kernel
theorem dX11_needWhat_4 : decode cX11_needWhat 4 = .ok (.iload_n 0, 1) := by decide +kernel
theorem dX11_needWhat_5 : decode cX11_needWhat 5 = .ok (.iload_n 1, 1) := by decide +kernel
theorem dX11_needWhat_6 : decode cX11_needWhat 6 = .ok (.if_icmp .le 14, 3) := by decide +kernel
theorem dX11_needWhat_9 : decode cX11_needWhat 9 = .ok (.new 160, 3) := by decide +kernel
theorem dX11_needWhat_12 : decode cX11_needWhat 12 = .ok (.dup, 1) := by decide +kernel
theorem dX11_needWhat_13 : decode cX11_needWhat 13 = .ok (.ldc_w 391, 3) := by decide +kernel
theorem dX11_needWhat_16 : decode cX11_needWhat 16 = .ok (.invokespecial 164, 3) := by decide +kernel
theorem dX11_needWhat_19 : decode cX11_needWhat 19 = .ok (.athrow, 1) := by decide +kernel
theorem dX11_needWhat_20 : decode cX11_needWhat 20 = .ok (.return_, 1) := by decide +kernel
theorem dX11_needBetween_0 : decode cX11_needBetween 0 = .ok (.iload_n 0, 1) := by decide +kernel
theorem dX11_needBetween_1 : decode cX11_needBetween 1 = .ok (.iload_n 1, 1) := by decide +kernel
theorem dX11_needBetween_2 : decode cX11_needBetween 2 = .ok (.if_icmp .lt 8, 3) := by decide +kernel
theorem dX11_needBetween_5 : decode cX11_needBetween 5 = .ok (.iload_n 0, 1) := by decide +kernel
theorem dX11_needBetween_6 : decode cX11_needBetween 6 = .ok (.iload_n 2, 1) := by decide +kernel
theorem dX11_needBetween_7 : decode cX11_needBetween 7 = .ok (.if_icmp .le 14, 3) := by decide +kernel
theorem dX11_needBetween_10 : decode cX11_needBetween 10 = .ok (.new 104, 3) := by decide +kernel
theorem dX11_needBetween_13 : decode cX11_needBetween 13 = .ok (.dup, 1) := by decide +kernel
theorem dX11_needBetween_14 : decode cX11_needBetween 14 = .ok (.ldc_w 393, 3) := by decide +kernel
theorem dX11_needBetween_17 : decode cX11_needBetween 17 = .ok (.invokespecial 108, 3) := by decide +kernel
theorem dX11_needBetween_20 : decode cX11_needBetween 20 = .ok (.athrow, 1) := by decide +kernel
theorem dX11_needBetween_21 : decode cX11_needBetween 21 = .ok (.return_, 1) := by decide +kernel
