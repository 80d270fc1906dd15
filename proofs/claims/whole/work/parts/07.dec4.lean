theorem dX12_begin_53 : decode cX12_begin 53 = .ok (.istore_n 3, 1) := by decide +kernel
theorem dX12_begin_54 : decode cX12_begin 54 = .ok (.aload_n 0, 1) := by decide +kernel
theorem dX12_begin_55 : decode cX12_begin 55 = .ok (.getfield 82, 3) := by decide +kernel
theorem dX12_begin_58 : decode cX12_begin 58 = .ok (.iload_n 1, 1) := by decide +kernel
theorem dX12_begin_59 : decode cX12_begin 59 = .ok (.iload_n 2, 1) := by decide +kernel
theorem dX12_begin_60 : decode cX12_begin 60 = .ok (.iastore, 1) := by decide +kernel
theorem dX12_begin_61 : decode cX12_begin 61 = .ok (.aload_n 0, 1) := by decide +kernel
theorem dX12_begin_62 : decode cX12_begin 62 = .ok (.getfield 85, 3) := by decide +kernel
theorem dX12_begin_65 : decode cX12_begin 65 = .ok (.iload_n 1, 1) := by decide +kernel
theorem dX12_begin_66 : decode cX12_begin 66 = .ok (.iconst 0, 1) := by decide +kernel
theorem dX12_begin_67 : decode cX12_begin 67 = .ok (.iastore, 1) := by decide +kernel
theorem dX12_begin_68 : decode cX12_begin 68 = .ok (.iload_n 3, 1) := by decide +kernel
theorem dX12_begin_69 : decode cX12_begin 69 = .ok (.ireturn, 1) := by decide +kernel
theorem dX12_pianos_0 : decode cX12_pianos 0 = .ok (.aload_n 0, 1) := by decide +kernel
theorem dX12_pianos_1 : decode cX12_pianos 1 = .ok (.iconst 0, 1) := by decide +kernel
theorem dX12_pianos_2 : decode cX12_pianos 2 = .ok (.putfield 152, 3) := by decide +kernel
theorem dX12_pianos_5 : decode cX12_pianos 5 = .ok (.iload_n 1, 1) := by decide +kernel
theorem dX12_pianos_6 : decode cX12_pianos 6 = .ok (.i2l, 1) := by decide +kernel
theorem dX12_pianos_7 : decode cX12_pianos 7 = .ok (.lconst 1, 1) := by decide +kernel
theorem dX12_pianos_8 : decode cX12_pianos 8 = .ok (.ldc2_w 398, 3) := by decide +kernel
theorem dX12_pianos_11 : decode cX12_pianos 11 = .ok (.invokestatic 155, 3) := by decide +kernel
theorem dX12_pianos_14 : decode cX12_pianos 14 = .ok (.ifCond .ne 9, 3) := by decide +kernel
theorem dX12_pianos_17 : decode cX12_pianos 17 = .ok (.aload_n 0, 1) := by decide +kernel
theorem dX12_pianos_18 : decode cX12_pianos 18 = .ok (.iconst 1, 1) := by decide +kernel
theorem dX12_pianos_19 : decode cX12_pianos 19 = .ok (.invokevirtual 384, 3) := by decide +kernel
theorem dX12_pianos_22 : decode cX12_pianos 22 = .ok (.ireturn, 1) := by decide +kernel
theorem dX12_pianos_23 : decode cX12_pianos 23 = .ok (.aload_n 0, 1) := by decide +kernel
theorem dX12_pianos_24 : decode cX12_pianos 24 = .ok (.invokevirtual 387, 3) := by decide +kernel
theorem dX12_pianos_27 : decode cX12_pianos 27 = .ok (.aload_n 0, 1) := by decide +kernel
theorem dX12_pianos_28 : decode cX12_pianos 28 = .ok (.getfield 149, 3) := by decide +kernel
theorem dX12_pianos_31 : decode cX12_pianos 31 = .ok (.istore_n 2, 1) := by decide +kernel
theorem dX12_pianos_32 : decode cX12_pianos 32 = .ok (.aload_n 0, 1) := by decide +kernel
theorem dX12_pianos_33 : decode cX12_pianos 33 = .ok (.iload_n 1, 1) := by decide +kernel
theorem dX12_pianos_34 : decode cX12_pianos 34 = .ok (.putfield 149, 3) := by decide +kernel
theorem dX12_pianos_37 : decode cX12_pianos 37 = .ok (.iload_n 2, 1) := by decide +kernel
theorem dX12_pianos_38 : decode cX12_pianos 38 = .ok (.ireturn, 1) := by decide +kernel
theorem dX12_undo_0 : decode cX12_undo 0 = .ok (.aload_n 0, 1) := by decide +kernel
theorem dX12_undo_1 : decode cX12_undo 1 = .ok (.iconst 0, 1) := by decide +kernel
theorem dX12_undo_2 : decode cX12_undo 2 = .ok (.putfield 152, 3) := by decide +kernel
theorem dX12_undo_5 : decode cX12_undo 5 = .ok (.aload_n 0, 1) := by decide +kernel
theorem dX12_undo_6 : decode cX12_undo 6 = .ok (.getfield 299, 3) := by decide +kernel
theorem dX12_undo_9 : decode cX12_undo 9 = .ok (.ifCond .ne 5, 3) := by decide +kernel
theorem dX12_undo_12 : decode cX12_undo 12 = .ok (.iconst (-1), 1) := by decide +kernel
theorem dX12_undo_13 : decode cX12_undo 13 = .ok (.ireturn, 1) := by decide +kernel
theorem dX12_undo_14 : decode cX12_undo 14 = .ok (.aload_n 0, 1) := by decide +kernel
theorem dX12_undo_15 : decode cX12_undo 15 = .ok (.dup, 1) := by decide +kernel
theorem dX12_undo_16 : decode cX12_undo 16 = .ok (.getfield 299, 3) := by decide +kernel
theorem dX12_undo_19 : decode cX12_undo 19 = .ok (.iconst 1, 1) := by decide +kernel
theorem dX12_undo_20 : decode cX12_undo 20 = .ok (.isub, 1) := by decide +kernel
theorem dX12_undo_21 : decode cX12_undo 21 = .ok (.putfield 299, 3) := by decide +kernel
theorem dX12_undo_24 : decode cX12_undo 24 = .ok (.aload_n 0, 1) := by decide +kernel
theorem dX12_undo_25 : decode cX12_undo 25 = .ok (.aload_n 0, 1) := by decide +kernel
theorem dX12_undo_26 : decode cX12_undo 26 = .ok (.getfield 89, 3) := by decide +kernel
theorem dX12_undo_29 : decode cX12_undo 29 = .ok (.bipush 37, 2) := by decide +kernel
theorem dX12_undo_31 : decode cX12_undo 31 = .ok (.aload_n 0, 1) := by decide +kernel
theorem dX12_undo_32 : decode cX12_undo 32 = .ok (.getfield 299, 3) := by decide +kernel
theorem dX12_undo_35 : decode cX12_undo 35 = .ok (.imul, 1) := by decide +kernel
theorem dX12_undo_36 : decode cX12_undo 36 = .ok (.invokevirtual 400, 3) := by decide +kernel
theorem dX12_undo_39 : decode cX12_undo 39 = .ok (.aload_n 0, 1) := by decide +kernel
theorem dX12_undo_40 : decode cX12_undo 40 = .ok (.getfield 299, 3) := by decide +kernel
theorem dX12_undo_43 : decode cX12_undo 43 = .ok (.ireturn, 1) := by decide +kernel
theorem dX12_then_0 : decode cX12_then 0 = .ok (.aload_n 0, 1) := by decide +kernel
theorem dX12_then_1 : decode cX12_then 1 = .ok (.iconst 0, 1) := by decide +kernel
theorem dX12_then_2 : decode cX12_then 2 = .ok (.putfield 152, 3) := by decide +kernel
theorem dX12_then_5 : decode cX12_then 5 = .ok (.aload_n 0, 1) := by decide +kernel
theorem dX12_then_6 : decode cX12_then 6 = .ok (.iload_n 1, 1) := by decide +kernel
theorem dX12_then_7 : decode cX12_then 7 = .ok (.invokevirtual 375, 3) := by decide +kernel
theorem dX12_then_10 : decode cX12_then 10 = .ok (.ifCond .eq 15, 3) := by decide +kernel
theorem dX12_then_13 : decode cX12_then 13 = .ok (.iload_n 3, 1) := by decide +kernel
theorem dX12_then_14 : decode cX12_then 14 = .ok (.i2l, 1) := by decide +kernel
theorem dX12_then_15 : decode cX12_then 15 = .ok (.lconst 0, 1) := by decide +kernel
theorem dX12_then_16 : decode cX12_then 16 = .ok (.ldc2_w 370, 3) := by decide +kernel
theorem dX12_then_19 : decode cX12_then 19 = .ok (.invokestatic 155, 3) := by decide +kernel
theorem dX12_then_22 : decode cX12_then 22 = .ok (.ifCond .ne 9, 3) := by decide +kernel
theorem dX12_then_25 : decode cX12_then 25 = .ok (.aload_n 0, 1) := by decide +kernel
theorem dX12_then_26 : decode cX12_then 26 = .ok (.iconst 1, 1) := by decide +kernel
theorem dX12_then_27 : decode cX12_then 27 = .ok (.invokevirtual 283, 3) := by decide +kernel
theorem dX12_then_30 : decode cX12_then 30 = .ok (.ireturn, 1) := by decide +kernel
theorem dX12_then_31 : decode cX12_then 31 = .ok (.iload_n 2, 1) := by decide +kernel
theorem dX12_then_32 : decode cX12_then 32 = .ok (.i2l, 1) := by decide +kernel
theorem dX12_then_33 : decode cX12_then 33 = .ok (.lconst 0, 1) := by decide +kernel
theorem dX12_then_34 : decode cX12_then 34 = .ok (.ldc2_w 403, 3) := by decide +kernel
theorem dX12_then_37 : decode cX12_then 37 = .ok (.invokestatic 155, 3) := by decide +kernel
theorem dX12_then_40 : decode cX12_then 40 = .ok (.ifCond .ne 9, 3) := by decide +kernel
theorem dX12_then_43 : decode cX12_then 43 = .ok (.aload_n 0, 1) := by decide +kernel
theorem dX12_then_44 : decode cX12_then 44 = .ok (.iconst 2, 1) := by decide +kernel
theorem dX12_then_45 : decode cX12_then 45 = .ok (.invokevirtual 283, 3) := by decide +kernel
theorem dX12_then_48 : decode cX12_then 48 = .ok (.ireturn, 1) := by decide +kernel
theorem dX12_then_49 : decode cX12_then 49 = .ok (.aload_n 0, 1) := by decide +kernel
theorem dX12_then_50 : decode cX12_then 50 = .ok (.aload_n 0, 1) := by decide +kernel
theorem dX12_then_51 : decode cX12_then 51 = .ok (.getfield 98, 3) := by decide +kernel
theorem dX12_then_54 : decode cX12_then 54 = .ok (.iconst 0, 1) := by decide +kernel
theorem dX12_then_55 : decode cX12_then 55 = .ok (.invokevirtual 378, 3) := by decide +kernel
theorem dX12_then_58 : decode cX12_then 58 = .ok (.aload_n 0, 1) := by decide +kernel
theorem dX12_then_59 : decode cX12_then 59 = .ok (.iload_n 2, 1) := by decide +kernel
theorem dX12_then_60 : decode cX12_then 60 = .ok (.invokevirtual 390, 3) := by decide +kernel
theorem dX12_then_63 : decode cX12_then 63 = .ok (.iload_n 3, 1) := by decide +kernel
theorem dX12_then_64 : decode cX12_then 64 = .ok (.ifCond .ne 12, 3) := by decide +kernel
theorem dX12_then_67 : decode cX12_then 67 = .ok (.aload_n 0, 1) := by decide +kernel
theorem dX12_then_68 : decode cX12_then 68 = .ok (.getfield 76, 3) := by decide +kernel
theorem dX12_then_71 : decode cX12_then 71 = .ok (.iload_n 1, 1) := by decide +kernel
theorem dX12_then_72 : decode cX12_then 72 = .ok (.iaload, 1) := by decide +kernel
theorem dX12_then_73 : decode cX12_then 73 = .ok (.goto 23, 3) := by decide +kernel
theorem dX12_then_76 : decode cX12_then 76 = .ok (.iload_n 3, 1) := by decide +kernel
theorem dX12_then_77 : decode cX12_then 77 = .ok (.iconst 1, 1) := by decide +kernel
theorem dX12_then_78 : decode cX12_then 78 = .ok (.if_icmp .ne 12, 3) := by decide +kernel
theorem dX12_then_81 : decode cX12_then 81 = .ok (.aload_n 0, 1) := by decide +kernel
theorem dX12_then_82 : decode cX12_then 82 = .ok (.getfield 85, 3) := by decide +kernel
theorem dX12_then_85 : decode cX12_then 85 = .ok (.iload_n 1, 1) := by decide +kernel
theorem dX12_then_86 : decode cX12_then 86 = .ok (.iaload, 1) := by decide +kernel
theorem dX12_then_87 : decode cX12_then 87 = .ok (.goto 9, 3) := by decide +kernel
theorem dX12_then_90 : decode cX12_then 90 = .ok (.aload_n 0, 1) := by decide +kernel
theorem dX12_then_91 : decode cX12_then 91 = .ok (.getfield 79, 3) := by decide +kernel
theorem dX12_then_94 : decode cX12_then 94 = .ok (.iload_n 1, 1) := by decide +kernel
theorem dX12_then_95 : decode cX12_then 95 = .ok (.iaload, 1) := by decide +kernel
theorem dX12_then_96 : decode cX12_then 96 = .ok (.istore 4, 2) := by decide +kernel
theorem dX12_then_98 : decode cX12_then 98 = .ok (.aload_n 0, 1) := by decide +kernel
theorem dX12_then_99 : decode cX12_then 99 = .ok (.aload_n 0, 1) := by decide +kernel
theorem dX12_then_100 : decode cX12_then 100 = .ok (.getfield 98, 3) := by decide +kernel
theorem dX12_then_103 : decode cX12_then 103 = .ok (.iconst 0, 1) := by decide +kernel
theorem dX12_then_104 : decode cX12_then 104 = .ok (.invokevirtual 400, 3) := by decide +kernel
theorem dX12_then_107 : decode cX12_then 107 = .ok (.iload 4, 2) := by decide +kernel
theorem dX12_then_109 : decode cX12_then 109 = .ok (.ireturn, 1) := by decide +kernel
theorem dX12_done_0 : decode cX12_done 0 = .ok (.aload_n 0, 1) := by decide +kernel
theorem dX12_done_1 : decode cX12_done 1 = .ok (.iconst 0, 1) := by decide +kernel
theorem dX12_done_2 : decode cX12_done 2 = .ok (.putfield 152, 3) := by decide +kernel
theorem dX12_done_5 : decode cX12_done 5 = .ok (.aload_n 0, 1) := by decide +kernel
theorem dX12_done_6 : decode cX12_done 6 = .ok (.iload_n 1, 1) := by decide +kernel
theorem dX12_done_7 : decode cX12_done 7 = .ok (.invokevirtual 375, 3) := by decide +kernel
theorem dX12_done_10 : decode cX12_done 10 = .ok (.ifCond .ne 9, 3) := by decide +kernel
theorem dX12_done_13 : decode cX12_done 13 = .ok (.aload_n 0, 1) := by decide +kernel
theorem dX12_done_14 : decode cX12_done 14 = .ok (.iconst 1, 1) := by decide +kernel
theorem dX12_done_15 : decode cX12_done 15 = .ok (.invokevirtual 283, 3) := by decide +kernel
theorem dX12_done_18 : decode cX12_done 18 = .ok (.ireturn, 1) := by decide +kernel
theorem dX12_done_19 : decode cX12_done 19 = .ok (.aload_n 0, 1) := by decide +kernel
theorem dX12_done_20 : decode cX12_done 20 = .ok (.aload_n 0, 1) := by decide +kernel
theorem dX12_done_21 : decode cX12_done 21 = .ok (.getfield 98, 3) := by decide +kernel
theorem dX12_done_24 : decode cX12_done 24 = .ok (.iconst 0, 1) := by decide +kernel
theorem dX12_done_25 : decode cX12_done 25 = .ok (.invokevirtual 378, 3) := by decide +kernel
theorem dX12_done_28 : decode cX12_done 28 = .ok (.iconst (-1), 1) := by decide +kernel
theorem dX12_done_29 : decode cX12_done 29 = .ok (.istore_n 2, 1) := by decide +kernel
theorem dX12_done_30 : decode cX12_done 30 = .ok (.iconst 0, 1) := by decide +kernel
theorem dX12_done_31 : decode cX12_done 31 = .ok (.istore_n 3, 1) := by decide +kernel
theorem dX12_done_32 : decode cX12_done 32 = .ok (.iload_n 3, 1) := by decide +kernel
theorem dX12_done_33 : decode cX12_done 33 = .ok (.bipush 60, 2) := by decide +kernel
theorem dX12_done_35 : decode cX12_done 35 = .ok (.if_icmp .gt 28, 3) := by decide +kernel
theorem dX12_done_38 : decode cX12_done 38 = .ok (.iload_n 2, 1) := by decide +kernel
theorem dX12_done_39 : decode cX12_done 39 = .ok (.iconst (-1), 1) := by decide +kernel
theorem dX12_done_40 : decode cX12_done 40 = .ok (.if_icmp .ne 23, 3) := by decide +kernel
theorem dX12_done_43 : decode cX12_done 43 = .ok (.aload_n 0, 1) := by decide +kernel
theorem dX12_done_44 : decode cX12_done 44 = .ok (.iload_n 1, 1) := by decide +kernel
theorem dX12_done_45 : decode cX12_done 45 = .ok (.invokevirtual 313, 3) := by decide +kernel
theorem dX12_done_48 : decode cX12_done 48 = .ok (.ifCond .eq 5, 3) := by decide +kernel
theorem dX12_done_51 : decode cX12_done 51 = .ok (.iload_n 3, 1) := by decide +kernel
theorem dX12_done_52 : decode cX12_done 52 = .ok (.istore_n 2, 1) := by decide +kernel
theorem dX12_done_53 : decode cX12_done 53 = .ok (.aload_n 0, 1) := by decide +kernel
theorem dX12_done_54 : decode cX12_done 54 = .ok (.invokevirtual 346, 3) := by decide +kernel
theorem dX12_done_57 : decode cX12_done 57 = .ok (.iinc 3 1, 3) := by decide +kernel
theorem dX12_done_60 : decode cX12_done 60 = .ok (.goto (-28), 3) := by decide +kernel
theorem dX12_done_63 : decode cX12_done 63 = .ok (.aload_n 0, 1) := by decide +kernel
theorem dX12_done_64 : decode cX12_done 64 = .ok (.aload_n 0, 1) := by decide +kernel
theorem dX12_done_65 : decode cX12_done 65 = .ok (.getfield 98, 3) := by decide +kernel
theorem dX12_done_68 : decode cX12_done 68 = .ok (.iconst 0, 1) := by decide +kernel
theorem dX12_done_69 : decode cX12_done 69 = .ok (.invokevirtual 400, 3) := by decide +kernel
theorem dX12_done_72 : decode cX12_done 72 = .ok (.iload_n 2, 1) := by decide +kernel
theorem dX12_done_73 : decode cX12_done 73 = .ok (.ireturn, 1) := by decide +kernel
theorem dX12_heard_0 : decode cX12_heard 0 = .ok (.aload_n 0, 1) := by decide +kernel
theorem dX12_heard_1 : decode cX12_heard 1 = .ok (.iconst 0, 1) := by decide +kernel
theorem dX12_heard_2 : decode cX12_heard 2 = .ok (.putfield 152, 3) := by decide +kernel
theorem dX12_heard_5 : decode cX12_heard 5 = .ok (.iload_n 1, 1) := by decide +kernel
theorem dX12_heard_6 : decode cX12_heard 6 = .ok (.i2l, 1) := by decide +kernel
theorem dX12_heard_7 : decode cX12_heard 7 = .ok (.lconst 0, 1) := by decide +kernel
theorem dX12_heard_8 : decode cX12_heard 8 = .ok (.ldc2_w 403, 3) := by decide +kernel
theorem dX12_heard_11 : decode cX12_heard 11 = .ok (.invokestatic 155, 3) := by decide +kernel
theorem dX12_heard_14 : decode cX12_heard 14 = .ok (.ifCond .ne 9, 3) := by decide +kernel
theorem dX12_heard_17 : decode cX12_heard 17 = .ok (.aload_n 0, 1) := by decide +kernel
theorem dX12_heard_18 : decode cX12_heard 18 = .ok (.iconst 1, 1) := by decide +kernel
theorem dX12_heard_19 : decode cX12_heard 19 = .ok (.invokevirtual 283, 3) := by decide +kernel
theorem dX12_heard_22 : decode cX12_heard 22 = .ok (.ireturn, 1) := by decide +kernel
theorem dX12_heard_23 : decode cX12_heard 23 = .ok (.aload_n 0, 1) := by decide +kernel
theorem dX12_heard_24 : decode cX12_heard 24 = .ok (.aload_n 0, 1) := by decide +kernel
theorem dX12_heard_25 : decode cX12_heard 25 = .ok (.getfield 98, 3) := by decide +kernel
theorem dX12_heard_28 : decode cX12_heard 28 = .ok (.iconst 0, 1) := by decide +kernel
theorem dX12_heard_29 : decode cX12_heard 29 = .ok (.invokevirtual 378, 3) := by decide +kernel
theorem dX12_heard_32 : decode cX12_heard 32 = .ok (.aload_n 0, 1) := by decide +kernel
theorem dX12_heard_33 : decode cX12_heard 33 = .ok (.invokevirtual 405, 3) := by decide +kernel
theorem dX12_heard_36 : decode cX12_heard 36 = .ok (.istore_n 2, 1) := by decide +kernel
theorem dX12_heard_37 : decode cX12_heard 37 = .ok (.aload_n 0, 1) := by decide +kernel
theorem dX12_heard_38 : decode cX12_heard 38 = .ok (.iload_n 1, 1) := by decide +kernel
theorem dX12_heard_39 : decode cX12_heard 39 = .ok (.invokevirtual 390, 3) := by decide +kernel
theorem dX12_heard_42 : decode cX12_heard 42 = .ok (.aload_n 0, 1) := by decide +kernel
theorem dX12_heard_43 : decode cX12_heard 43 = .ok (.invokevirtual 405, 3) := by decide +kernel
theorem dX12_heard_46 : decode cX12_heard 46 = .ok (.iload_n 2, 1) := by decide +kernel
theorem dX12_heard_47 : decode cX12_heard 47 = .ok (.isub, 1) := by decide +kernel
theorem dX12_heard_48 : decode cX12_heard 48 = .ok (.istore_n 3, 1) := by decide +kernel
theorem dX12_heard_49 : decode cX12_heard 49 = .ok (.aload_n 0, 1) := by decide +kernel
theorem dX12_heard_50 : decode cX12_heard 50 = .ok (.aload_n 0, 1) := by decide +kernel
theorem dX12_heard_51 : decode cX12_heard 51 = .ok (.getfield 98, 3) := by decide +kernel
theorem dX12_heard_54 : decode cX12_heard 54 = .ok (.iconst 0, 1) := by decide +kernel
theorem dX12_heard_55 : decode cX12_heard 55 = .ok (.invokevirtual 400, 3) := by decide +kernel
theorem dX12_heard_58 : decode cX12_heard 58 = .ok (.iload_n 3, 1) := by decide +kernel
theorem dX12_heard_59 : decode cX12_heard 59 = .ok (.ireturn, 1) := by decide +kernel
theorem dX12_best_0 : decode cX12_best 0 = .ok (.aload_n 0, 1) := by decide +kernel
theorem dX12_best_1 : decode cX12_best 1 = .ok (.iconst 0, 1) := by decide +kernel
theorem dX12_best_2 : decode cX12_best 2 = .ok (.putfield 152, 3) := by decide +kernel
theorem dX12_best_5 : decode cX12_best 5 = .ok (.iload_n 1, 1) := by decide +kernel
theorem dX12_best_6 : decode cX12_best 6 = .ok (.i2l, 1) := by decide +kernel
theorem dX12_best_7 : decode cX12_best 7 = .ok (.lconst 0, 1) := by decide +kernel
theorem dX12_best_8 : decode cX12_best 8 = .ok (.ldc2_w 403, 3) := by decide +kernel
theorem dX12_best_11 : decode cX12_best 11 = .ok (.invokestatic 155, 3) := by decide +kernel
theorem dX12_best_14 : decode cX12_best 14 = .ok (.ifCond .ne 9, 3) := by decide +kernel
theorem dX12_best_17 : decode cX12_best 17 = .ok (.aload_n 0, 1) := by decide +kernel
theorem dX12_best_18 : decode cX12_best 18 = .ok (.iconst 1, 1) := by decide +kernel
theorem dX12_best_19 : decode cX12_best 19 = .ok (.invokevirtual 283, 3) := by decide +kernel
theorem dX12_best_22 : decode cX12_best 22 = .ok (.ireturn, 1) := by decide +kernel
theorem dX12_best_23 : decode cX12_best 23 = .ok (.aload_n 0, 1) := by decide +kernel
theorem dX12_best_24 : decode cX12_best 24 = .ok (.aload_n 0, 1) := by decide +kernel
theorem dX12_best_25 : decode cX12_best 25 = .ok (.getfield 98, 3) := by decide +kernel
theorem dX12_best_28 : decode cX12_best 28 = .ok (.iconst 0, 1) := by decide +kernel
theorem dX12_best_29 : decode cX12_best 29 = .ok (.invokevirtual 378, 3) := by decide +kernel
theorem dX12_best_32 : decode cX12_best 32 = .ok (.aload_n 0, 1) := by decide +kernel
theorem dX12_best_33 : decode cX12_best 33 = .ok (.iload_n 1, 1) := by decide +kernel
theorem dX12_best_34 : decode cX12_best 34 = .ok (.invokevirtual 390, 3) := by decide +kernel
theorem dX12_best_37 : decode cX12_best 37 = .ok (.iconst (-1), 1) := by decide +kernel
theorem dX12_best_38 : decode cX12_best 38 = .ok (.istore_n 2, 1) := by decide +kernel
theorem dX12_best_39 : decode cX12_best 39 = .ok (.iconst 0, 1) := by decide +kernel
theorem dX12_best_40 : decode cX12_best 40 = .ok (.istore_n 3, 1) := by decide +kernel
theorem dX12_best_41 : decode cX12_best 41 = .ok (.iload_n 3, 1) := by decide +kernel
theorem dX12_best_42 : decode cX12_best 42 = .ok (.aload_n 0, 1) := by decide +kernel
theorem dX12_best_43 : decode cX12_best 43 = .ok (.getfield 41, 3) := by decide +kernel
theorem dX12_best_46 : decode cX12_best 46 = .ok (.iconst 1, 1) := by decide +kernel
theorem dX12_best_47 : decode cX12_best 47 = .ok (.iaload, 1) := by decide +kernel
theorem dX12_best_48 : decode cX12_best 48 = .ok (.if_icmp .ge 31, 3) := by decide +kernel
theorem dX12_best_51 : decode cX12_best 51 = .ok (.iload_n 2, 1) := by decide +kernel
theorem dX12_best_52 : decode cX12_best 52 = .ok (.iconst (-1), 1) := by decide +kernel
theorem dX12_best_53 : decode cX12_best 53 = .ok (.if_icmp .eq 18, 3) := by decide +kernel
theorem dX12_best_56 : decode cX12_best 56 = .ok (.aload_n 0, 1) := by decide +kernel
theorem dX12_best_57 : decode cX12_best 57 = .ok (.getfield 76, 3) := by decide +kernel
theorem dX12_best_60 : decode cX12_best 60 = .ok (.iload_n 3, 1) := by decide +kernel
theorem dX12_best_61 : decode cX12_best 61 = .ok (.iaload, 1) := by decide +kernel
theorem dX12_best_62 : decode cX12_best 62 = .ok (.aload_n 0, 1) := by decide +kernel
theorem dX12_best_63 : decode cX12_best 63 = .ok (.getfield 76, 3) := by decide +kernel
theorem dX12_best_66 : decode cX12_best 66 = .ok (.iload_n 2, 1) := by decide +kernel
theorem dX12_best_67 : decode cX12_best 67 = .ok (.iaload, 1) := by decide +kernel
theorem dX12_best_68 : decode cX12_best 68 = .ok (.if_icmp .le 5, 3) := by decide +kernel
theorem dX12_best_71 : decode cX12_best 71 = .ok (.iload_n 3, 1) := by decide +kernel
theorem dX12_best_72 : decode cX12_best 72 = .ok (.istore_n 2, 1) := by decide +kernel
theorem dX12_best_73 : decode cX12_best 73 = .ok (.iinc 3 1, 3) := by decide +kernel
theorem dX12_best_76 : decode cX12_best 76 = .ok (.goto (-35), 3) := by decide +kernel
theorem dX12_best_79 : decode cX12_best 79 = .ok (.aload_n 0, 1) := by decide +kernel
theorem dX12_best_80 : decode cX12_best 80 = .ok (.aload_n 0, 1) := by decide +kernel
theorem dX12_best_81 : decode cX12_best 81 = .ok (.getfield 98, 3) := by decide +kernel
theorem dX12_best_84 : decode cX12_best 84 = .ok (.iconst 0, 1) := by decide +kernel
theorem dX12_best_85 : decode cX12_best 85 = .ok (.invokevirtual 400, 3) := by decide +kernel
theorem dX12_best_88 : decode cX12_best 88 = .ok (.iload_n 2, 1) := by decide +kernel
theorem dX12_best_89 : decode cX12_best 89 = .ok (.ireturn, 1) := by decide +kernel
theorem dX12_sorest_0 : decode cX12_sorest 0 = .ok (.aload_n 0, 1) := by decide +kernel
theorem dX12_sorest_1 : decode cX12_sorest 1 = .ok (.iconst 0, 1) := by decide +kernel
theorem dX12_sorest_2 : decode cX12_sorest 2 = .ok (.putfield 152, 3) := by decide +kernel
theorem dX12_sorest_5 : decode cX12_sorest 5 = .ok (.iload_n 1, 1) := by decide +kernel
theorem dX12_sorest_6 : decode cX12_sorest 6 = .ok (.i2l, 1) := by decide +kernel
theorem dX12_sorest_7 : decode cX12_sorest 7 = .ok (.lconst 0, 1) := by decide +kernel
theorem dX12_sorest_8 : decode cX12_sorest 8 = .ok (.ldc2_w 403, 3) := by decide +kernel
theorem dX12_sorest_11 : decode cX12_sorest 11 = .ok (.invokestatic 155, 3) := by decide +kernel
theorem dX12_sorest_14 : decode cX12_sorest 14 = .ok (.ifCond .ne 9, 3) := by decide +kernel
theorem dX12_sorest_17 : decode cX12_sorest 17 = .ok (.aload_n 0, 1) := by decide +kernel
theorem dX12_sorest_18 : decode cX12_sorest 18 = .ok (.iconst 1, 1) := by decide +kernel
theorem dX12_sorest_19 : decode cX12_sorest 19 = .ok (.invokevirtual 283, 3) := by decide +kernel
theorem dX12_sorest_22 : decode cX12_sorest 22 = .ok (.ireturn, 1) := by decide +kernel
theorem dX12_sorest_23 : decode cX12_sorest 23 = .ok (.aload_n 0, 1) := by decide +kernel
theorem dX12_sorest_24 : decode cX12_sorest 24 = .ok (.aload_n 0, 1) := by decide +kernel
theorem dX12_sorest_25 : decode cX12_sorest 25 = .ok (.getfield 98, 3) := by decide +kernel
theorem dX12_sorest_28 : decode cX12_sorest 28 = .ok (.iconst 0, 1) := by decide +kernel
theorem dX12_sorest_29 : decode cX12_sorest 29 = .ok (.invokevirtual 378, 3) := by decide +kernel
theorem dX12_sorest_32 : decode cX12_sorest 32 = .ok (.aload_n 0, 1) := by decide +kernel
theorem dX12_sorest_33 : decode cX12_sorest 33 = .ok (.iload_n 1, 1) := by decide +kernel
theorem dX12_sorest_34 : decode cX12_sorest 34 = .ok (.invokevirtual 390, 3) := by decide +kernel
theorem dX12_sorest_37 : decode cX12_sorest 37 = .ok (.iconst (-1), 1) := by decide +kernel
theorem dX12_sorest_38 : decode cX12_sorest 38 = .ok (.istore_n 2, 1) := by decide +kernel
theorem dX12_sorest_39 : decode cX12_sorest 39 = .ok (.iconst 0, 1) := by decide +kernel
theorem dX12_sorest_40 : decode cX12_sorest 40 = .ok (.istore_n 3, 1) := by decide +kernel
theorem dX12_sorest_41 : decode cX12_sorest 41 = .ok (.iload_n 3, 1) := by decide +kernel
theorem dX12_sorest_42 : decode cX12_sorest 42 = .ok (.aload_n 0, 1) := by decide +kernel
theorem dX12_sorest_43 : decode cX12_sorest 43 = .ok (.getfield 41, 3) := by decide +kernel
theorem dX12_sorest_46 : decode cX12_sorest 46 = .ok (.iconst 1, 1) := by decide +kernel
theorem dX12_sorest_47 : decode cX12_sorest 47 = .ok (.iaload, 1) := by decide +kernel
theorem dX12_sorest_48 : decode cX12_sorest 48 = .ok (.if_icmp .ge 31, 3) := by decide +kernel
theorem dX12_sorest_51 : decode cX12_sorest 51 = .ok (.iload_n 2, 1) := by decide +kernel
theorem dX12_sorest_52 : decode cX12_sorest 52 = .ok (.iconst (-1), 1) := by decide +kernel
theorem dX12_sorest_53 : decode cX12_sorest 53 = .ok (.if_icmp .eq 18, 3) := by decide +kernel
theorem dX12_sorest_56 : decode cX12_sorest 56 = .ok (.aload_n 0, 1) := by decide +kernel
theorem dX12_sorest_57 : decode cX12_sorest 57 = .ok (.getfield 79, 3) := by decide +kernel
theorem dX12_sorest_60 : decode cX12_sorest 60 = .ok (.iload_n 3, 1) := by decide +kernel
theorem dX12_sorest_61 : decode cX12_sorest 61 = .ok (.iaload, 1) := by decide +kernel
theorem dX12_sorest_62 : decode cX12_sorest 62 = .ok (.aload_n 0, 1) := by decide +kernel
theorem dX12_sorest_63 : decode cX12_sorest 63 = .ok (.getfield 79, 3) := by decide +kernel
theorem dX12_sorest_66 : decode cX12_sorest 66 = .ok (.iload_n 2, 1) := by decide +kernel
theorem dX12_sorest_67 : decode cX12_sorest 67 = .ok (.iaload, 1) := by decide +kernel
theorem dX12_sorest_68 : decode cX12_sorest 68 = .ok (.if_icmp .le 5, 3) := by decide +kernel
theorem dX12_sorest_71 : decode cX12_sorest 71 = .ok (.iload_n 3, 1) := by decide +kernel
theorem dX12_sorest_72 : decode cX12_sorest 72 = .ok (.istore_n 2, 1) := by decide +kernel
theorem dX12_sorest_73 : decode cX12_sorest 73 = .ok (.iinc 3 1, 3) := by decide +kernel
theorem dX12_sorest_76 : decode cX12_sorest 76 = .ok (.goto (-35), 3) := by decide +kernel
theorem dX12_sorest_79 : decode cX12_sorest 79 = .ok (.aload_n 0, 1) := by decide +kernel
theorem dX12_sorest_80 : decode cX12_sorest 80 = .ok (.aload_n 0, 1) := by decide +kernel
theorem dX12_sorest_81 : decode cX12_sorest 81 = .ok (.getfield 98, 3) := by decide +kernel
theorem dX12_sorest_84 : decode cX12_sorest 84 = .ok (.iconst 0, 1) := by decide +kernel
theorem dX12_sorest_85 : decode cX12_sorest 85 = .ok (.invokevirtual 400, 3) := by decide +kernel
theorem dX12_sorest_88 : decode cX12_sorest 88 = .ok (.iload_n 2, 1) := by decide +kernel
theorem dX12_sorest_89 : decode cX12_sorest 89 = .ok (.ireturn, 1) := by decide +kernel
theorem dX12_stuck_0 : decode cX12_stuck 0 = .ok (.aload_n 0, 1) := by decide +kernel
theorem dX12_stuck_1 : decode cX12_stuck 1 = .ok (.iconst 0, 1) := by decide +kernel
theorem dX12_stuck_2 : decode cX12_stuck 2 = .ok (.putfield 152, 3) := by decide +kernel
theorem dX12_stuck_5 : decode cX12_stuck 5 = .ok (.aload_n 0, 1) := by decide +kernel
theorem dX12_stuck_6 : decode cX12_stuck 6 = .ok (.aload_n 0, 1) := by decide +kernel
theorem dX12_stuck_7 : decode cX12_stuck 7 = .ok (.getfield 98, 3) := by decide +kernel
theorem dX12_stuck_10 : decode cX12_stuck 10 = .ok (.iconst 0, 1) := by decide +kernel
theorem dX12_stuck_11 : decode cX12_stuck 11 = .ok (.invokevirtual 378, 3) := by decide +kernel
theorem dX12_stuck_14 : decode cX12_stuck 14 = .ok (.aload_n 0, 1) := by decide +kernel
theorem dX12_stuck_15 : decode cX12_stuck 15 = .ok (.bipush 60, 2) := by decide +kernel
theorem dX12_stuck_17 : decode cX12_stuck 17 = .ok (.invokevirtual 390, 3) := by decide +kernel
theorem dX12_stuck_20 : decode cX12_stuck 20 = .ok (.iconst 1, 1) := by decide +kernel
theorem dX12_stuck_21 : decode cX12_stuck 21 = .ok (.aload_n 0, 1) := by decide +kernel
theorem dX12_stuck_22 : decode cX12_stuck 22 = .ok (.getfield 41, 3) := by decide +kernel
theorem dX12_stuck_25 : decode cX12_stuck 25 = .ok (.iconst 1, 1) := by decide +kernel
theorem dX12_stuck_26 : decode cX12_stuck 26 = .ok (.iaload, 1) := by decide +kernel
theorem dX12_stuck_27 : decode cX12_stuck 27 = .ok (.ishl, 1) := by decide +kernel
theorem dX12_stuck_28 : decode cX12_stuck 28 = .ok (.iconst 1, 1) := by decide +kernel
theorem dX12_stuck_29 : decode cX12_stuck 29 = .ok (.isub, 1) := by decide +kernel
theorem dX12_stuck_30 : decode cX12_stuck 30 = .ok (.aload_n 0, 1) := by decide +kernel
theorem dX12_stuck_31 : decode cX12_stuck 31 = .ok (.invokevirtual 361, 3) := by decide +kernel
theorem dX12_stuck_34 : decode cX12_stuck 34 = .ok (.iconst (-1), 1) := by decide +kernel
theorem dX12_stuck_35 : decode cX12_stuck 35 = .ok (.ixor, 1) := by decide +kernel
theorem dX12_stuck_36 : decode cX12_stuck 36 = .ok (.iand, 1) := by decide +kernel
theorem dX12_stuck_37 : decode cX12_stuck 37 = .ok (.istore_n 1, 1) := by decide +kernel
theorem dX12_stuck_38 : decode cX12_stuck 38 = .ok (.aload_n 0, 1) := by decide +kernel
theorem dX12_stuck_39 : decode cX12_stuck 39 = .ok (.aload_n 0, 1) := by decide +kernel
theorem dX12_stuck_40 : decode cX12_stuck 40 = .ok (.getfield 98, 3) := by decide +kernel
theorem dX12_stuck_43 : decode cX12_stuck 43 = .ok (.iconst 0, 1) := by decide +kernel
theorem dX12_stuck_44 : decode cX12_stuck 44 = .ok (.invokevirtual 400, 3) := by decide +kernel
theorem dX12_stuck_47 : decode cX12_stuck 47 = .ok (.iload_n 1, 1) := by decide +kernel
theorem dX12_stuck_48 : decode cX12_stuck 48 = .ok (.ireturn, 1) := by decide +kernel
theorem dX12_next_0 : decode cX12_next 0 = .ok (.aload_n 0, 1) := by decide +kernel
theorem dX12_next_1 : decode cX12_next 1 = .ok (.iconst 0, 1) := by decide +kernel
theorem dX12_next_2 : decode cX12_next 2 = .ok (.putfield 152, 3) := by decide +kernel
theorem dX12_next_5 : decode cX12_next 5 = .ok (.aload_n 0, 1) := by decide +kernel
theorem dX12_next_6 : decode cX12_next 6 = .ok (.iload_n 1, 1) := by decide +kernel
theorem dX12_next_7 : decode cX12_next 7 = .ok (.invokevirtual 375, 3) := by decide +kernel
theorem dX12_next_10 : decode cX12_next 10 = .ok (.ifCond .ne 9, 3) := by decide +kernel
theorem dX12_next_13 : decode cX12_next 13 = .ok (.aload_n 0, 1) := by decide +kernel
theorem dX12_next_14 : decode cX12_next 14 = .ok (.iconst 1, 1) := by decide +kernel
theorem dX12_next_15 : decode cX12_next 15 = .ok (.invokevirtual 283, 3) := by decide +kernel
theorem dX12_next_18 : decode cX12_next 18 = .ok (.ireturn, 1) := by decide +kernel
theorem dX12_next_19 : decode cX12_next 19 = .ok (.aload_n 0, 1) := by decide +kernel
theorem dX12_next_20 : decode cX12_next 20 = .ok (.aload_n 0, 1) := by decide +kernel
theorem dX12_next_21 : decode cX12_next 21 = .ok (.getfield 98, 3) := by decide +kernel
theorem dX12_next_24 : decode cX12_next 24 = .ok (.iconst 0, 1) := by decide +kernel
theorem dX12_next_25 : decode cX12_next 25 = .ok (.invokevirtual 378, 3) := by decide +kernel
theorem dX12_next_28 : decode cX12_next 28 = .ok (.aload_n 0, 1) := by decide +kernel
theorem dX12_next_29 : decode cX12_next 29 = .ok (.getfield 85, 3) := by decide +kernel
theorem dX12_next_32 : decode cX12_next 32 = .ok (.iload_n 1, 1) := by decide +kernel
theorem dX12_next_33 : decode cX12_next 33 = .ok (.iaload, 1) := by decide +kernel
theorem dX12_next_34 : decode cX12_next 34 = .ok (.istore_n 2, 1) := by decide +kernel
theorem dX12_next_35 : decode cX12_next 35 = .ok (.iconst (-1), 1) := by decide +kernel
theorem dX12_next_36 : decode cX12_next 36 = .ok (.istore_n 3, 1) := by decide +kernel
theorem dX12_next_37 : decode cX12_next 37 = .ok (.iconst 1, 1) := by decide +kernel
theorem dX12_next_38 : decode cX12_next 38 = .ok (.istore 4, 2) := by decide +kernel
theorem dX12_next_40 : decode cX12_next 40 = .ok (.iload 4, 2) := by decide +kernel
theorem dX12_next_42 : decode cX12_next 42 = .ok (.bipush 60, 2) := by decide +kernel
theorem dX12_next_44 : decode cX12_next 44 = .ok (.if_icmp .gt 31, 3) := by decide +kernel
theorem dX12_next_47 : decode cX12_next 47 = .ok (.iload_n 3, 1) := by decide +kernel
theorem dX12_next_48 : decode cX12_next 48 = .ok (.iconst (-1), 1) := by decide +kernel
theorem dX12_next_49 : decode cX12_next 49 = .ok (.if_icmp .ne 26, 3) := by decide +kernel
theorem dX12_next_52 : decode cX12_next 52 = .ok (.aload_n 0, 1) := by decide +kernel
theorem dX12_next_53 : decode cX12_next 53 = .ok (.invokevirtual 346, 3) := by decide +kernel
theorem dX12_next_56 : decode cX12_next 56 = .ok (.aload_n 0, 1) := by decide +kernel
theorem dX12_next_57 : decode cX12_next 57 = .ok (.getfield 85, 3) := by decide +kernel
theorem dX12_next_60 : decode cX12_next 60 = .ok (.iload_n 1, 1) := by decide +kernel
theorem dX12_next_61 : decode cX12_next 61 = .ok (.iaload, 1) := by decide +kernel
theorem dX12_next_62 : decode cX12_next 62 = .ok (.iload_n 2, 1) := by decide +kernel
theorem dX12_next_63 : decode cX12_next 63 = .ok (.if_icmp .le 6, 3) := by decide +kernel
theorem dX12_next_66 : decode cX12_next 66 = .ok (.iload 4, 2) := by decide +kernel
theorem dX12_next_68 : decode cX12_next 68 = .ok (.istore_n 3, 1) := by decide +kernel
theorem dX12_next_69 : decode cX12_next 69 = .ok (.iinc 4 1, 3) := by decide +kernel
theorem dX12_next_72 : decode cX12_next 72 = .ok (.goto (-32), 3) := by decide +kernel
theorem dX12_next_75 : decode cX12_next 75 = .ok (.aload_n 0, 1) := by decide +kernel
theorem dX12_next_76 : decode cX12_next 76 = .ok (.aload_n 0, 1) := by decide +kernel
theorem dX12_next_77 : decode cX12_next 77 = .ok (.getfield 98, 3) := by decide +kernel
theorem dX12_next_80 : decode cX12_next 80 = .ok (.iconst 0, 1) := by decide +kernel
theorem dX12_next_81 : decode cX12_next 81 = .ok (.invokevirtual 400, 3) := by decide +kernel
theorem dX12_next_84 : decode cX12_next 84 = .ok (.iload_n 3, 1) := by decide +kernel
theorem dX12_next_85 : decode cX12_next 85 = .ok (.ireturn, 1) := by decide +kernel
theorem dX12_rush_0 : decode cX12_rush 0 = .ok (.aload_n 0, 1) := by decide +kernel
theorem dX12_rush_1 : decode cX12_rush 1 = .ok (.iconst 0, 1) := by decide +kernel
theorem dX12_rush_2 : decode cX12_rush 2 = .ok (.putfield 152, 3) := by decide +kernel
theorem dX12_rush_5 : decode cX12_rush 5 = .ok (.iload_n 2, 1) := by decide +kernel
theorem dX12_rush_6 : decode cX12_rush 6 = .ok (.ifCond .lt 8, 3) := by decide +kernel
theorem dX12_rush_9 : decode cX12_rush 9 = .ok (.iload_n 2, 1) := by decide +kernel
theorem dX12_rush_10 : decode cX12_rush 10 = .ok (.iconst 1, 1) := by decide +kernel
theorem dX12_rush_11 : decode cX12_rush 11 = .ok (.if_icmp .le 9, 3) := by decide +kernel
theorem dX12_rush_14 : decode cX12_rush 14 = .ok (.aload_n 0, 1) := by decide +kernel
theorem dX12_rush_15 : decode cX12_rush 15 = .ok (.iconst 1, 1) := by decide +kernel
theorem dX12_rush_16 : decode cX12_rush 16 = .ok (.invokevirtual 283, 3) := by decide +kernel
theorem dX12_rush_19 : decode cX12_rush 19 = .ok (.ireturn, 1) := by decide +kernel
theorem dX12_rush_20 : decode cX12_rush 20 = .ok (.iload_n 1, 1) := by decide +kernel
theorem dX12_rush_21 : decode cX12_rush 21 = .ok (.i2l, 1) := by decide +kernel
theorem dX12_rush_22 : decode cX12_rush 22 = .ok (.lconst 1, 1) := by decide +kernel
theorem dX12_rush_23 : decode cX12_rush 23 = .ok (.ldc2_w 403, 3) := by decide +kernel
theorem dX12_rush_26 : decode cX12_rush 26 = .ok (.invokestatic 155, 3) := by decide +kernel
theorem dX12_rush_29 : decode cX12_rush 29 = .ok (.ifCond .ne 9, 3) := by decide +kernel
theorem dX12_rush_32 : decode cX12_rush 32 = .ok (.aload_n 0, 1) := by decide +kernel
theorem dX12_rush_33 : decode cX12_rush 33 = .ok (.iconst 2, 1) := by decide +kernel
theorem dX12_rush_34 : decode cX12_rush 34 = .ok (.invokevirtual 283, 3) := by decide +kernel
theorem dX12_rush_37 : decode cX12_rush 37 = .ok (.ireturn, 1) := by decide +kernel
theorem dX12_rush_38 : decode cX12_rush 38 = .ok (.aload_n 0, 1) := by decide +kernel
theorem dX12_rush_39 : decode cX12_rush 39 = .ok (.aload_n 0, 1) := by decide +kernel
theorem dX12_rush_40 : decode cX12_rush 40 = .ok (.getfield 98, 3) := by decide +kernel
theorem dX12_rush_43 : decode cX12_rush 43 = .ok (.iconst 0, 1) := by decide +kernel
theorem dX12_rush_44 : decode cX12_rush 44 = .ok (.invokevirtual 378, 3) := by decide +kernel
theorem dX12_rush_47 : decode cX12_rush 47 = .ok (.iconst (-1), 1) := by decide +kernel
theorem dX12_rush_48 : decode cX12_rush 48 = .ok (.istore_n 3, 1) := by decide +kernel
theorem dX12_rush_49 : decode cX12_rush 49 = .ok (.iconst (-1), 1) := by decide +kernel
theorem dX12_rush_50 : decode cX12_rush 50 = .ok (.istore 4, 2) := by decide +kernel
theorem dX12_rush_52 : decode cX12_rush 52 = .ok (.iconst 1, 1) := by decide +kernel
theorem dX12_rush_53 : decode cX12_rush 53 = .ok (.istore 5, 2) := by decide +kernel
theorem dX12_rush_55 : decode cX12_rush 55 = .ok (.iload 5, 2) := by decide +kernel
theorem dX12_rush_57 : decode cX12_rush 57 = .ok (.iload_n 1, 1) := by decide +kernel
theorem dX12_rush_58 : decode cX12_rush 58 = .ok (.if_icmp .gt 45, 3) := by decide +kernel
theorem dX12_rush_61 : decode cX12_rush 61 = .ok (.aload_n 0, 1) := by decide +kernel
theorem dX12_rush_62 : decode cX12_rush 62 = .ok (.invokevirtual 405, 3) := by decide +kernel
theorem dX12_rush_65 : decode cX12_rush 65 = .ok (.istore 6, 2) := by decide +kernel
theorem dX12_rush_67 : decode cX12_rush 67 = .ok (.aload_n 0, 1) := by decide +kernel
theorem dX12_rush_68 : decode cX12_rush 68 = .ok (.invokevirtual 346, 3) := by decide +kernel
theorem dX12_rush_71 : decode cX12_rush 71 = .ok (.aload_n 0, 1) := by decide +kernel
theorem dX12_rush_72 : decode cX12_rush 72 = .ok (.invokevirtual 405, 3) := by decide +kernel
theorem dX12_rush_75 : decode cX12_rush 75 = .ok (.iload 6, 2) := by decide +kernel
theorem dX12_rush_77 : decode cX12_rush 77 = .ok (.isub, 1) := by decide +kernel
theorem dX12_rush_78 : decode cX12_rush 78 = .ok (.istore 7, 2) := by decide +kernel
theorem dX12_rush_80 : decode cX12_rush 80 = .ok (.iload 7, 2) := by decide +kernel
theorem dX12_rush_82 : decode cX12_rush 82 = .ok (.iload 4, 2) := by decide +kernel
theorem dX12_rush_84 : decode cX12_rush 84 = .ok (.if_icmp .gt 6, 3) := by decide +kernel
theorem dX12_rush_87 : decode cX12_rush 87 = .ok (.goto 10, 3) := by decide +kernel
theorem dX12_rush_90 : decode cX12_rush 90 = .ok (.iload 5, 2) := by decide +kernel
theorem dX12_rush_92 : decode cX12_rush 92 = .ok (.istore_n 3, 1) := by decide +kernel
theorem dX12_rush_93 : decode cX12_rush 93 = .ok (.iload 7, 2) := by decide +kernel
theorem dX12_rush_95 : decode cX12_rush 95 = .ok (.istore 4, 2) := by decide +kernel
theorem dX12_rush_97 : decode cX12_rush 97 = .ok (.iinc 5 1, 3) := by decide +kernel
theorem dX12_rush_100 : decode cX12_rush 100 = .ok (.goto (-45), 3) := by decide +kernel
theorem dX12_rush_103 : decode cX12_rush 103 = .ok (.aload_n 0, 1) := by decide +kernel
theorem dX12_rush_104 : decode cX12_rush 104 = .ok (.aload_n 0, 1) := by decide +kernel
theorem dX12_rush_105 : decode cX12_rush 105 = .ok (.getfield 98, 3) := by decide +kernel
theorem dX12_rush_108 : decode cX12_rush 108 = .ok (.iconst 0, 1) := by decide +kernel
theorem dX12_rush_109 : decode cX12_rush 109 = .ok (.invokevirtual 400, 3) := by decide +kernel
theorem dX12_rush_112 : decode cX12_rush 112 = .ok (.iload_n 2, 1) := by decide +kernel
theorem dX12_rush_113 : decode cX12_rush 113 = .ok (.ifCond .ne 7, 3) := by decide +kernel
theorem dX12_rush_116 : decode cX12_rush 116 = .ok (.iload_n 3, 1) := by decide +kernel
theorem dX12_rush_117 : decode cX12_rush 117 = .ok (.goto 5, 3) := by decide +kernel
theorem dX12_rush_120 : decode cX12_rush 120 = .ok (.iload 4, 2) := by decide +kernel
theorem dX12_rush_122 : decode cX12_rush 122 = .ok (.ireturn, 1) := by decide +kernel
theorem dX12_free_0 : decode cX12_free 0 = .ok (.aload_n 0, 1) := by decide +kernel
theorem dX12_free_1 : decode cX12_free 1 = .ok (.iconst 0, 1) := by decide +kernel
theorem dX12_free_2 : decode cX12_free 2 = .ok (.putfield 152, 3) := by decide +kernel
theorem dX12_free_5 : decode cX12_free 5 = .ok (.aload_n 0, 1) := by decide +kernel
theorem dX12_free_6 : decode cX12_free 6 = .ok (.iload_n 1, 1) := by decide +kernel
theorem dX12_free_7 : decode cX12_free 7 = .ok (.invokevirtual 375, 3) := by decide +kernel
theorem dX12_free_10 : decode cX12_free 10 = .ok (.ifCond .eq 11, 3) := by decide +kernel
theorem dX12_free_13 : decode cX12_free 13 = .ok (.aload_n 0, 1) := by decide +kernel
theorem dX12_free_14 : decode cX12_free 14 = .ok (.iload_n 1, 1) := by decide +kernel
theorem dX12_free_15 : decode cX12_free 15 = .ok (.invokevirtual 408, 3) := by decide +kernel
theorem dX12_free_18 : decode cX12_free 18 = .ok (.goto 8, 3) := by decide +kernel
theorem dX12_free_21 : decode cX12_free 21 = .ok (.aload_n 0, 1) := by decide +kernel
theorem dX12_free_22 : decode cX12_free 22 = .ok (.iconst 1, 1) := by decide +kernel
theorem dX12_free_23 : decode cX12_free 23 = .ok (.invokevirtual 283, 3) := by decide +kernel
theorem dX12_free_26 : decode cX12_free 26 = .ok (.ireturn, 1) := by decide +kernel
theorem dX12_full_0 : decode cX12_full 0 = .ok (.aload_n 0, 1) := by decide +kernel
theorem dX12_full_1 : decode cX12_full 1 = .ok (.iconst 0, 1) := by decide +kernel
theorem dX12_full_2 : decode cX12_full 2 = .ok (.putfield 152, 3) := by decide +kernel
theorem dX12_full_5 : decode cX12_full 5 = .ok (.iload_n 1, 1) := by decide +kernel
theorem dX12_full_6 : decode cX12_full 6 = .ok (.i2l, 1) := by decide +kernel
theorem dX12_full_7 : decode cX12_full 7 = .ok (.lconst 1, 1) := by decide +kernel
theorem dX12_full_8 : decode cX12_full 8 = .ok (.ldc2_w 349, 3) := by decide +kernel
theorem dX12_full_11 : decode cX12_full 11 = .ok (.invokestatic 155, 3) := by decide +kernel
theorem dX12_full_14 : decode cX12_full 14 = .ok (.ifCond .eq 11, 3) := by decide +kernel
theorem dX12_full_17 : decode cX12_full 17 = .ok (.aload_n 0, 1) := by decide +kernel
theorem dX12_full_18 : decode cX12_full 18 = .ok (.iload_n 1, 1) := by decide +kernel
theorem dX12_full_19 : decode cX12_full 19 = .ok (.invokevirtual 351, 3) := by decide +kernel
theorem dX12_full_22 : decode cX12_full 22 = .ok (.goto 8, 3) := by decide +kernel
theorem dX12_full_25 : decode cX12_full 25 = .ok (.aload_n 0, 1) := by decide +kernel
theorem dX12_full_26 : decode cX12_full 26 = .ok (.iconst 1, 1) := by decide +kernel
theorem dX12_full_27 : decode cX12_full 27 = .ok (.invokevirtual 283, 3) := by decide +kernel
theorem dX12_full_30 : decode cX12_full 30 = .ok (.ireturn, 1) := by decide +kernel
theorem dX12_nobody_0 : decode cX12_nobody 0 = .ok (.aload_n 0, 1) := by decide +kernel
theorem dX12_nobody_1 : decode cX12_nobody 1 = .ok (.iconst 0, 1) := by decide +kernel
theorem dX12_nobody_2 : decode cX12_nobody 2 = .ok (.putfield 152, 3) := by decide +kernel
theorem dX12_nobody_5 : decode cX12_nobody 5 = .ok (.iload_n 1, 1) := by decide +kernel
theorem dX12_nobody_6 : decode cX12_nobody 6 = .ok (.i2l, 1) := by decide +kernel
theorem dX12_nobody_7 : decode cX12_nobody 7 = .ok (.lconst 1, 1) := by decide +kernel
theorem dX12_nobody_8 : decode cX12_nobody 8 = .ok (.ldc2_w 349, 3) := by decide +kernel
theorem dX12_nobody_11 : decode cX12_nobody 11 = .ok (.invokestatic 155, 3) := by decide +kernel
theorem dX12_nobody_14 : decode cX12_nobody 14 = .ok (.ifCond .ne 9, 3) := by decide +kernel
theorem dX12_nobody_17 : decode cX12_nobody 17 = .ok (.aload_n 0, 1) := by decide +kernel
theorem dX12_nobody_18 : decode cX12_nobody 18 = .ok (.iconst 1, 1) := by decide +kernel
theorem dX12_nobody_19 : decode cX12_nobody 19 = .ok (.invokevirtual 283, 3) := by decide +kernel
theorem dX12_nobody_22 : decode cX12_nobody 22 = .ok (.ireturn, 1) := by decide +kernel
theorem dX12_nobody_23 : decode cX12_nobody 23 = .ok (.iconst 0, 1) := by decide +kernel
theorem dX12_nobody_24 : decode cX12_nobody 24 = .ok (.istore_n 2, 1) := by decide +kernel
theorem dX12_nobody_25 : decode cX12_nobody 25 = .ok (.iconst 1, 1) := by decide +kernel
theorem dX12_nobody_26 : decode cX12_nobody 26 = .ok (.istore_n 3, 1) := by decide +kernel
theorem dX12_nobody_27 : decode cX12_nobody 27 = .ok (.iload_n 3, 1) := by decide +kernel
theorem dX12_nobody_28 : decode cX12_nobody 28 = .ok (.iload_n 1, 1) := by decide +kernel
theorem dX12_nobody_29 : decode cX12_nobody 29 = .ok (.if_icmp .gt 43, 3) := by decide +kernel
theorem dX12_nobody_32 : decode cX12_nobody 32 = .ok (.iload_n 2, 1) := by decide +kernel
theorem dX12_nobody_33 : decode cX12_nobody 33 = .ok (.aload_n 0, 1) := by decide +kernel
theorem dX12_nobody_34 : decode cX12_nobody 34 = .ok (.getfield 41, 3) := by decide +kernel
theorem dX12_nobody_37 : decode cX12_nobody 37 = .ok (.iconst 1, 1) := by decide +kernel
theorem dX12_nobody_38 : decode cX12_nobody 38 = .ok (.iaload, 1) := by decide +kernel
theorem dX12_nobody_39 : decode cX12_nobody 39 = .ok (.ifCond .le 24, 3) := by decide +kernel
theorem dX12_nobody_42 : decode cX12_nobody 42 = .ok (.aload_n 0, 1) := by decide +kernel
theorem dX12_nobody_43 : decode cX12_nobody 43 = .ok (.iload_n 3, 1) := by decide +kernel
theorem dX12_nobody_44 : decode cX12_nobody 44 = .ok (.invokevirtual 351, 3) := by decide +kernel
theorem dX12_nobody_47 : decode cX12_nobody 47 = .ok (.invokestatic 322, 3) := by decide +kernel
theorem dX12_nobody_50 : decode cX12_nobody 50 = .ok (.aload_n 0, 1) := by decide +kernel
theorem dX12_nobody_51 : decode cX12_nobody 51 = .ok (.getfield 41, 3) := by decide +kernel
theorem dX12_nobody_54 : decode cX12_nobody 54 = .ok (.iconst 1, 1) := by decide +kernel
theorem dX12_nobody_55 : decode cX12_nobody 55 = .ok (.iaload, 1) := by decide +kernel
theorem dX12_nobody_56 : decode cX12_nobody 56 = .ok (.if_icmp .ne 7, 3) := by decide +kernel
theorem dX12_nobody_59 : decode cX12_nobody 59 = .ok (.iconst 1, 1) := by decide +kernel
theorem dX12_nobody_60 : decode cX12_nobody 60 = .ok (.goto 4, 3) := by decide +kernel
theorem dX12_nobody_63 : decode cX12_nobody 63 = .ok (.iconst 0, 1) := by decide +kernel
theorem dX12_nobody_64 : decode cX12_nobody 64 = .ok (.iadd, 1) := by decide +kernel
theorem dX12_nobody_65 : decode cX12_nobody 65 = .ok (.istore_n 2, 1) := by decide +kernel
theorem dX12_nobody_66 : decode cX12_nobody 66 = .ok (.iinc 3 1, 3) := by decide +kernel
theorem dX12_nobody_69 : decode cX12_nobody 69 = .ok (.goto (-42), 3) := by decide +kernel
theorem dX12_nobody_72 : decode cX12_nobody 72 = .ok (.iload_n 2, 1) := by decide +kernel
theorem dX12_nobody_73 : decode cX12_nobody 73 = .ok (.ireturn, 1) := by decide +kernel
theorem dX12_empty_0 : decode cX12_empty 0 = .ok (.aload_n 0, 1) := by decide +kernel
theorem dX12_empty_1 : decode cX12_empty 1 = .ok (.iconst 0, 1) := by decide +kernel
theorem dX12_empty_2 : decode cX12_empty 2 = .ok (.putfield 152, 3) := by decide +kernel
theorem dX12_empty_5 : decode cX12_empty 5 = .ok (.iload_n 1, 1) := by decide +kernel
theorem dX12_empty_6 : decode cX12_empty 6 = .ok (.i2l, 1) := by decide +kernel
theorem dX12_empty_7 : decode cX12_empty 7 = .ok (.lconst 1, 1) := by decide +kernel
theorem dX12_empty_8 : decode cX12_empty 8 = .ok (.ldc2_w 349, 3) := by decide +kernel
theorem dX12_empty_11 : decode cX12_empty 11 = .ok (.invokestatic 155, 3) := by decide +kernel
theorem dX12_empty_14 : decode cX12_empty 14 = .ok (.ifCond .ne 9, 3) := by decide +kernel
theorem dX12_empty_17 : decode cX12_empty 17 = .ok (.aload_n 0, 1) := by decide +kernel
theorem dX12_empty_18 : decode cX12_empty 18 = .ok (.iconst 1, 1) := by decide +kernel
theorem dX12_empty_19 : decode cX12_empty 19 = .ok (.invokevirtual 283, 3) := by decide +kernel
theorem dX12_empty_22 : decode cX12_empty 22 = .ok (.ireturn, 1) := by decide +kernel
theorem dX12_empty_23 : decode cX12_empty 23 = .ok (.iconst 0, 1) := by decide +kernel
theorem dX12_empty_24 : decode cX12_empty 24 = .ok (.istore_n 2, 1) := by decide +kernel
theorem dX12_empty_25 : decode cX12_empty 25 = .ok (.iconst 1, 1) := by decide +kernel
theorem dX12_empty_26 : decode cX12_empty 26 = .ok (.istore_n 3, 1) := by decide +kernel
theorem dX12_empty_27 : decode cX12_empty 27 = .ok (.iload_n 3, 1) := by decide +kernel
theorem dX12_empty_28 : decode cX12_empty 28 = .ok (.iload_n 1, 1) := by decide +kernel
theorem dX12_empty_29 : decode cX12_empty 29 = .ok (.if_icmp .gt 25, 3) := by decide +kernel
theorem dX12_empty_32 : decode cX12_empty 32 = .ok (.iload_n 2, 1) := by decide +kernel
theorem dX12_empty_33 : decode cX12_empty 33 = .ok (.aload_n 0, 1) := by decide +kernel
theorem dX12_empty_34 : decode cX12_empty 34 = .ok (.iload_n 3, 1) := by decide +kernel
theorem dX12_empty_35 : decode cX12_empty 35 = .ok (.invokevirtual 351, 3) := by decide +kernel
theorem dX12_empty_38 : decode cX12_empty 38 = .ok (.ifCond .ne 7, 3) := by decide +kernel
theorem dX12_empty_41 : decode cX12_empty 41 = .ok (.iconst 1, 1) := by decide +kernel
theorem dX12_empty_42 : decode cX12_empty 42 = .ok (.goto 4, 3) := by decide +kernel
theorem dX12_empty_45 : decode cX12_empty 45 = .ok (.iconst 0, 1) := by decide +kernel
theorem dX12_empty_46 : decode cX12_empty 46 = .ok (.iadd, 1) := by decide +kernel
theorem dX12_empty_47 : decode cX12_empty 47 = .ok (.istore_n 2, 1) := by decide +kernel
theorem dX12_empty_48 : decode cX12_empty 48 = .ok (.iinc 3 1, 3) := by decide +kernel
theorem dX12_empty_51 : decode cX12_empty 51 = .ok (.goto (-24), 3) := by decide +kernel
theorem dX12_empty_54 : decode cX12_empty 54 = .ok (.iload_n 2, 1) := by decide +kernel
theorem dX12_empty_55 : decode cX12_empty 55 = .ok (.ireturn, 1) := by decide +kernel
theorem dX12_lastFree_0 : decode cX12_lastFree 0 = .ok (.bipush 30, 2) := by decide +kernel
theorem dX12_lastFree_2 : decode cX12_lastFree 2 = .ok (.istore_n 2, 1) := by decide +kernel
theorem dX12_lastFree_3 : decode cX12_lastFree 3 = .ok (.iload_n 2, 1) := by decide +kernel
theorem dX12_lastFree_4 : decode cX12_lastFree 4 = .ok (.ifCond .le 18, 3) := by decide +kernel
theorem dX12_lastFree_7 : decode cX12_lastFree 7 = .ok (.aload_n 0, 1) := by decide +kernel
theorem dX12_lastFree_8 : decode cX12_lastFree 8 = .ok (.iload_n 1, 1) := by decide +kernel
theorem dX12_lastFree_9 : decode cX12_lastFree 9 = .ok (.iload_n 2, 1) := by decide +kernel
theorem dX12_lastFree_10 : decode cX12_lastFree 10 = .ok (.invokevirtual 358, 3) := by decide +kernel
theorem dX12_lastFree_13 : decode cX12_lastFree 13 = .ok (.ifCond .ne 9, 3) := by decide +kernel
theorem dX12_lastFree_16 : decode cX12_lastFree 16 = .ok (.iinc 2 (-1), 3) := by decide +kernel
theorem dX12_lastFree_19 : decode cX12_lastFree 19 = .ok (.goto (-16), 3) := by decide +kernel
theorem dX12_lastFree_22 : decode cX12_lastFree 22 = .ok (.iload_n 2, 1) := by decide +kernel
theorem dX12_lastFree_23 : decode cX12_lastFree 23 = .ok (.ireturn, 1) := by decide +kernel
theorem dX12_through_0 : decode cX12_through 0 = .ok (.aload_n 0, 1) := by decide +kernel
theorem dX12_through_1 : decode cX12_through 1 = .ok (.iconst 0, 1) := by decide +kernel
theorem dX12_through_2 : decode cX12_through 2 = .ok (.putfield 152, 3) := by decide +kernel
theorem dX12_through_5 : decode cX12_through 5 = .ok (.aload_n 0, 1) := by decide +kernel
theorem dX12_through_6 : decode cX12_through 6 = .ok (.iload_n 1, 1) := by decide +kernel
theorem dX12_through_7 : decode cX12_through 7 = .ok (.invokevirtual 375, 3) := by decide +kernel
theorem dX12_through_10 : decode cX12_through 10 = .ok (.ifCond .ne 9, 3) := by decide +kernel
theorem dX12_through_13 : decode cX12_through 13 = .ok (.aload_n 0, 1) := by decide +kernel
theorem dX12_through_14 : decode cX12_through 14 = .ok (.iconst 1, 1) := by decide +kernel
theorem dX12_through_15 : decode cX12_through 15 = .ok (.invokevirtual 283, 3) := by decide +kernel
theorem dX12_through_18 : decode cX12_through 18 = .ok (.ireturn, 1) := by decide +kernel
theorem dX12_through_19 : decode cX12_through 19 = .ok (.aload_n 0, 1) := by decide +kernel
theorem dX12_through_20 : decode cX12_through 20 = .ok (.aload_n 0, 1) := by decide +kernel
theorem dX12_through_21 : decode cX12_through 21 = .ok (.getfield 98, 3) := by decide +kernel
theorem dX12_through_24 : decode cX12_through 24 = .ok (.iconst 0, 1) := by decide +kernel
theorem dX12_through_25 : decode cX12_through 25 = .ok (.invokevirtual 378, 3) := by decide +kernel
theorem dX12_through_28 : decode cX12_through 28 = .ok (.iconst 0, 1) := by decide +kernel
theorem dX12_through_29 : decode cX12_through 29 = .ok (.istore_n 2, 1) := by decide +kernel
theorem dX12_through_30 : decode cX12_through 30 = .ok (.iconst 1, 1) := by decide +kernel
theorem dX12_through_31 : decode cX12_through 31 = .ok (.istore_n 3, 1) := by decide +kernel
theorem dX12_through_32 : decode cX12_through 32 = .ok (.iload_n 3, 1) := by decide +kernel
theorem dX12_through_33 : decode cX12_through 33 = .ok (.ifCond .eq 52, 3) := by decide +kernel
theorem dX12_through_36 : decode cX12_through 36 = .ok (.aload_n 0, 1) := by decide +kernel
theorem dX12_through_37 : decode cX12_through 37 = .ok (.getfield 76, 3) := by decide +kernel
theorem dX12_through_40 : decode cX12_through 40 = .ok (.iload_n 1, 1) := by decide +kernel
theorem dX12_through_41 : decode cX12_through 41 = .ok (.iaload, 1) := by decide +kernel
theorem dX12_through_42 : decode cX12_through 42 = .ok (.aload_n 0, 1) := by decide +kernel
theorem dX12_through_43 : decode cX12_through 43 = .ok (.iload_n 1, 1) := by decide +kernel
theorem dX12_through_44 : decode cX12_through 44 = .ok (.invokevirtual 319, 3) := by decide +kernel
theorem dX12_through_47 : decode cX12_through 47 = .ok (.if_icmp .ge 38, 3) := by decide +kernel
theorem dX12_through_50 : decode cX12_through 50 = .ok (.aload_n 0, 1) := by decide +kernel
theorem dX12_through_51 : decode cX12_through 51 = .ok (.iload_n 1, 1) := by decide +kernel
theorem dX12_through_52 : decode cX12_through 52 = .ok (.invokevirtual 411, 3) := by decide +kernel
theorem dX12_through_55 : decode cX12_through 55 = .ok (.istore 4, 2) := by decide +kernel
theorem dX12_through_57 : decode cX12_through 57 = .ok (.iload 4, 2) := by decide +kernel
theorem dX12_through_59 : decode cX12_through 59 = .ok (.ifCond .le 7, 3) := by decide +kernel
theorem dX12_through_62 : decode cX12_through 62 = .ok (.iconst 1, 1) := by decide +kernel
theorem dX12_through_63 : decode cX12_through 63 = .ok (.goto 4, 3) := by decide +kernel
theorem dX12_through_66 : decode cX12_through 66 = .ok (.iconst 0, 1) := by decide +kernel
theorem dX12_through_67 : decode cX12_through 67 = .ok (.istore_n 3, 1) := by decide +kernel
theorem dX12_through_68 : decode cX12_through 68 = .ok (.iload_n 3, 1) := by decide +kernel
theorem dX12_through_69 : decode cX12_through 69 = .ok (.ifCond .eq 10, 3) := by decide +kernel
theorem dX12_through_72 : decode cX12_through 72 = .ok (.aload_n 0, 1) := by decide +kernel
theorem dX12_through_73 : decode cX12_through 73 = .ok (.iload_n 1, 1) := by decide +kernel
theorem dX12_through_74 : decode cX12_through 74 = .ok (.iload 4, 2) := by decide +kernel
theorem dX12_through_76 : decode cX12_through 76 = .ok (.invokevirtual 393, 3) := by decide +kernel
theorem dX12_through_79 : decode cX12_through 79 = .ok (.iinc 2 1, 3) := by decide +kernel
theorem dX12_through_82 : decode cX12_through 82 = .ok (.goto (-50), 3) := by decide +kernel
theorem dX12_through_85 : decode cX12_through 85 = .ok (.aload_n 0, 1) := by decide +kernel
theorem dX12_through_86 : decode cX12_through 86 = .ok (.aload_n 0, 1) := by decide +kernel
theorem dX12_through_87 : decode cX12_through 87 = .ok (.getfield 98, 3) := by decide +kernel
theorem dX12_through_90 : decode cX12_through 90 = .ok (.iconst 0, 1) := by decide +kernel
theorem dX12_through_91 : decode cX12_through 91 = .ok (.invokevirtual 400, 3) := by decide +kernel
theorem dX12_through_94 : decode cX12_through 94 = .ok (.iload_n 3, 1) := by decide +kernel
theorem dX12_through_95 : decode cX12_through 95 = .ok (.ifCond .eq 7, 3) := by decide +kernel
theorem dX12_through_98 : decode cX12_through 98 = .ok (.iload_n 2, 1) := by decide +kernel
theorem dX12_through_99 : decode cX12_through 99 = .ok (.goto 4, 3) := by decide +kernel
theorem dX12_through_102 : decode cX12_through 102 = .ok (.iconst (-1), 1) := by decide +kernel
theorem dX12_through_103 : decode cX12_through 103 = .ok (.ireturn, 1) := by decide +kernel
theorem dX12_toBeDone_0 : decode cX12_toBeDone 0 = .ok (.aload_n 0, 1) := by decide +kernel
theorem dX12_toBeDone_1 : decode cX12_toBeDone 1 = .ok (.iconst 0, 1) := by decide +kernel
theorem dX12_toBeDone_2 : decode cX12_toBeDone 2 = .ok (.putfield 152, 3) := by decide +kernel
theorem dX12_toBeDone_5 : decode cX12_toBeDone 5 = .ok (.aload_n 0, 1) := by decide +kernel
theorem dX12_toBeDone_6 : decode cX12_toBeDone 6 = .ok (.iload_n 1, 1) := by decide +kernel
theorem dX12_toBeDone_7 : decode cX12_toBeDone 7 = .ok (.invokevirtual 375, 3) := by decide +kernel
theorem dX12_toBeDone_10 : decode cX12_toBeDone 10 = .ok (.ifCond .ne 9, 3) := by decide +kernel
theorem dX12_toBeDone_13 : decode cX12_toBeDone 13 = .ok (.aload_n 0, 1) := by decide +kernel
theorem dX12_toBeDone_14 : decode cX12_toBeDone 14 = .ok (.iconst 1, 1) := by decide +kernel
theorem dX12_toBeDone_15 : decode cX12_toBeDone 15 = .ok (.invokevirtual 283, 3) := by decide +kernel
theorem dX12_toBeDone_18 : decode cX12_toBeDone 18 = .ok (.ireturn, 1) := by decide +kernel
theorem dX12_toBeDone_19 : decode cX12_toBeDone 19 = .ok (.iload_n 2, 1) := by decide +kernel
theorem dX12_toBeDone_20 : decode cX12_toBeDone 20 = .ok (.i2l, 1) := by decide +kernel
theorem dX12_toBeDone_21 : decode cX12_toBeDone 21 = .ok (.lconst 0, 1) := by decide +kernel
theorem dX12_toBeDone_22 : decode cX12_toBeDone 22 = .ok (.ldc2_w 349, 3) := by decide +kernel
theorem dX12_toBeDone_25 : decode cX12_toBeDone 25 = .ok (.invokestatic 155, 3) := by decide +kernel
theorem dX12_toBeDone_28 : decode cX12_toBeDone 28 = .ok (.ifCond .ne 9, 3) := by decide +kernel
theorem dX12_toBeDone_31 : decode cX12_toBeDone 31 = .ok (.aload_n 0, 1) := by decide +kernel
theorem dX12_toBeDone_32 : decode cX12_toBeDone 32 = .ok (.iconst 2, 1) := by decide +kernel
theorem dX12_toBeDone_33 : decode cX12_toBeDone 33 = .ok (.invokevirtual 283, 3) := by decide +kernel
theorem dX12_toBeDone_36 : decode cX12_toBeDone 36 = .ok (.ireturn, 1) := by decide +kernel
theorem dX12_toBeDone_37 : decode cX12_toBeDone 37 = .ok (.aload_n 0, 1) := by decide +kernel
theorem dX12_toBeDone_38 : decode cX12_toBeDone 38 = .ok (.aload_n 0, 1) := by decide +kernel
theorem dX12_toBeDone_39 : decode cX12_toBeDone 39 = .ok (.getfield 98, 3) := by decide +kernel
theorem dX12_toBeDone_42 : decode cX12_toBeDone 42 = .ok (.iconst 0, 1) := by decide +kernel
theorem dX12_toBeDone_43 : decode cX12_toBeDone 43 = .ok (.invokevirtual 378, 3) := by decide +kernel
theorem dX12_toBeDone_46 : decode cX12_toBeDone 46 = .ok (.iconst (-1), 1) := by decide +kernel
theorem dX12_toBeDone_47 : decode cX12_toBeDone 47 = .ok (.istore_n 3, 1) := by decide +kernel
theorem dX12_toBeDone_48 : decode cX12_toBeDone 48 = .ok (.iconst 1, 1) := by decide +kernel
theorem dX12_toBeDone_49 : decode cX12_toBeDone 49 = .ok (.istore 4, 2) := by decide +kernel
theorem dX12_toBeDone_51 : decode cX12_toBeDone 51 = .ok (.iconst 0, 1) := by decide +kernel
theorem dX12_toBeDone_52 : decode cX12_toBeDone 52 = .ok (.istore 5, 2) := by decide +kernel
theorem dX12_toBeDone_54 : decode cX12_toBeDone 54 = .ok (.iload 4, 2) := by decide +kernel
theorem dX12_toBeDone_56 : decode cX12_toBeDone 56 = .ok (.ifCond .eq 79, 3) := by decide +kernel
theorem dX12_toBeDone_59 : decode cX12_toBeDone 59 = .ok (.iload_n 3, 1) := by decide +kernel
theorem dX12_toBeDone_60 : decode cX12_toBeDone 60 = .ok (.iconst (-1), 1) := by decide +kernel
theorem dX12_toBeDone_61 : decode cX12_toBeDone 61 = .ok (.if_icmp .ne 74, 3) := by decide +kernel
theorem dX12_toBeDone_64 : decode cX12_toBeDone 64 = .ok (.aload_n 0, 1) := by decide +kernel
theorem dX12_toBeDone_65 : decode cX12_toBeDone 65 = .ok (.aload_n 0, 1) := by decide +kernel
theorem dX12_toBeDone_66 : decode cX12_toBeDone 66 = .ok (.getfield 101, 3) := by decide +kernel
theorem dX12_toBeDone_69 : decode cX12_toBeDone 69 = .ok (.iconst 0, 1) := by decide +kernel
theorem dX12_toBeDone_70 : decode cX12_toBeDone 70 = .ok (.invokevirtual 378, 3) := by decide +kernel
theorem dX12_toBeDone_73 : decode cX12_toBeDone 73 = .ok (.aload_n 0, 1) := by decide +kernel
theorem dX12_toBeDone_74 : decode cX12_toBeDone 74 = .ok (.iload_n 2, 1) := by decide +kernel
theorem dX12_toBeDone_75 : decode cX12_toBeDone 75 = .ok (.invokevirtual 390, 3) := by decide +kernel
theorem dX12_toBeDone_78 : decode cX12_toBeDone 78 = .ok (.aload_n 0, 1) := by decide +kernel
theorem dX12_toBeDone_79 : decode cX12_toBeDone 79 = .ok (.iload_n 1, 1) := by decide +kernel
theorem dX12_toBeDone_80 : decode cX12_toBeDone 80 = .ok (.invokevirtual 313, 3) := by decide +kernel
theorem dX12_toBeDone_83 : decode cX12_toBeDone 83 = .ok (.ifCond .eq 6, 3) := by decide +kernel
theorem dX12_toBeDone_86 : decode cX12_toBeDone 86 = .ok (.iload 5, 2) := by decide +kernel
theorem dX12_toBeDone_88 : decode cX12_toBeDone 88 = .ok (.istore_n 3, 1) := by decide +kernel
theorem dX12_toBeDone_89 : decode cX12_toBeDone 89 = .ok (.aload_n 0, 1) := by decide +kernel
theorem dX12_toBeDone_90 : decode cX12_toBeDone 90 = .ok (.aload_n 0, 1) := by decide +kernel
theorem dX12_toBeDone_91 : decode cX12_toBeDone 91 = .ok (.getfield 101, 3) := by decide +kernel
theorem dX12_toBeDone_94 : decode cX12_toBeDone 94 = .ok (.iconst 0, 1) := by decide +kernel
theorem dX12_toBeDone_95 : decode cX12_toBeDone 95 = .ok (.invokevirtual 400, 3) := by decide +kernel
theorem dX12_toBeDone_98 : decode cX12_toBeDone 98 = .ok (.aload_n 0, 1) := by decide +kernel
theorem dX12_toBeDone_99 : decode cX12_toBeDone 99 = .ok (.iload_n 1, 1) := by decide +kernel
theorem dX12_toBeDone_100 : decode cX12_toBeDone 100 = .ok (.invokevirtual 411, 3) := by decide +kernel
theorem dX12_toBeDone_103 : decode cX12_toBeDone 103 = .ok (.istore 6, 2) := by decide +kernel
theorem dX12_toBeDone_105 : decode cX12_toBeDone 105 = .ok (.iload 6, 2) := by decide +kernel
theorem dX12_toBeDone_107 : decode cX12_toBeDone 107 = .ok (.ifCond .le 7, 3) := by decide +kernel
theorem dX12_toBeDone_110 : decode cX12_toBeDone 110 = .ok (.iconst 1, 1) := by decide +kernel
theorem dX12_toBeDone_111 : decode cX12_toBeDone 111 = .ok (.goto 4, 3) := by decide +kernel
theorem dX12_toBeDone_114 : decode cX12_toBeDone 114 = .ok (.iconst 0, 1) := by decide +kernel
theorem dX12_toBeDone_115 : decode cX12_toBeDone 115 = .ok (.istore 4, 2) := by decide +kernel
theorem dX12_toBeDone_117 : decode cX12_toBeDone 117 = .ok (.iload 4, 2) := by decide +kernel
theorem dX12_toBeDone_119 : decode cX12_toBeDone 119 = .ok (.ifCond .eq 10, 3) := by decide +kernel
theorem dX12_toBeDone_122 : decode cX12_toBeDone 122 = .ok (.aload_n 0, 1) := by decide +kernel
theorem dX12_toBeDone_123 : decode cX12_toBeDone 123 = .ok (.iload_n 1, 1) := by decide +kernel
theorem dX12_toBeDone_124 : decode cX12_toBeDone 124 = .ok (.iload 6, 2) := by decide +kernel
theorem dX12_toBeDone_126 : decode cX12_toBeDone 126 = .ok (.invokevirtual 393, 3) := by decide +kernel
theorem dX12_toBeDone_129 : decode cX12_toBeDone 129 = .ok (.iinc 5 1, 3) := by decide +kernel
theorem dX12_toBeDone_132 : decode cX12_toBeDone 132 = .ok (.goto (-78), 3) := by decide +kernel
theorem dX12_toBeDone_135 : decode cX12_toBeDone 135 = .ok (.aload_n 0, 1) := by decide +kernel
theorem dX12_toBeDone_136 : decode cX12_toBeDone 136 = .ok (.aload_n 0, 1) := by decide +kernel
theorem dX12_toBeDone_137 : decode cX12_toBeDone 137 = .ok (.getfield 98, 3) := by decide +kernel
theorem dX12_toBeDone_140 : decode cX12_toBeDone 140 = .ok (.iconst 0, 1) := by decide +kernel
theorem dX12_toBeDone_141 : decode cX12_toBeDone 141 = .ok (.invokevirtual 400, 3) := by decide +kernel
theorem dX12_toBeDone_144 : decode cX12_toBeDone 144 = .ok (.iload_n 3, 1) := by decide +kernel
theorem dX12_toBeDone_145 : decode cX12_toBeDone 145 = .ok (.ireturn, 1) := by decide +kernel
theorem dX12_toGlove_0 : decode cX12_toGlove 0 = .ok (.aload_n 0, 1) := by decide +kernel
theorem dX12_toGlove_1 : decode cX12_toGlove 1 = .ok (.iconst 0, 1) := by decide +kernel
theorem dX12_toGlove_2 : decode cX12_toGlove 2 = .ok (.putfield 152, 3) := by decide +kernel
theorem dX12_toGlove_5 : decode cX12_toGlove 5 = .ok (.aload_n 0, 1) := by decide +kernel
theorem dX12_toGlove_6 : decode cX12_toGlove 6 = .ok (.iload_n 1, 1) := by decide +kernel
theorem dX12_toGlove_7 : decode cX12_toGlove 7 = .ok (.invokevirtual 375, 3) := by decide +kernel
theorem dX12_toGlove_10 : decode cX12_toGlove 10 = .ok (.ifCond .ne 9, 3) := by decide +kernel
theorem dX12_toGlove_13 : decode cX12_toGlove 13 = .ok (.aload_n 0, 1) := by decide +kernel
theorem dX12_toGlove_14 : decode cX12_toGlove 14 = .ok (.iconst 1, 1) := by decide +kernel
theorem dX12_toGlove_15 : decode cX12_toGlove 15 = .ok (.invokevirtual 283, 3) := by decide +kernel
theorem dX12_toGlove_18 : decode cX12_toGlove 18 = .ok (.ireturn, 1) := by decide +kernel
theorem dX12_toGlove_19 : decode cX12_toGlove 19 = .ok (.aload_n 0, 1) := by decide +kernel
theorem dX12_toGlove_20 : decode cX12_toGlove 20 = .ok (.aload_n 0, 1) := by decide +kernel
theorem dX12_toGlove_21 : decode cX12_toGlove 21 = .ok (.getfield 98, 3) := by decide +kernel
theorem dX12_toGlove_24 : decode cX12_toGlove 24 = .ok (.iconst 0, 1) := by decide +kernel
theorem dX12_toGlove_25 : decode cX12_toGlove 25 = .ok (.invokevirtual 378, 3) := by decide +kernel
theorem dX12_toGlove_28 : decode cX12_toGlove 28 = .ok (.aload_n 0, 1) := by decide +kernel
theorem dX12_toGlove_29 : decode cX12_toGlove 29 = .ok (.getfield 85, 3) := by decide +kernel
theorem dX12_toGlove_32 : decode cX12_toGlove 32 = .ok (.iload_n 1, 1) := by decide +kernel
theorem dX12_toGlove_33 : decode cX12_toGlove 33 = .ok (.iaload, 1) := by decide +kernel
theorem dX12_toGlove_34 : decode cX12_toGlove 34 = .ok (.istore_n 2, 1) := by decide +kernel
theorem dX12_toGlove_35 : decode cX12_toGlove 35 = .ok (.iconst (-1), 1) := by decide +kernel
theorem dX12_toGlove_36 : decode cX12_toGlove 36 = .ok (.istore_n 3, 1) := by decide +kernel
theorem dX12_toGlove_37 : decode cX12_toGlove 37 = .ok (.iconst 0, 1) := by decide +kernel
theorem dX12_toGlove_38 : decode cX12_toGlove 38 = .ok (.istore 4, 2) := by decide +kernel
theorem dX12_toGlove_40 : decode cX12_toGlove 40 = .ok (.iload 4, 2) := by decide +kernel
theorem dX12_toGlove_42 : decode cX12_toGlove 42 = .ok (.bipush 9, 2) := by decide +kernel
theorem dX12_toGlove_44 : decode cX12_toGlove 44 = .ok (.if_icmp .gt 59, 3) := by decide +kernel
theorem dX12_toGlove_47 : decode cX12_toGlove 47 = .ok (.iload_n 3, 1) := by decide +kernel
theorem dX12_toGlove_48 : decode cX12_toGlove 48 = .ok (.iconst (-1), 1) := by decide +kernel
theorem dX12_toGlove_49 : decode cX12_toGlove 49 = .ok (.if_icmp .ne 54, 3) := by decide +kernel
theorem dX12_toGlove_52 : decode cX12_toGlove 52 = .ok (.aload_n 0, 1) := by decide +kernel
theorem dX12_toGlove_53 : decode cX12_toGlove 53 = .ok (.getfield 79, 3) := by decide +kernel
theorem dX12_toGlove_56 : decode cX12_toGlove 56 = .ok (.iload_n 1, 1) := by decide +kernel
theorem dX12_toGlove_57 : decode cX12_toGlove 57 = .ok (.iconst 0, 1) := by decide +kernel
theorem dX12_toGlove_58 : decode cX12_toGlove 58 = .ok (.aload_n 0, 1) := by decide +kernel
theorem dX12_toGlove_59 : decode cX12_toGlove 59 = .ok (.getfield 79, 3) := by decide +kernel
theorem dX12_toGlove_62 : decode cX12_toGlove 62 = .ok (.iload_n 1, 1) := by decide +kernel
theorem dX12_toGlove_63 : decode cX12_toGlove 63 = .ok (.iaload, 1) := by decide +kernel
theorem dX12_toGlove_64 : decode cX12_toGlove 64 = .ok (.iload 4, 2) := by decide +kernel
theorem dX12_toGlove_66 : decode cX12_toGlove 66 = .ok (.isub, 1) := by decide +kernel
theorem dX12_toGlove_67 : decode cX12_toGlove 67 = .ok (.invokestatic 328, 3) := by decide +kernel
theorem dX12_toGlove_70 : decode cX12_toGlove 70 = .ok (.iastore, 1) := by decide +kernel
theorem dX12_toGlove_71 : decode cX12_toGlove 71 = .ok (.aload_n 0, 1) := by decide +kernel
theorem dX12_toGlove_72 : decode cX12_toGlove 72 = .ok (.invokevirtual 346, 3) := by decide +kernel
theorem dX12_toGlove_75 : decode cX12_toGlove 75 = .ok (.aload_n 0, 1) := by decide +kernel
theorem dX12_toGlove_76 : decode cX12_toGlove 76 = .ok (.getfield 85, 3) := by decide +kernel
theorem dX12_toGlove_79 : decode cX12_toGlove 79 = .ok (.iload_n 1, 1) := by decide +kernel
theorem dX12_toGlove_80 : decode cX12_toGlove 80 = .ok (.iaload, 1) := by decide +kernel
theorem dX12_toGlove_81 : decode cX12_toGlove 81 = .ok (.iload_n 2, 1) := by decide +kernel
theorem dX12_toGlove_82 : decode cX12_toGlove 82 = .ok (.if_icmp .le 6, 3) := by decide +kernel
theorem dX12_toGlove_85 : decode cX12_toGlove 85 = .ok (.iload 4, 2) := by decide +kernel
theorem dX12_toGlove_87 : decode cX12_toGlove 87 = .ok (.istore_n 3, 1) := by decide +kernel
theorem dX12_toGlove_88 : decode cX12_toGlove 88 = .ok (.aload_n 0, 1) := by decide +kernel
theorem dX12_toGlove_89 : decode cX12_toGlove 89 = .ok (.aload_n 0, 1) := by decide +kernel
theorem dX12_toGlove_90 : decode cX12_toGlove 90 = .ok (.getfield 98, 3) := by decide +kernel
theorem dX12_toGlove_93 : decode cX12_toGlove 93 = .ok (.iconst 0, 1) := by decide +kernel
theorem dX12_toGlove_94 : decode cX12_toGlove 94 = .ok (.invokevirtual 400, 3) := by decide +kernel
theorem dX12_toGlove_97 : decode cX12_toGlove 97 = .ok (.iinc 4 1, 3) := by decide +kernel
theorem dX12_toGlove_100 : decode cX12_toGlove 100 = .ok (.goto (-60), 3) := by decide +kernel
theorem dX12_toGlove_103 : decode cX12_toGlove 103 = .ok (.iload_n 3, 1) := by decide +kernel
theorem dX12_toGlove_104 : decode cX12_toGlove 104 = .ok (.ireturn, 1) := by decide +kernel
theorem dX12_fitOf_0 : decode cX12_fitOf 0 = .ok (.iconst 0, 1) := by decide +kernel
theorem dX12_fitOf_1 : decode cX12_fitOf 1 = .ok (.istore_n 3, 1) := by decide +kernel
theorem dX12_fitOf_2 : decode cX12_fitOf 2 = .ok (.iload_n 3, 1) := by decide +kernel
theorem dX12_fitOf_3 : decode cX12_fitOf 3 = .ok (.aload_n 0, 1) := by decide +kernel
theorem dX12_fitOf_4 : decode cX12_fitOf 4 = .ok (.getfield 47, 3) := by decide +kernel
theorem dX12_fitOf_7 : decode cX12_fitOf 7 = .ok (.iload_n 2, 1) := by decide +kernel
theorem dX12_fitOf_8 : decode cX12_fitOf 8 = .ok (.iaload, 1) := by decide +kernel
theorem dX12_fitOf_9 : decode cX12_fitOf 9 = .ok (.if_icmp .ge 24, 3) := by decide +kernel
theorem dX12_fitOf_12 : decode cX12_fitOf 12 = .ok (.aload_n 0, 1) := by decide +kernel
theorem dX12_fitOf_13 : decode cX12_fitOf 13 = .ok (.iload_n 2, 1) := by decide +kernel
theorem dX12_fitOf_14 : decode cX12_fitOf 14 = .ok (.iload_n 3, 1) := by decide +kernel
theorem dX12_fitOf_15 : decode cX12_fitOf 15 = .ok (.invokevirtual 316, 3) := by decide +kernel
theorem dX12_fitOf_18 : decode cX12_fitOf 18 = .ok (.aload_n 0, 1) := by decide +kernel
theorem dX12_fitOf_19 : decode cX12_fitOf 19 = .ok (.getfield 76, 3) := by decide +kernel
theorem dX12_fitOf_22 : decode cX12_fitOf 22 = .ok (.iload_n 1, 1) := by decide +kernel
theorem dX12_fitOf_23 : decode cX12_fitOf 23 = .ok (.iaload, 1) := by decide +kernel
theorem dX12_fitOf_24 : decode cX12_fitOf 24 = .ok (.if_icmp .gt 9, 3) := by decide +kernel
theorem dX12_fitOf_27 : decode cX12_fitOf 27 = .ok (.iinc 3 1, 3) := by decide +kernel
theorem dX12_fitOf_30 : decode cX12_fitOf 30 = .ok (.goto (-28), 3) := by decide +kernel
theorem dX12_fitOf_33 : decode cX12_fitOf 33 = .ok (.iload_n 3, 1) := by decide +kernel
theorem dX12_fitOf_34 : decode cX12_fitOf 34 = .ok (.ireturn, 1) := by decide +kernel
theorem dX12_fits_0 : decode cX12_fits 0 = .ok (.aload_n 0, 1) := by decide +kernel
theorem dX12_fits_1 : decode cX12_fits 1 = .ok (.iconst 0, 1) := by decide +kernel
theorem dX12_fits_2 : decode cX12_fits 2 = .ok (.putfield 152, 3) := by decide +kernel
theorem dX12_fits_5 : decode cX12_fits 5 = .ok (.aload_n 0, 1) := by decide +kernel
theorem dX12_fits_6 : decode cX12_fits 6 = .ok (.iload_n 1, 1) := by decide +kernel
theorem dX12_fits_7 : decode cX12_fits 7 = .ok (.invokevirtual 375, 3) := by decide +kernel
theorem dX12_fits_10 : decode cX12_fits 10 = .ok (.ifCond .eq 20, 3) := by decide +kernel
theorem dX12_fits_13 : decode cX12_fits 13 = .ok (.aload_n 0, 1) := by decide +kernel
theorem dX12_fits_14 : decode cX12_fits 14 = .ok (.iload_n 2, 1) := by decide +kernel
theorem dX12_fits_15 : decode cX12_fits 15 = .ok (.invokevirtual 367, 3) := by decide +kernel
theorem dX12_fits_18 : decode cX12_fits 18 = .ok (.ifCond .eq 12, 3) := by decide +kernel
theorem dX12_fits_21 : decode cX12_fits 21 = .ok (.aload_n 0, 1) := by decide +kernel
theorem dX12_fits_22 : decode cX12_fits 22 = .ok (.iload_n 1, 1) := by decide +kernel
theorem dX12_fits_23 : decode cX12_fits 23 = .ok (.iload_n 2, 1) := by decide +kernel
theorem dX12_fits_24 : decode cX12_fits 24 = .ok (.invokevirtual 414, 3) := by decide +kernel
theorem dX12_fits_27 : decode cX12_fits 27 = .ok (.goto 8, 3) := by decide +kernel
theorem dX12_fits_30 : decode cX12_fits 30 = .ok (.aload_n 0, 1) := by decide +kernel
theorem dX12_fits_31 : decode cX12_fits 31 = .ok (.iconst 1, 1) := by decide +kernel
theorem dX12_fits_32 : decode cX12_fits 32 = .ok (.invokevirtual 283, 3) := by decide +kernel
theorem dX12_fits_35 : decode cX12_fits 35 = .ok (.ireturn, 1) := by decide +kernel
theorem dX12_repertoire_0 : decode cX12_repertoire 0 = .ok (.aload_n 0, 1) := by decide +kernel
theorem dX12_repertoire_1 : decode cX12_repertoire 1 = .ok (.iconst 0, 1) := by decide +kernel
theorem dX12_repertoire_2 : decode cX12_repertoire 2 = .ok (.putfield 152, 3) := by decide +kernel
theorem dX12_repertoire_5 : decode cX12_repertoire 5 = .ok (.aload_n 0, 1) := by decide +kernel
theorem dX12_repertoire_6 : decode cX12_repertoire 6 = .ok (.iload_n 1, 1) := by decide +kernel
theorem dX12_repertoire_7 : decode cX12_repertoire 7 = .ok (.invokevirtual 375, 3) := by decide +kernel
theorem dX12_repertoire_10 : decode cX12_repertoire 10 = .ok (.ifCond .ne 9, 3) := by decide +kernel
theorem dX12_repertoire_13 : decode cX12_repertoire 13 = .ok (.aload_n 0, 1) := by decide +kernel
theorem dX12_repertoire_14 : decode cX12_repertoire 14 = .ok (.iconst 1, 1) := by decide +kernel
theorem dX12_repertoire_15 : decode cX12_repertoire 15 = .ok (.invokevirtual 283, 3) := by decide +kernel
theorem dX12_repertoire_18 : decode cX12_repertoire 18 = .ok (.ireturn, 1) := by decide +kernel
theorem dX12_repertoire_19 : decode cX12_repertoire 19 = .ok (.iconst 0, 1) := by decide +kernel
theorem dX12_repertoire_20 : decode cX12_repertoire 20 = .ok (.istore_n 2, 1) := by decide +kernel
theorem dX12_repertoire_21 : decode cX12_repertoire 21 = .ok (.iconst 0, 1) := by decide +kernel
theorem dX12_repertoire_22 : decode cX12_repertoire 22 = .ok (.istore_n 3, 1) := by decide +kernel
theorem dX12_repertoire_23 : decode cX12_repertoire 23 = .ok (.iload_n 3, 1) := by decide +kernel
theorem dX12_repertoire_24 : decode cX12_repertoire 24 = .ok (.aload_n 0, 1) := by decide +kernel
theorem dX12_repertoire_25 : decode cX12_repertoire 25 = .ok (.getfield 41, 3) := by decide +kernel
theorem dX12_repertoire_28 : decode cX12_repertoire 28 = .ok (.iconst 0, 1) := by decide +kernel
theorem dX12_repertoire_29 : decode cX12_repertoire 29 = .ok (.iaload, 1) := by decide +kernel
theorem dX12_repertoire_30 : decode cX12_repertoire 30 = .ok (.if_icmp .ge 34, 3) := by decide +kernel
theorem dX12_repertoire_33 : decode cX12_repertoire 33 = .ok (.iload_n 2, 1) := by decide +kernel
theorem dX12_repertoire_34 : decode cX12_repertoire 34 = .ok (.aload_n 0, 1) := by decide +kernel
theorem dX12_repertoire_35 : decode cX12_repertoire 35 = .ok (.iload_n 1, 1) := by decide +kernel
theorem dX12_repertoire_36 : decode cX12_repertoire 36 = .ok (.iload_n 3, 1) := by decide +kernel
theorem dX12_repertoire_37 : decode cX12_repertoire 37 = .ok (.invokevirtual 414, 3) := by decide +kernel
theorem dX12_repertoire_40 : decode cX12_repertoire 40 = .ok (.aload_n 0, 1) := by decide +kernel
theorem dX12_repertoire_41 : decode cX12_repertoire 41 = .ok (.getfield 47, 3) := by decide +kernel
theorem dX12_repertoire_44 : decode cX12_repertoire 44 = .ok (.iload_n 3, 1) := by decide +kernel
theorem dX12_repertoire_45 : decode cX12_repertoire 45 = .ok (.iaload, 1) := by decide +kernel
theorem dX12_repertoire_46 : decode cX12_repertoire 46 = .ok (.if_icmp .ne 9, 3) := by decide +kernel
theorem dX12_repertoire_49 : decode cX12_repertoire 49 = .ok (.iconst 1, 1) := by decide +kernel
theorem dX12_repertoire_50 : decode cX12_repertoire 50 = .ok (.iload_n 3, 1) := by decide +kernel
theorem dX12_repertoire_51 : decode cX12_repertoire 51 = .ok (.ishl, 1) := by decide +kernel
theorem dX12_repertoire_52 : decode cX12_repertoire 52 = .ok (.goto 4, 3) := by decide +kernel
theorem dX12_repertoire_55 : decode cX12_repertoire 55 = .ok (.iconst 0, 1) := by decide +kernel
theorem dX12_repertoire_56 : decode cX12_repertoire 56 = .ok (.ior, 1) := by decide +kernel
theorem dX12_repertoire_57 : decode cX12_repertoire 57 = .ok (.istore_n 2, 1) := by decide +kernel
theorem dX12_repertoire_58 : decode cX12_repertoire 58 = .ok (.iinc 3 1, 3) := by decide +kernel
theorem dX12_repertoire_61 : decode cX12_repertoire 61 = .ok (.goto (-38), 3) := by decide +kernel
theorem dX12_repertoire_64 : decode cX12_repertoire 64 = .ok (.iload_n 2, 1) := by decide +kernel
theorem dX12_repertoire_65 : decode cX12_repertoire 65 = .ok (.ireturn, 1) := by decide +kernel
theorem dX12_with_0 : decode cX12_with 0 = .ok (.iload_n 3, 1) := by decide +kernel
theorem dX12_with_1 : decode cX12_with 1 = .ok (.iconst (-1), 1) := by decide +kernel
theorem dX12_with_2 : decode cX12_with 2 = .ok (.if_icmp .ne 19, 3) := by decide +kernel
theorem dX12_with_5 : decode cX12_with 5 = .ok (.aload_n 0, 1) := by decide +kernel
theorem dX12_with_6 : decode cX12_with 6 = .ok (.getfield 104, 3) := by decide +kernel
theorem dX12_with_9 : decode cX12_with 9 = .ok (.iload_n 1, 1) := by decide +kernel
theorem dX12_with_10 : decode cX12_with 10 = .ok (.iconst 1, 1) := by decide +kernel
theorem dX12_with_11 : decode cX12_with 11 = .ok (.iadd, 1) := by decide +kernel
theorem dX12_with_12 : decode cX12_with 12 = .ok (.bipush 6, 2) := by decide +kernel
theorem dX12_with_14 : decode cX12_with 14 = .ok (.ishl, 1) := by decide +kernel
theorem dX12_with_15 : decode cX12_with 15 = .ok (.iload_n 2, 1) := by decide +kernel
theorem dX12_with_16 : decode cX12_with 16 = .ok (.iadd, 1) := by decide +kernel
theorem dX12_with_17 : decode cX12_with 17 = .ok (.iaload, 1) := by decide +kernel
theorem dX12_with_18 : decode cX12_with 18 = .ok (.goto 29, 3) := by decide +kernel
theorem dX12_with_21 : decode cX12_with 21 = .ok (.aload_n 0, 1) := by decide +kernel
theorem dX12_with_22 : decode cX12_with 22 = .ok (.iload_n 1, 1) := by decide +kernel
theorem dX12_with_23 : decode cX12_with 23 = .ok (.iload_n 3, 1) := by decide +kernel
theorem dX12_with_24 : decode cX12_with 24 = .ok (.invokevirtual 414, 3) := by decide +kernel
theorem dX12_with_27 : decode cX12_with 27 = .ok (.aload_n 0, 1) := by decide +kernel
theorem dX12_with_28 : decode cX12_with 28 = .ok (.getfield 104, 3) := by decide +kernel
theorem dX12_with_31 : decode cX12_with 31 = .ok (.iload_n 1, 1) := by decide +kernel
theorem dX12_with_32 : decode cX12_with 32 = .ok (.iconst 1, 1) := by decide +kernel
theorem dX12_with_33 : decode cX12_with 33 = .ok (.iadd, 1) := by decide +kernel
theorem dX12_with_34 : decode cX12_with 34 = .ok (.bipush 6, 2) := by decide +kernel
theorem dX12_with_36 : decode cX12_with 36 = .ok (.ishl, 1) := by decide +kernel
theorem dX12_with_37 : decode cX12_with 37 = .ok (.iload_n 2, 1) := by decide +kernel
theorem dX12_with_38 : decode cX12_with 38 = .ok (.iconst 1, 1) := by decide +kernel
theorem dX12_with_39 : decode cX12_with 39 = .ok (.iload_n 3, 1) := by decide +kernel
theorem dX12_with_40 : decode cX12_with 40 = .ok (.ishl, 1) := by decide +kernel
theorem dX12_with_41 : decode cX12_with 41 = .ok (.iconst (-1), 1) := by decide +kernel
theorem dX12_with_42 : decode cX12_with 42 = .ok (.ixor, 1) := by decide +kernel
theorem dX12_with_43 : decode cX12_with 43 = .ok (.iand, 1) := by decide +kernel
theorem dX12_with_44 : decode cX12_with 44 = .ok (.iadd, 1) := by decide +kernel
theorem dX12_with_45 : decode cX12_with 45 = .ok (.iaload, 1) := by decide +kernel
theorem dX12_with_46 : decode cX12_with 46 = .ok (.iadd, 1) := by decide +kernel
theorem dX12_with_47 : decode cX12_with 47 = .ok (.ireturn, 1) := by decide +kernel
theorem dX12_tellMost_0 : decode cX12_tellMost 0 = .ok (.iconst 1, 1) := by decide +kernel
theorem dX12_tellMost_1 : decode cX12_tellMost 1 = .ok (.aload_n 0, 1) := by decide +kernel
theorem dX12_tellMost_2 : decode cX12_tellMost 2 = .ok (.getfield 41, 3) := by decide +kernel
theorem dX12_tellMost_5 : decode cX12_tellMost 5 = .ok (.iconst 0, 1) := by decide +kernel
theorem dX12_tellMost_6 : decode cX12_tellMost 6 = .ok (.iaload, 1) := by decide +kernel
theorem dX12_tellMost_7 : decode cX12_tellMost 7 = .ok (.ishl, 1) := by decide +kernel
theorem dX12_tellMost_8 : decode cX12_tellMost 8 = .ok (.istore_n 1, 1) := by decide +kernel
theorem dX12_tellMost_9 : decode cX12_tellMost 9 = .ok (.iconst 0, 1) := by decide +kernel
theorem dX12_tellMost_10 : decode cX12_tellMost 10 = .ok (.istore_n 2, 1) := by decide +kernel
theorem dX12_tellMost_11 : decode cX12_tellMost 11 = .ok (.iload_n 2, 1) := by decide +kernel
theorem dX12_tellMost_12 : decode cX12_tellMost 12 = .ok (.iload_n 1, 1) := by decide +kernel
theorem dX12_tellMost_13 : decode cX12_tellMost 13 = .ok (.if_icmp .ge 26, 3) := by decide +kernel
theorem dX12_tellMost_16 : decode cX12_tellMost 16 = .ok (.aload_n 0, 1) := by decide +kernel
theorem dX12_tellMost_17 : decode cX12_tellMost 17 = .ok (.getfield 104, 3) := by decide +kernel
theorem dX12_tellMost_20 : decode cX12_tellMost 20 = .ok (.aload_n 0, 1) := by decide +kernel
theorem dX12_tellMost_21 : decode cX12_tellMost 21 = .ok (.getfield 41, 3) := by decide +kernel
theorem dX12_tellMost_24 : decode cX12_tellMost 24 = .ok (.iconst 1, 1) := by decide +kernel
theorem dX12_tellMost_25 : decode cX12_tellMost 25 = .ok (.iaload, 1) := by decide +kernel
theorem dX12_tellMost_26 : decode cX12_tellMost 26 = .ok (.bipush 6, 2) := by decide +kernel
theorem dX12_tellMost_28 : decode cX12_tellMost 28 = .ok (.ishl, 1) := by decide +kernel
theorem dX12_tellMost_29 : decode cX12_tellMost 29 = .ok (.iload_n 2, 1) := by decide +kernel
theorem dX12_tellMost_30 : decode cX12_tellMost 30 = .ok (.iadd, 1) := by decide +kernel
theorem dX12_tellMost_31 : decode cX12_tellMost 31 = .ok (.iconst 0, 1) := by decide +kernel
theorem dX12_tellMost_32 : decode cX12_tellMost 32 = .ok (.iastore, 1) := by decide +kernel
theorem dX12_tellMost_33 : decode cX12_tellMost 33 = .ok (.iinc 2 1, 3) := by decide +kernel
theorem dX12_tellMost_36 : decode cX12_tellMost 36 = .ok (.goto (-25), 3) := by decide +kernel
theorem dX12_tellMost_39 : decode cX12_tellMost 39 = .ok (.aload_n 0, 1) := by decide +kernel
theorem dX12_tellMost_40 : decode cX12_tellMost 40 = .ok (.getfield 41, 3) := by decide +kernel
theorem dX12_tellMost_43 : decode cX12_tellMost 43 = .ok (.iconst 1, 1) := by decide +kernel
theorem dX12_tellMost_44 : decode cX12_tellMost 44 = .ok (.iaload, 1) := by decide +kernel
theorem dX12_tellMost_45 : decode cX12_tellMost 45 = .ok (.iconst 1, 1) := by decide +kernel
theorem dX12_tellMost_46 : decode cX12_tellMost 46 = .ok (.isub, 1) := by decide +kernel
theorem dX12_tellMost_47 : decode cX12_tellMost 47 = .ok (.istore_n 2, 1) := by decide +kernel
theorem dX12_tellMost_48 : decode cX12_tellMost 48 = .ok (.iload_n 2, 1) := by decide +kernel
theorem dX12_tellMost_49 : decode cX12_tellMost 49 = .ok (.ifCond .lt 88, 3) := by decide +kernel
theorem dX12_tellMost_52 : decode cX12_tellMost 52 = .ok (.iconst 0, 1) := by decide +kernel
theorem dX12_tellMost_53 : decode cX12_tellMost 53 = .ok (.istore_n 3, 1) := by decide +kernel
theorem dX12_tellMost_54 : decode cX12_tellMost 54 = .ok (.iload_n 3, 1) := by decide +kernel
theorem dX12_tellMost_55 : decode cX12_tellMost 55 = .ok (.iload_n 1, 1) := by decide +kernel
theorem dX12_tellMost_56 : decode cX12_tellMost 56 = .ok (.if_icmp .ge 75, 3) := by decide +kernel
theorem dX12_tellMost_59 : decode cX12_tellMost 59 = .ok (.aload_n 0, 1) := by decide +kernel
theorem dX12_tellMost_60 : decode cX12_tellMost 60 = .ok (.iload_n 2, 1) := by decide +kernel
theorem dX12_tellMost_61 : decode cX12_tellMost 61 = .ok (.iload_n 3, 1) := by decide +kernel
theorem dX12_tellMost_62 : decode cX12_tellMost 62 = .ok (.iconst (-1), 1) := by decide +kernel
theorem dX12_tellMost_63 : decode cX12_tellMost 63 = .ok (.invokevirtual 417, 3) := by decide +kernel
theorem dX12_tellMost_66 : decode cX12_tellMost 66 = .ok (.istore 4, 2) := by decide +kernel
theorem dX12_tellMost_68 : decode cX12_tellMost 68 = .ok (.iconst 0, 1) := by decide +kernel
theorem dX12_tellMost_69 : decode cX12_tellMost 69 = .ok (.istore 5, 2) := by decide +kernel
theorem dX12_tellMost_71 : decode cX12_tellMost 71 = .ok (.iload 5, 2) := by decide +kernel
theorem dX12_tellMost_73 : decode cX12_tellMost 73 = .ok (.aload_n 0, 1) := by decide +kernel
theorem dX12_tellMost_74 : decode cX12_tellMost 74 = .ok (.getfield 41, 3) := by decide +kernel
theorem dX12_tellMost_77 : decode cX12_tellMost 77 = .ok (.iconst 0, 1) := by decide +kernel
theorem dX12_tellMost_78 : decode cX12_tellMost 78 = .ok (.iaload, 1) := by decide +kernel
theorem dX12_tellMost_79 : decode cX12_tellMost 79 = .ok (.if_icmp .ge 33, 3) := by decide +kernel
theorem dX12_tellMost_82 : decode cX12_tellMost 82 = .ok (.iload_n 3, 1) := by decide +kernel
theorem dX12_tellMost_83 : decode cX12_tellMost 83 = .ok (.iload 5, 2) := by decide +kernel
theorem dX12_tellMost_85 : decode cX12_tellMost 85 = .ok (.invokestatic 337, 3) := by decide +kernel
theorem dX12_tellMost_88 : decode cX12_tellMost 88 = .ok (.ifCond .eq 18, 3) := by decide +kernel
theorem dX12_tellMost_91 : decode cX12_tellMost 91 = .ok (.iload 4, 2) := by decide +kernel
theorem dX12_tellMost_93 : decode cX12_tellMost 93 = .ok (.aload_n 0, 1) := by decide +kernel
theorem dX12_tellMost_94 : decode cX12_tellMost 94 = .ok (.iload_n 2, 1) := by decide +kernel
theorem dX12_tellMost_95 : decode cX12_tellMost 95 = .ok (.iload_n 3, 1) := by decide +kernel
theorem dX12_tellMost_96 : decode cX12_tellMost 96 = .ok (.iload 5, 2) := by decide +kernel
theorem dX12_tellMost_98 : decode cX12_tellMost 98 = .ok (.invokevirtual 417, 3) := by decide +kernel
theorem dX12_tellMost_101 : decode cX12_tellMost 101 = .ok (.invokestatic 328, 3) := by decide +kernel
theorem dX12_tellMost_104 : decode cX12_tellMost 104 = .ok (.istore 4, 2) := by decide +kernel
theorem dX12_tellMost_106 : decode cX12_tellMost 106 = .ok (.iinc 5 1, 3) := by decide +kernel
theorem dX12_tellMost_109 : decode cX12_tellMost 109 = .ok (.goto (-38), 3) := by decide +kernel
theorem dX12_tellMost_112 : decode cX12_tellMost 112 = .ok (.aload_n 0, 1) := by decide +kernel
theorem dX12_tellMost_113 : decode cX12_tellMost 113 = .ok (.getfield 104, 3) := by decide +kernel
theorem dX12_tellMost_116 : decode cX12_tellMost 116 = .ok (.iload_n 2, 1) := by decide +kernel
theorem dX12_tellMost_117 : decode cX12_tellMost 117 = .ok (.bipush 6, 2) := by decide +kernel
theorem dX12_tellMost_119 : decode cX12_tellMost 119 = .ok (.ishl, 1) := by decide +kernel
theorem dX12_tellMost_120 : decode cX12_tellMost 120 = .ok (.iload_n 3, 1) := by decide +kernel
theorem dX12_tellMost_121 : decode cX12_tellMost 121 = .ok (.iadd, 1) := by decide +kernel
theorem dX12_tellMost_122 : decode cX12_tellMost 122 = .ok (.iload 4, 2) := by decide +kernel
theorem dX12_tellMost_124 : decode cX12_tellMost 124 = .ok (.iastore, 1) := by decide +kernel
theorem dX12_tellMost_125 : decode cX12_tellMost 125 = .ok (.iinc 3 1, 3) := by decide +kernel
theorem dX12_tellMost_128 : decode cX12_tellMost 128 = .ok (.goto (-74), 3) := by decide +kernel
theorem dX12_tellMost_131 : decode cX12_tellMost 131 = .ok (.iinc 2 (-1), 3) := by decide +kernel
theorem dX12_tellMost_134 : decode cX12_tellMost 134 = .ok (.goto (-86), 3) := by decide +kernel
theorem dX12_tellMost_137 : decode cX12_tellMost 137 = .ok (.return_, 1) := by decide +kernel
theorem dX12_choice_0 : decode cX12_choice 0 = .ok (.aload_n 0, 1) := by decide +kernel
theorem dX12_choice_1 : decode cX12_choice 1 = .ok (.iconst 0, 1) := by decide +kernel
theorem dX12_choice_2 : decode cX12_choice 2 = .ok (.putfield 152, 3) := by decide +kernel
theorem dX12_choice_5 : decode cX12_choice 5 = .ok (.iload_n 1, 1) := by decide +kernel
theorem dX12_choice_6 : decode cX12_choice 6 = .ok (.i2l, 1) := by decide +kernel
theorem dX12_choice_7 : decode cX12_choice 7 = .ok (.ldc2_w 420, 3) := by decide +kernel
theorem dX12_choice_10 : decode cX12_choice 10 = .ok (.aload_n 0, 1) := by decide +kernel
theorem dX12_choice_11 : decode cX12_choice 11 = .ok (.getfield 41, 3) := by decide +kernel
theorem dX12_choice_14 : decode cX12_choice 14 = .ok (.iconst 1, 1) := by decide +kernel
theorem dX12_choice_15 : decode cX12_choice 15 = .ok (.iaload, 1) := by decide +kernel
theorem dX12_choice_16 : decode cX12_choice 16 = .ok (.iconst 1, 1) := by decide +kernel
theorem dX12_choice_17 : decode cX12_choice 17 = .ok (.isub, 1) := by decide +kernel
theorem dX12_choice_18 : decode cX12_choice 18 = .ok (.i2l, 1) := by decide +kernel
theorem dX12_choice_19 : decode cX12_choice 19 = .ok (.invokestatic 155, 3) := by decide +kernel
theorem dX12_choice_22 : decode cX12_choice 22 = .ok (.ifCond .ne 9, 3) := by decide +kernel
theorem dX12_choice_25 : decode cX12_choice 25 = .ok (.aload_n 0, 1) := by decide +kernel
theorem dX12_choice_26 : decode cX12_choice 26 = .ok (.iconst 1, 1) := by decide +kernel
theorem dX12_choice_27 : decode cX12_choice 27 = .ok (.invokevirtual 283, 3) := by decide +kernel
theorem dX12_choice_30 : decode cX12_choice 30 = .ok (.ireturn, 1) := by decide +kernel
theorem dX12_choice_31 : decode cX12_choice 31 = .ok (.aload_n 0, 1) := by decide +kernel
theorem dX12_choice_32 : decode cX12_choice 32 = .ok (.invokevirtual 422, 3) := by decide +kernel
theorem dX12_choice_35 : decode cX12_choice 35 = .ok (.iconst 1, 1) := by decide +kernel
theorem dX12_choice_36 : decode cX12_choice 36 = .ok (.aload_n 0, 1) := by decide +kernel
theorem dX12_choice_37 : decode cX12_choice 37 = .ok (.getfield 41, 3) := by decide +kernel
theorem dX12_choice_40 : decode cX12_choice 40 = .ok (.iconst 0, 1) := by decide +kernel
theorem dX12_choice_41 : decode cX12_choice 41 = .ok (.iaload, 1) := by decide +kernel
theorem dX12_choice_42 : decode cX12_choice 42 = .ok (.ishl, 1) := by decide +kernel
theorem dX12_choice_43 : decode cX12_choice 43 = .ok (.iconst 1, 1) := by decide +kernel
theorem dX12_choice_44 : decode cX12_choice 44 = .ok (.isub, 1) := by decide +kernel
theorem dX12_choice_45 : decode cX12_choice 45 = .ok (.istore_n 2, 1) := by decide +kernel
theorem dX12_choice_46 : decode cX12_choice 46 = .ok (.iload_n 1, 1) := by decide +kernel
theorem dX12_choice_47 : decode cX12_choice 47 = .ok (.iconst (-1), 1) := by decide +kernel
theorem dX12_choice_48 : decode cX12_choice 48 = .ok (.if_icmp .ne 10, 3) := by decide +kernel
theorem dX12_choice_51 : decode cX12_choice 51 = .ok (.aload_n 0, 1) := by decide +kernel
theorem dX12_choice_52 : decode cX12_choice 52 = .ok (.getfield 104, 3) := by decide +kernel
theorem dX12_choice_55 : decode cX12_choice 55 = .ok (.iload_n 2, 1) := by decide +kernel
theorem dX12_choice_56 : decode cX12_choice 56 = .ok (.iaload, 1) := by decide +kernel
theorem dX12_choice_57 : decode cX12_choice 57 = .ok (.ireturn, 1) := by decide +kernel
theorem dX12_choice_58 : decode cX12_choice 58 = .ok (.iconst (-1), 1) := by decide +kernel
theorem dX12_choice_59 : decode cX12_choice 59 = .ok (.istore_n 3, 1) := by decide +kernel
theorem dX12_choice_60 : decode cX12_choice 60 = .ok (.iconst 0, 1) := by decide +kernel
theorem dX12_choice_61 : decode cX12_choice 61 = .ok (.istore 4, 2) := by decide +kernel
theorem dX12_choice_63 : decode cX12_choice 63 = .ok (.iload 4, 2) := by decide +kernel
theorem dX12_choice_65 : decode cX12_choice 65 = .ok (.iload_n 1, 1) := by decide +kernel
theorem dX12_choice_66 : decode cX12_choice 66 = .ok (.if_icmp .gt 85, 3) := by decide +kernel
theorem dX12_choice_69 : decode cX12_choice 69 = .ok (.iconst (-1), 1) := by decide +kernel
theorem dX12_choice_70 : decode cX12_choice 70 = .ok (.istore_n 3, 1) := by decide +kernel
theorem dX12_choice_71 : decode cX12_choice 71 = .ok (.aload_n 0, 1) := by decide +kernel
theorem dX12_choice_72 : decode cX12_choice 72 = .ok (.getfield 41, 3) := by decide +kernel
theorem dX12_choice_75 : decode cX12_choice 75 = .ok (.iconst 0, 1) := by decide +kernel
theorem dX12_choice_76 : decode cX12_choice 76 = .ok (.iaload, 1) := by decide +kernel
theorem dX12_choice_77 : decode cX12_choice 77 = .ok (.iconst 1, 1) := by decide +kernel
theorem dX12_choice_78 : decode cX12_choice 78 = .ok (.isub, 1) := by decide +kernel
theorem dX12_choice_79 : decode cX12_choice 79 = .ok (.istore 5, 2) := by decide +kernel
theorem dX12_choice_81 : decode cX12_choice 81 = .ok (.iload 5, 2) := by decide +kernel
theorem dX12_choice_83 : decode cX12_choice 83 = .ok (.ifCond .lt 45, 3) := by decide +kernel
theorem dX12_choice_86 : decode cX12_choice 86 = .ok (.iload_n 2, 1) := by decide +kernel
theorem dX12_choice_87 : decode cX12_choice 87 = .ok (.iload 5, 2) := by decide +kernel
theorem dX12_choice_89 : decode cX12_choice 89 = .ok (.invokestatic 337, 3) := by decide +kernel
theorem dX12_choice_92 : decode cX12_choice 92 = .ok (.ifCond .eq 30, 3) := by decide +kernel
theorem dX12_choice_95 : decode cX12_choice 95 = .ok (.aload_n 0, 1) := by decide +kernel
theorem dX12_choice_96 : decode cX12_choice 96 = .ok (.iload 4, 2) := by decide +kernel
theorem dX12_choice_98 : decode cX12_choice 98 = .ok (.iload_n 2, 1) := by decide +kernel
theorem dX12_choice_99 : decode cX12_choice 99 = .ok (.iload 5, 2) := by decide +kernel
theorem dX12_choice_101 : decode cX12_choice 101 = .ok (.invokevirtual 417, 3) := by decide +kernel
theorem dX12_choice_104 : decode cX12_choice 104 = .ok (.aload_n 0, 1) := by decide +kernel
theorem dX12_choice_105 : decode cX12_choice 105 = .ok (.getfield 104, 3) := by decide +kernel
theorem dX12_choice_108 : decode cX12_choice 108 = .ok (.iload 4, 2) := by decide +kernel
theorem dX12_choice_110 : decode cX12_choice 110 = .ok (.bipush 6, 2) := by decide +kernel
theorem dX12_choice_112 : decode cX12_choice 112 = .ok (.ishl, 1) := by decide +kernel
theorem dX12_choice_113 : decode cX12_choice 113 = .ok (.iload_n 2, 1) := by decide +kernel
theorem dX12_choice_114 : decode cX12_choice 114 = .ok (.iadd, 1) := by decide +kernel
theorem dX12_choice_115 : decode cX12_choice 115 = .ok (.iaload, 1) := by decide +kernel
theorem dX12_choice_116 : decode cX12_choice 116 = .ok (.if_icmp .ne 6, 3) := by decide +kernel
theorem dX12_choice_119 : decode cX12_choice 119 = .ok (.iload 5, 2) := by decide +kernel
theorem dX12_choice_121 : decode cX12_choice 121 = .ok (.istore_n 3, 1) := by decide +kernel
theorem dX12_choice_122 : decode cX12_choice 122 = .ok (.iinc 5 (-1), 3) := by decide +kernel
theorem dX12_choice_125 : decode cX12_choice 125 = .ok (.goto (-44), 3) := by decide +kernel
theorem dX12_choice_128 : decode cX12_choice 128 = .ok (.iload_n 2, 1) := by decide +kernel
theorem dX12_choice_129 : decode cX12_choice 129 = .ok (.iload_n 3, 1) := by decide +kernel
theorem dX12_choice_130 : decode cX12_choice 130 = .ok (.iconst (-1), 1) := by decide +kernel
theorem dX12_choice_131 : decode cX12_choice 131 = .ok (.if_icmp .ne 7, 3) := by decide +kernel
theorem dX12_choice_134 : decode cX12_choice 134 = .ok (.iload_n 2, 1) := by decide +kernel
theorem dX12_choice_135 : decode cX12_choice 135 = .ok (.goto 8, 3) := by decide +kernel
theorem dX12_choice_138 : decode cX12_choice 138 = .ok (.iconst 1, 1) := by decide +kernel
theorem dX12_choice_139 : decode cX12_choice 139 = .ok (.iload_n 3, 1) := by decide +kernel
theorem dX12_choice_140 : decode cX12_choice 140 = .ok (.ishl, 1) := by decide +kernel
theorem dX12_choice_141 : decode cX12_choice 141 = .ok (.iconst (-1), 1) := by decide +kernel
theorem dX12_choice_142 : decode cX12_choice 142 = .ok (.ixor, 1) := by decide +kernel
theorem dX12_choice_143 : decode cX12_choice 143 = .ok (.iand, 1) := by decide +kernel
theorem dX12_choice_144 : decode cX12_choice 144 = .ok (.istore_n 2, 1) := by decide +kernel
theorem dX12_choice_145 : decode cX12_choice 145 = .ok (.iinc 4 1, 3) := by decide +kernel
theorem dX12_choice_148 : decode cX12_choice 148 = .ok (.goto (-85), 3) := by decide +kernel
theorem dX12_choice_151 : decode cX12_choice 151 = .ok (.iload_n 3, 1) := by decide +kernel
theorem dX12_choice_152 : decode cX12_choice 152 = .ok (.ireturn, 1) := by decide +kernel
theorem dX12_hardestOf_0 : decode cX12_hardestOf 0 = .ok (.iconst 0, 1) := by decide +kernel
theorem dX12_hardestOf_1 : decode cX12_hardestOf 1 = .ok (.istore_n 2, 1) := by decide +kernel
theorem dX12_hardestOf_2 : decode cX12_hardestOf 2 = .ok (.iconst 0, 1) := by decide +kernel
theorem dX12_hardestOf_3 : decode cX12_hardestOf 3 = .ok (.istore_n 3, 1) := by decide +kernel
theorem dX12_hardestOf_4 : decode cX12_hardestOf 4 = .ok (.iload_n 3, 1) := by decide +kernel
theorem dX12_hardestOf_5 : decode cX12_hardestOf 5 = .ok (.aload_n 0, 1) := by decide +kernel
theorem dX12_hardestOf_6 : decode cX12_hardestOf 6 = .ok (.getfield 47, 3) := by decide +kernel
theorem dX12_hardestOf_9 : decode cX12_hardestOf 9 = .ok (.iload_n 1, 1) := by decide +kernel
theorem dX12_hardestOf_10 : decode cX12_hardestOf 10 = .ok (.iaload, 1) := by decide +kernel
theorem dX12_hardestOf_11 : decode cX12_hardestOf 11 = .ok (.if_icmp .ge 20, 3) := by decide +kernel
theorem dX12_hardestOf_14 : decode cX12_hardestOf 14 = .ok (.iload_n 2, 1) := by decide +kernel
theorem dX12_hardestOf_15 : decode cX12_hardestOf 15 = .ok (.aload_n 0, 1) := by decide +kernel
theorem dX12_hardestOf_16 : decode cX12_hardestOf 16 = .ok (.iload_n 1, 1) := by decide +kernel
theorem dX12_hardestOf_17 : decode cX12_hardestOf 17 = .ok (.iload_n 3, 1) := by decide +kernel
theorem dX12_hardestOf_18 : decode cX12_hardestOf 18 = .ok (.invokevirtual 316, 3) := by decide +kernel
theorem dX12_hardestOf_21 : decode cX12_hardestOf 21 = .ok (.invokestatic 328, 3) := by decide +kernel
theorem dX12_hardestOf_24 : decode cX12_hardestOf 24 = .ok (.istore_n 2, 1) := by decide +kernel
theorem dX12_hardestOf_25 : decode cX12_hardestOf 25 = .ok (.iinc 3 1, 3) := by decide +kernel
theorem dX12_hardestOf_28 : decode cX12_hardestOf 28 = .ok (.goto (-24), 3) := by decide +kernel
theorem dX12_hardestOf_31 : decode cX12_hardestOf 31 = .ok (.iload_n 2, 1) := by decide +kernel
theorem dX12_hardestOf_32 : decode cX12_hardestOf 32 = .ok (.ireturn, 1) := by decide +kernel
theorem dX12_hardest_0 : decode cX12_hardest 0 = .ok (.aload_n 0, 1) := by decide +kernel
theorem dX12_hardest_1 : decode cX12_hardest 1 = .ok (.iconst 0, 1) := by decide +kernel
theorem dX12_hardest_2 : decode cX12_hardest 2 = .ok (.putfield 152, 3) := by decide +kernel
theorem dX12_hardest_5 : decode cX12_hardest 5 = .ok (.iconst (-1), 1) := by decide +kernel
theorem dX12_hardest_6 : decode cX12_hardest 6 = .ok (.istore_n 1, 1) := by decide +kernel
theorem dX12_hardest_7 : decode cX12_hardest 7 = .ok (.iconst 0, 1) := by decide +kernel
theorem dX12_hardest_8 : decode cX12_hardest 8 = .ok (.istore_n 2, 1) := by decide +kernel
theorem dX12_hardest_9 : decode cX12_hardest 9 = .ok (.iload_n 2, 1) := by decide +kernel
theorem dX12_hardest_10 : decode cX12_hardest 10 = .ok (.aload_n 0, 1) := by decide +kernel
theorem dX12_hardest_11 : decode cX12_hardest 11 = .ok (.getfield 41, 3) := by decide +kernel
theorem dX12_hardest_14 : decode cX12_hardest 14 = .ok (.iconst 0, 1) := by decide +kernel
theorem dX12_hardest_15 : decode cX12_hardest 15 = .ok (.iaload, 1) := by decide +kernel
theorem dX12_hardest_16 : decode cX12_hardest 16 = .ok (.if_icmp .ge 29, 3) := by decide +kernel
theorem dX12_hardest_19 : decode cX12_hardest 19 = .ok (.iload_n 1, 1) := by decide +kernel
theorem dX12_hardest_20 : decode cX12_hardest 20 = .ok (.iconst (-1), 1) := by decide +kernel
theorem dX12_hardest_21 : decode cX12_hardest 21 = .ok (.if_icmp .eq 16, 3) := by decide +kernel
theorem dX12_hardest_24 : decode cX12_hardest 24 = .ok (.aload_n 0, 1) := by decide +kernel
theorem dX12_hardest_25 : decode cX12_hardest 25 = .ok (.iload_n 2, 1) := by decide +kernel
theorem dX12_hardest_26 : decode cX12_hardest 26 = .ok (.invokevirtual 425, 3) := by decide +kernel
theorem dX12_hardest_29 : decode cX12_hardest 29 = .ok (.aload_n 0, 1) := by decide +kernel
theorem dX12_hardest_30 : decode cX12_hardest 30 = .ok (.iload_n 1, 1) := by decide +kernel
theorem dX12_hardest_31 : decode cX12_hardest 31 = .ok (.invokevirtual 425, 3) := by decide +kernel
theorem dX12_hardest_34 : decode cX12_hardest 34 = .ok (.if_icmp .le 5, 3) := by decide +kernel
theorem dX12_hardest_37 : decode cX12_hardest 37 = .ok (.iload_n 2, 1) := by decide +kernel
theorem dX12_hardest_38 : decode cX12_hardest 38 = .ok (.istore_n 1, 1) := by decide +kernel
theorem dX12_hardest_39 : decode cX12_hardest 39 = .ok (.iinc 2 1, 3) := by decide +kernel
theorem dX12_hardest_42 : decode cX12_hardest 42 = .ok (.goto (-33), 3) := by decide +kernel
theorem dX12_hardest_45 : decode cX12_hardest 45 = .ok (.iload_n 1, 1) := by decide +kernel
theorem dX12_hardest_46 : decode cX12_hardest 46 = .ok (.ireturn, 1) := by decide +kernel
theorem dX12_concert_0 : decode cX12_concert 0 = .ok (.aload_n 0, 1) := by decide +kernel
theorem dX12_concert_1 : decode cX12_concert 1 = .ok (.iconst 0, 1) := by decide +kernel
theorem dX12_concert_2 : decode cX12_concert 2 = .ok (.putfield 152, 3) := by decide +kernel
theorem dX12_concert_5 : decode cX12_concert 5 = .ok (.iload_n 2, 1) := by decide +kernel
theorem dX12_concert_6 : decode cX12_concert 6 = .ok (.ifCond .lt 12, 3) := by decide +kernel
theorem dX12_concert_9 : decode cX12_concert 9 = .ok (.iload_n 1, 1) := by decide +kernel
theorem dX12_concert_10 : decode cX12_concert 10 = .ok (.ifCond .lt 8, 3) := by decide +kernel
theorem dX12_concert_13 : decode cX12_concert 13 = .ok (.iload_n 1, 1) := by decide +kernel
theorem dX12_concert_14 : decode cX12_concert 14 = .ok (.iconst 1, 1) := by decide +kernel
theorem dX12_concert_15 : decode cX12_concert 15 = .ok (.if_icmp .le 9, 3) := by decide +kernel
theorem dX12_concert_18 : decode cX12_concert 18 = .ok (.aload_n 0, 1) := by decide +kernel
theorem dX12_concert_19 : decode cX12_concert 19 = .ok (.iconst 1, 1) := by decide +kernel
theorem dX12_concert_20 : decode cX12_concert 20 = .ok (.invokevirtual 283, 3) := by decide +kernel
theorem dX12_concert_23 : decode cX12_concert 23 = .ok (.ireturn, 1) := by decide +kernel
theorem dX12_concert_24 : decode cX12_concert 24 = .ok (.iload_n 1, 1) := by decide +kernel
theorem dX12_concert_25 : decode cX12_concert 25 = .ok (.ifCond .ne 10, 3) := by decide +kernel
theorem dX12_concert_28 : decode cX12_concert 28 = .ok (.aload_n 0, 1) := by decide +kernel
theorem dX12_concert_29 : decode cX12_concert 29 = .ok (.invokevirtual 361, 3) := by decide +kernel
theorem dX12_concert_32 : decode cX12_concert 32 = .ok (.goto 13, 3) := by decide +kernel
theorem dX12_concert_35 : decode cX12_concert 35 = .ok (.iconst 1, 1) := by decide +kernel
theorem dX12_concert_36 : decode cX12_concert 36 = .ok (.aload_n 0, 1) := by decide +kernel
theorem dX12_concert_37 : decode cX12_concert 37 = .ok (.getfield 41, 3) := by decide +kernel
theorem dX12_concert_40 : decode cX12_concert 40 = .ok (.iconst 1, 1) := by decide +kernel
theorem dX12_concert_41 : decode cX12_concert 41 = .ok (.iaload, 1) := by decide +kernel
theorem dX12_concert_42 : decode cX12_concert 42 = .ok (.ishl, 1) := by decide +kernel
theorem dX12_concert_43 : decode cX12_concert 43 = .ok (.iconst 1, 1) := by decide +kernel
theorem dX12_concert_44 : decode cX12_concert 44 = .ok (.isub, 1) := by decide +kernel
theorem dX12_concert_45 : decode cX12_concert 45 = .ok (.istore_n 3, 1) := by decide +kernel
theorem dX12_concert_46 : decode cX12_concert 46 = .ok (.iconst 0, 1) := by decide +kernel
theorem dX12_concert_47 : decode cX12_concert 47 = .ok (.istore 4, 2) := by decide +kernel
theorem dX12_concert_49 : decode cX12_concert 49 = .ok (.iload 4, 2) := by decide +kernel
theorem dX12_concert_51 : decode cX12_concert 51 = .ok (.aload_n 0, 1) := by decide +kernel
theorem dX12_concert_52 : decode cX12_concert 52 = .ok (.getfield 41, 3) := by decide +kernel
theorem dX12_concert_55 : decode cX12_concert 55 = .ok (.iconst 1, 1) := by decide +kernel
theorem dX12_concert_56 : decode cX12_concert 56 = .ok (.iaload, 1) := by decide +kernel
theorem dX12_concert_57 : decode cX12_concert 57 = .ok (.if_icmp .ge 110, 3) := by decide +kernel
theorem dX12_concert_60 : decode cX12_concert 60 = .ok (.iconst 0, 1) := by decide +kernel
theorem dX12_concert_61 : decode cX12_concert 61 = .ok (.istore 5, 2) := by decide +kernel
theorem dX12_concert_63 : decode cX12_concert 63 = .ok (.iconst 0, 1) := by decide +kernel
theorem dX12_concert_64 : decode cX12_concert 64 = .ok (.istore 6, 2) := by decide +kernel
theorem dX12_concert_66 : decode cX12_concert 66 = .ok (.iload 6, 2) := by decide +kernel
theorem dX12_concert_68 : decode cX12_concert 68 = .ok (.aload_n 0, 1) := by decide +kernel
theorem dX12_concert_69 : decode cX12_concert 69 = .ok (.getfield 41, 3) := by decide +kernel
theorem dX12_concert_72 : decode cX12_concert 72 = .ok (.iconst 1, 1) := by decide +kernel
theorem dX12_concert_73 : decode cX12_concert 73 = .ok (.iaload, 1) := by decide +kernel
theorem dX12_concert_74 : decode cX12_concert 74 = .ok (.if_icmp .ge 69, 3) := by decide +kernel
theorem dX12_concert_77 : decode cX12_concert 77 = .ok (.iload 5, 2) := by decide +kernel
theorem dX12_concert_79 : decode cX12_concert 79 = .ok (.iload_n 3, 1) := by decide +kernel
theorem dX12_concert_80 : decode cX12_concert 80 = .ok (.iload 6, 2) := by decide +kernel
theorem dX12_concert_82 : decode cX12_concert 82 = .ok (.invokestatic 337, 3) := by decide +kernel
theorem dX12_concert_85 : decode cX12_concert 85 = .ok (.ifCond .eq 48, 3) := by decide +kernel
theorem dX12_concert_88 : decode cX12_concert 88 = .ok (.aload_n 0, 1) := by decide +kernel
theorem dX12_concert_89 : decode cX12_concert 89 = .ok (.getfield 76, 3) := by decide +kernel
theorem dX12_concert_92 : decode cX12_concert 92 = .ok (.iload 6, 2) := by decide +kernel
theorem dX12_concert_94 : decode cX12_concert 94 = .ok (.iaload, 1) := by decide +kernel
theorem dX12_concert_95 : decode cX12_concert 95 = .ok (.aload_n 0, 1) := by decide +kernel
theorem dX12_concert_96 : decode cX12_concert 96 = .ok (.getfield 76, 3) := by decide +kernel
theorem dX12_concert_99 : decode cX12_concert 99 = .ok (.iload 4, 2) := by decide +kernel
theorem dX12_concert_101 : decode cX12_concert 101 = .ok (.iaload, 1) := by decide +kernel
theorem dX12_concert_102 : decode cX12_concert 102 = .ok (.if_icmp .lt 27, 3) := by decide +kernel
theorem dX12_concert_105 : decode cX12_concert 105 = .ok (.aload_n 0, 1) := by decide +kernel
theorem dX12_concert_106 : decode cX12_concert 106 = .ok (.getfield 76, 3) := by decide +kernel
theorem dX12_concert_109 : decode cX12_concert 109 = .ok (.iload 6, 2) := by decide +kernel
theorem dX12_concert_111 : decode cX12_concert 111 = .ok (.iaload, 1) := by decide +kernel
theorem dX12_concert_112 : decode cX12_concert 112 = .ok (.aload_n 0, 1) := by decide +kernel
theorem dX12_concert_113 : decode cX12_concert 113 = .ok (.getfield 76, 3) := by decide +kernel
theorem dX12_concert_116 : decode cX12_concert 116 = .ok (.iload 4, 2) := by decide +kernel
theorem dX12_concert_118 : decode cX12_concert 118 = .ok (.iaload, 1) := by decide +kernel
theorem dX12_concert_119 : decode cX12_concert 119 = .ok (.if_icmp .ne 14, 3) := by decide +kernel
theorem dX12_concert_122 : decode cX12_concert 122 = .ok (.iload 6, 2) := by decide +kernel
theorem dX12_concert_124 : decode cX12_concert 124 = .ok (.iload 4, 2) := by decide +kernel
theorem dX12_concert_126 : decode cX12_concert 126 = .ok (.if_icmp .ge 7, 3) := by decide +kernel
theorem dX12_concert_129 : decode cX12_concert 129 = .ok (.iconst 1, 1) := by decide +kernel
theorem dX12_concert_130 : decode cX12_concert 130 = .ok (.goto 4, 3) := by decide +kernel
theorem dX12_concert_133 : decode cX12_concert 133 = .ok (.iconst 0, 1) := by decide +kernel
theorem dX12_concert_134 : decode cX12_concert 134 = .ok (.iadd, 1) := by decide +kernel
theorem dX12_concert_135 : decode cX12_concert 135 = .ok (.istore 5, 2) := by decide +kernel
theorem dX12_concert_137 : decode cX12_concert 137 = .ok (.iinc 6 1, 3) := by decide +kernel
theorem dX12_concert_140 : decode cX12_concert 140 = .ok (.goto (-74), 3) := by decide +kernel
theorem dX12_concert_143 : decode cX12_concert 143 = .ok (.iload_n 3, 1) := by decide +kernel
theorem dX12_concert_144 : decode cX12_concert 144 = .ok (.iload 4, 2) := by decide +kernel
theorem dX12_concert_146 : decode cX12_concert 146 = .ok (.invokestatic 337, 3) := by decide +kernel
theorem dX12_concert_149 : decode cX12_concert 149 = .ok (.ifCond .eq 12, 3) := by decide +kernel
theorem dX12_concert_152 : decode cX12_concert 152 = .ok (.iload 5, 2) := by decide +kernel
theorem dX12_concert_154 : decode cX12_concert 154 = .ok (.iload_n 2, 1) := by decide +kernel
theorem dX12_concert_155 : decode cX12_concert 155 = .ok (.if_icmp .ne 6, 3) := by decide +kernel
theorem dX12_concert_158 : decode cX12_concert 158 = .ok (.iload 4, 2) := by decide +kernel
theorem dX12_concert_160 : decode cX12_concert 160 = .ok (.ireturn, 1) := by decide +kernel
theorem dX12_concert_161 : decode cX12_concert 161 = .ok (.iinc 4 1, 3) := by decide +kernel
theorem dX12_concert_164 : decode cX12_concert 164 = .ok (.goto (-115), 3) := by decide +kernel
theorem dX12_concert_167 : decode cX12_concert 167 = .ok (.iconst (-1), 1) := by decide +kernel
theorem dX12_concert_168 : decode cX12_concert 168 = .ok (.ireturn, 1) := by decide +kernel
theorem dX12_duet_0 : decode cX12_duet 0 = .ok (.aload_n 0, 1) := by decide +kernel
theorem dX12_duet_1 : decode cX12_duet 1 = .ok (.iconst 0, 1) := by decide +kernel
theorem dX12_duet_2 : decode cX12_duet 2 = .ok (.putfield 152, 3) := by decide +kernel
theorem dX12_duet_5 : decode cX12_duet 5 = .ok (.iconst (-1), 1) := by decide +kernel
theorem dX12_duet_6 : decode cX12_duet 6 = .ok (.istore_n 1, 1) := by decide +kernel
theorem dX12_duet_7 : decode cX12_duet 7 = .ok (.bipush 100, 2) := by decide +kernel
theorem dX12_duet_9 : decode cX12_duet 9 = .ok (.istore_n 2, 1) := by decide +kernel
theorem dX12_duet_10 : decode cX12_duet 10 = .ok (.iconst 0, 1) := by decide +kernel
theorem dX12_duet_11 : decode cX12_duet 11 = .ok (.istore_n 3, 1) := by decide +kernel
theorem dX12_duet_12 : decode cX12_duet 12 = .ok (.iload_n 3, 1) := by decide +kernel
theorem dX12_duet_13 : decode cX12_duet 13 = .ok (.aload_n 0, 1) := by decide +kernel
theorem dX12_duet_14 : decode cX12_duet 14 = .ok (.getfield 41, 3) := by decide +kernel
theorem dX12_duet_17 : decode cX12_duet 17 = .ok (.iconst 1, 1) := by decide +kernel
theorem dX12_duet_18 : decode cX12_duet 18 = .ok (.iaload, 1) := by decide +kernel
theorem dX12_duet_19 : decode cX12_duet 19 = .ok (.if_icmp .ge 70, 3) := by decide +kernel
theorem dX12_duet_22 : decode cX12_duet 22 = .ok (.iload_n 3, 1) := by decide +kernel
theorem dX12_duet_23 : decode cX12_duet 23 = .ok (.iconst 1, 1) := by decide +kernel
theorem dX12_duet_24 : decode cX12_duet 24 = .ok (.iadd, 1) := by decide +kernel
theorem dX12_duet_25 : decode cX12_duet 25 = .ok (.istore 4, 2) := by decide +kernel
theorem dX12_duet_27 : decode cX12_duet 27 = .ok (.iload 4, 2) := by decide +kernel
theorem dX12_duet_29 : decode cX12_duet 29 = .ok (.aload_n 0, 1) := by decide +kernel
theorem dX12_duet_30 : decode cX12_duet 30 = .ok (.getfield 41, 3) := by decide +kernel
theorem dX12_duet_33 : decode cX12_duet 33 = .ok (.iconst 1, 1) := by decide +kernel
theorem dX12_duet_34 : decode cX12_duet 34 = .ok (.iaload, 1) := by decide +kernel
theorem dX12_duet_35 : decode cX12_duet 35 = .ok (.if_icmp .ge 48, 3) := by decide +kernel
theorem dX12_duet_38 : decode cX12_duet 38 = .ok (.aload_n 0, 1) := by decide +kernel
theorem dX12_duet_39 : decode cX12_duet 39 = .ok (.getfield 76, 3) := by decide +kernel
theorem dX12_duet_42 : decode cX12_duet 42 = .ok (.iload_n 3, 1) := by decide +kernel
theorem dX12_duet_43 : decode cX12_duet 43 = .ok (.iaload, 1) := by decide +kernel
theorem dX12_duet_44 : decode cX12_duet 44 = .ok (.aload_n 0, 1) := by decide +kernel
theorem dX12_duet_45 : decode cX12_duet 45 = .ok (.getfield 76, 3) := by decide +kernel
theorem dX12_duet_48 : decode cX12_duet 48 = .ok (.iload 4, 2) := by decide +kernel
theorem dX12_duet_50 : decode cX12_duet 50 = .ok (.iaload, 1) := by decide +kernel
theorem dX12_duet_51 : decode cX12_duet 51 = .ok (.isub, 1) := by decide +kernel
theorem dX12_duet_52 : decode cX12_duet 52 = .ok (.invokestatic 428, 3) := by decide +kernel
theorem dX12_duet_55 : decode cX12_duet 55 = .ok (.istore 5, 2) := by decide +kernel
theorem dX12_duet_57 : decode cX12_duet 57 = .ok (.iload 5, 2) := by decide +kernel
theorem dX12_duet_59 : decode cX12_duet 59 = .ok (.iload_n 2, 1) := by decide +kernel
theorem dX12_duet_60 : decode cX12_duet 60 = .ok (.if_icmp .lt 6, 3) := by decide +kernel
theorem dX12_duet_63 : decode cX12_duet 63 = .ok (.goto 14, 3) := by decide +kernel
theorem dX12_duet_66 : decode cX12_duet 66 = .ok (.bipush 10, 2) := by decide +kernel
theorem dX12_duet_68 : decode cX12_duet 68 = .ok (.iload_n 3, 1) := by decide +kernel
theorem dX12_duet_69 : decode cX12_duet 69 = .ok (.imul, 1) := by decide +kernel
theorem dX12_duet_70 : decode cX12_duet 70 = .ok (.iload 4, 2) := by decide +kernel
theorem dX12_duet_72 : decode cX12_duet 72 = .ok (.iadd, 1) := by decide +kernel
theorem dX12_duet_73 : decode cX12_duet 73 = .ok (.istore_n 1, 1) := by decide +kernel
theorem dX12_duet_74 : decode cX12_duet 74 = .ok (.iload 5, 2) := by decide +kernel
theorem dX12_duet_76 : decode cX12_duet 76 = .ok (.istore_n 2, 1) := by decide +kernel
theorem dX12_duet_77 : decode cX12_duet 77 = .ok (.iinc 4 1, 3) := by decide +kernel
theorem dX12_duet_80 : decode cX12_duet 80 = .ok (.goto (-53), 3) := by decide +kernel
theorem dX12_duet_83 : decode cX12_duet 83 = .ok (.iinc 3 1, 3) := by decide +kernel
theorem dX12_duet_86 : decode cX12_duet 86 = .ok (.goto (-74), 3) := by decide +kernel
theorem dX12_duet_89 : decode cX12_duet 89 = .ok (.iload_n 1, 1) := by decide +kernel
theorem dX12_duet_90 : decode cX12_duet 90 = .ok (.ireturn, 1) := by decide +kernel
theorem dX12_common_0 : decode cX12_common 0 = .ok (.aload_n 0, 1) := by decide +kernel
theorem dX12_common_1 : decode cX12_common 1 = .ok (.iconst 0, 1) := by decide +kernel
theorem dX12_common_2 : decode cX12_common 2 = .ok (.putfield 152, 3) := by decide +kernel
theorem dX12_common_5 : decode cX12_common 5 = .ok (.aload_n 0, 1) := by decide +kernel
theorem dX12_common_6 : decode cX12_common 6 = .ok (.iload_n 1, 1) := by decide +kernel
theorem dX12_common_7 : decode cX12_common 7 = .ok (.invokevirtual 367, 3) := by decide +kernel
theorem dX12_common_10 : decode cX12_common 10 = .ok (.ifCond .eq 11, 3) := by decide +kernel
theorem dX12_common_13 : decode cX12_common 13 = .ok (.aload_n 0, 1) := by decide +kernel
theorem dX12_common_14 : decode cX12_common 14 = .ok (.iload_n 2, 1) := by decide +kernel
theorem dX12_common_15 : decode cX12_common 15 = .ok (.invokevirtual 367, 3) := by decide +kernel
theorem dX12_common_18 : decode cX12_common 18 = .ok (.ifCond .ne 9, 3) := by decide +kernel
theorem dX12_common_21 : decode cX12_common 21 = .ok (.aload_n 0, 1) := by decide +kernel
theorem dX12_common_22 : decode cX12_common 22 = .ok (.iconst 1, 1) := by decide +kernel
theorem dX12_common_23 : decode cX12_common 23 = .ok (.invokevirtual 283, 3) := by decide +kernel
theorem dX12_common_26 : decode cX12_common 26 = .ok (.ireturn, 1) := by decide +kernel
theorem dX12_common_27 : decode cX12_common 27 = .ok (.iconst 0, 1) := by decide +kernel
theorem dX12_common_28 : decode cX12_common 28 = .ok (.istore_n 3, 1) := by decide +kernel
theorem dX12_common_29 : decode cX12_common 29 = .ok (.iload_n 3, 1) := by decide +kernel
theorem dX12_common_30 : decode cX12_common 30 = .ok (.aload_n 0, 1) := by decide +kernel
theorem dX12_common_31 : decode cX12_common 31 = .ok (.getfield 47, 3) := by decide +kernel
theorem dX12_common_34 : decode cX12_common 34 = .ok (.iload_n 1, 1) := by decide +kernel
theorem dX12_common_35 : decode cX12_common 35 = .ok (.iaload, 1) := by decide +kernel
theorem dX12_common_36 : decode cX12_common 36 = .ok (.if_icmp .gt 133, 3) := by decide +kernel
theorem dX12_common_39 : decode cX12_common 39 = .ok (.iconst 0, 1) := by decide +kernel
theorem dX12_common_40 : decode cX12_common 40 = .ok (.istore 4, 2) := by decide +kernel
theorem dX12_common_42 : decode cX12_common 42 = .ok (.iload 4, 2) := by decide +kernel
theorem dX12_common_44 : decode cX12_common 44 = .ok (.aload_n 0, 1) := by decide +kernel
theorem dX12_common_45 : decode cX12_common 45 = .ok (.getfield 47, 3) := by decide +kernel
theorem dX12_common_48 : decode cX12_common 48 = .ok (.iload_n 2, 1) := by decide +kernel
theorem dX12_common_49 : decode cX12_common 49 = .ok (.iaload, 1) := by decide +kernel
theorem dX12_common_50 : decode cX12_common 50 = .ok (.if_icmp .gt 113, 3) := by decide +kernel
theorem dX12_common_53 : decode cX12_common 53 = .ok (.bipush 9, 2) := by decide +kernel
theorem dX12_common_55 : decode cX12_common 55 = .ok (.iload_n 3, 1) := by decide +kernel
theorem dX12_common_56 : decode cX12_common 56 = .ok (.imul, 1) := by decide +kernel
theorem dX12_common_57 : decode cX12_common 57 = .ok (.iload 4, 2) := by decide +kernel
theorem dX12_common_59 : decode cX12_common 59 = .ok (.iadd, 1) := by decide +kernel
theorem dX12_common_60 : decode cX12_common 60 = .ok (.istore 5, 2) := by decide +kernel
theorem dX12_common_62 : decode cX12_common 62 = .ok (.iload_n 3, 1) := by decide +kernel
theorem dX12_common_63 : decode cX12_common 63 = .ok (.ifCond .eq 8, 3) := by decide +kernel
theorem dX12_common_66 : decode cX12_common 66 = .ok (.iload 4, 2) := by decide +kernel
theorem dX12_common_68 : decode cX12_common 68 = .ok (.ifCond .ne 14, 3) := by decide +kernel
theorem dX12_common_71 : decode cX12_common 71 = .ok (.aload_n 0, 1) := by decide +kernel
theorem dX12_common_72 : decode cX12_common 72 = .ok (.getfield 107, 3) := by decide +kernel
theorem dX12_common_75 : decode cX12_common 75 = .ok (.iload 5, 2) := by decide +kernel
theorem dX12_common_77 : decode cX12_common 77 = .ok (.iconst 0, 1) := by decide +kernel
theorem dX12_common_78 : decode cX12_common 78 = .ok (.iastore, 1) := by decide +kernel
theorem dX12_common_79 : decode cX12_common 79 = .ok (.goto 78, 3) := by decide +kernel
theorem dX12_common_82 : decode cX12_common 82 = .ok (.aload_n 0, 1) := by decide +kernel
theorem dX12_common_83 : decode cX12_common 83 = .ok (.iload_n 1, 1) := by decide +kernel
theorem dX12_common_84 : decode cX12_common 84 = .ok (.iload_n 3, 1) := by decide +kernel
theorem dX12_common_85 : decode cX12_common 85 = .ok (.iconst 1, 1) := by decide +kernel
theorem dX12_common_86 : decode cX12_common 86 = .ok (.isub, 1) := by decide +kernel
theorem dX12_common_87 : decode cX12_common 87 = .ok (.invokevirtual 316, 3) := by decide +kernel
theorem dX12_common_90 : decode cX12_common 90 = .ok (.aload_n 0, 1) := by decide +kernel
theorem dX12_common_91 : decode cX12_common 91 = .ok (.iload_n 2, 1) := by decide +kernel
theorem dX12_common_92 : decode cX12_common 92 = .ok (.iload 4, 2) := by decide +kernel
theorem dX12_common_94 : decode cX12_common 94 = .ok (.iconst 1, 1) := by decide +kernel
theorem dX12_common_95 : decode cX12_common 95 = .ok (.isub, 1) := by decide +kernel
theorem dX12_common_96 : decode cX12_common 96 = .ok (.invokevirtual 316, 3) := by decide +kernel
theorem dX12_common_99 : decode cX12_common 99 = .ok (.if_icmp .ne 27, 3) := by decide +kernel
theorem dX12_common_102 : decode cX12_common 102 = .ok (.aload_n 0, 1) := by decide +kernel
theorem dX12_common_103 : decode cX12_common 103 = .ok (.getfield 107, 3) := by decide +kernel
theorem dX12_common_106 : decode cX12_common 106 = .ok (.iload 5, 2) := by decide +kernel
theorem dX12_common_108 : decode cX12_common 108 = .ok (.aload_n 0, 1) := by decide +kernel
theorem dX12_common_109 : decode cX12_common 109 = .ok (.getfield 107, 3) := by decide +kernel
theorem dX12_common_112 : decode cX12_common 112 = .ok (.iload 5, 2) := by decide +kernel
theorem dX12_common_114 : decode cX12_common 114 = .ok (.bipush 8, 2) := by decide +kernel
theorem dX12_common_116 : decode cX12_common 116 = .ok (.isub, 1) := by decide +kernel
theorem dX12_common_117 : decode cX12_common 117 = .ok (.iconst 2, 1) := by decide +kernel
theorem dX12_common_118 : decode cX12_common 118 = .ok (.isub, 1) := by decide +kernel
theorem dX12_common_119 : decode cX12_common 119 = .ok (.iaload, 1) := by decide +kernel
theorem dX12_common_120 : decode cX12_common 120 = .ok (.iconst 1, 1) := by decide +kernel
theorem dX12_common_121 : decode cX12_common 121 = .ok (.iadd, 1) := by decide +kernel
theorem dX12_common_122 : decode cX12_common 122 = .ok (.iastore, 1) := by decide +kernel
theorem dX12_common_123 : decode cX12_common 123 = .ok (.goto 34, 3) := by decide +kernel
theorem dX12_common_126 : decode cX12_common 126 = .ok (.aload_n 0, 1) := by decide +kernel
theorem dX12_common_127 : decode cX12_common 127 = .ok (.getfield 107, 3) := by decide +kernel
theorem dX12_common_130 : decode cX12_common 130 = .ok (.iload 5, 2) := by decide +kernel
theorem dX12_common_132 : decode cX12_common 132 = .ok (.aload_n 0, 1) := by decide +kernel
theorem dX12_common_133 : decode cX12_common 133 = .ok (.getfield 107, 3) := by decide +kernel
theorem dX12_common_136 : decode cX12_common 136 = .ok (.iload 5, 2) := by decide +kernel
theorem dX12_common_138 : decode cX12_common 138 = .ok (.iconst 1, 1) := by decide +kernel
theorem dX12_common_139 : decode cX12_common 139 = .ok (.isub, 1) := by decide +kernel
theorem dX12_common_140 : decode cX12_common 140 = .ok (.iaload, 1) := by decide +kernel
theorem dX12_common_141 : decode cX12_common 141 = .ok (.aload_n 0, 1) := by decide +kernel
theorem dX12_common_142 : decode cX12_common 142 = .ok (.getfield 107, 3) := by decide +kernel
theorem dX12_common_145 : decode cX12_common 145 = .ok (.iload 5, 2) := by decide +kernel
theorem dX12_common_147 : decode cX12_common 147 = .ok (.bipush 8, 2) := by decide +kernel
theorem dX12_common_149 : decode cX12_common 149 = .ok (.isub, 1) := by decide +kernel
theorem dX12_common_150 : decode cX12_common 150 = .ok (.iconst 1, 1) := by decide +kernel
theorem dX12_common_151 : decode cX12_common 151 = .ok (.isub, 1) := by decide +kernel
theorem dX12_common_152 : decode cX12_common 152 = .ok (.iaload, 1) := by decide +kernel
theorem dX12_common_153 : decode cX12_common 153 = .ok (.invokestatic 328, 3) := by decide +kernel
theorem dX12_common_156 : decode cX12_common 156 = .ok (.iastore, 1) := by decide +kernel
theorem dX12_common_157 : decode cX12_common 157 = .ok (.iinc 4 1, 3) := by decide +kernel
theorem dX12_common_160 : decode cX12_common 160 = .ok (.goto (-118), 3) := by decide +kernel
theorem dX12_common_163 : decode cX12_common 163 = .ok (.iinc 3 1, 3) := by decide +kernel
theorem dX12_common_166 : decode cX12_common 166 = .ok (.goto (-137), 3) := by decide +kernel
theorem dX12_common_169 : decode cX12_common 169 = .ok (.aload_n 0, 1) := by decide +kernel
theorem dX12_common_170 : decode cX12_common 170 = .ok (.getfield 107, 3) := by decide +kernel
theorem dX12_common_173 : decode cX12_common 173 = .ok (.bipush 9, 2) := by decide +kernel
theorem dX12_common_175 : decode cX12_common 175 = .ok (.aload_n 0, 1) := by decide +kernel
theorem dX12_common_176 : decode cX12_common 176 = .ok (.getfield 47, 3) := by decide +kernel
theorem dX12_common_179 : decode cX12_common 179 = .ok (.iload_n 1, 1) := by decide +kernel
theorem dX12_common_180 : decode cX12_common 180 = .ok (.iaload, 1) := by decide +kernel
theorem dX12_common_181 : decode cX12_common 181 = .ok (.imul, 1) := by decide +kernel
theorem dX12_common_182 : decode cX12_common 182 = .ok (.aload_n 0, 1) := by decide +kernel
theorem dX12_common_183 : decode cX12_common 183 = .ok (.getfield 47, 3) := by decide +kernel
theorem dX12_common_186 : decode cX12_common 186 = .ok (.iload_n 2, 1) := by decide +kernel
theorem dX12_common_187 : decode cX12_common 187 = .ok (.iaload, 1) := by decide +kernel
theorem dX12_common_188 : decode cX12_common 188 = .ok (.iadd, 1) := by decide +kernel
theorem dX12_common_189 : decode cX12_common 189 = .ok (.iaload, 1) := by decide +kernel
theorem dX12_common_190 : decode cX12_common 190 = .ok (.ireturn, 1) := by decide +kernel
theorem dX12_work_0 : decode cX12_work 0 = .ok (.aload_n 0, 1) := by decide +kernel
theorem dX12_work_1 : decode cX12_work 1 = .ok (.iconst 0, 1) := by decide +kernel
theorem dX12_work_2 : decode cX12_work 2 = .ok (.putfield 152, 3) := by decide +kernel
theorem dX12_work_5 : decode cX12_work 5 = .ok (.aload_n 0, 1) := by decide +kernel
theorem dX12_work_6 : decode cX12_work 6 = .ok (.iload_n 1, 1) := by decide +kernel
theorem dX12_work_7 : decode cX12_work 7 = .ok (.invokevirtual 367, 3) := by decide +kernel
theorem dX12_work_10 : decode cX12_work 10 = .ok (.ifCond .ne 9, 3) := by decide +kernel
theorem dX12_work_13 : decode cX12_work 13 = .ok (.aload_n 0, 1) := by decide +kernel
theorem dX12_work_14 : decode cX12_work 14 = .ok (.iconst 1, 1) := by decide +kernel
theorem dX12_work_15 : decode cX12_work 15 = .ok (.invokevirtual 283, 3) := by decide +kernel
theorem dX12_work_18 : decode cX12_work 18 = .ok (.ireturn, 1) := by decide +kernel
theorem dX12_work_19 : decode cX12_work 19 = .ok (.iconst 0, 1) := by decide +kernel
theorem dX12_work_20 : decode cX12_work 20 = .ok (.istore_n 2, 1) := by decide +kernel
theorem dX12_work_21 : decode cX12_work 21 = .ok (.iconst 0, 1) := by decide +kernel
theorem dX12_work_22 : decode cX12_work 22 = .ok (.istore_n 3, 1) := by decide +kernel
theorem dX12_work_23 : decode cX12_work 23 = .ok (.iload_n 3, 1) := by decide +kernel
theorem dX12_work_24 : decode cX12_work 24 = .ok (.aload_n 0, 1) := by decide +kernel
theorem dX12_work_25 : decode cX12_work 25 = .ok (.getfield 47, 3) := by decide +kernel
theorem dX12_work_28 : decode cX12_work 28 = .ok (.iload_n 1, 1) := by decide +kernel
theorem dX12_work_29 : decode cX12_work 29 = .ok (.iaload, 1) := by decide +kernel
theorem dX12_work_30 : decode cX12_work 30 = .ok (.if_icmp .ge 18, 3) := by decide +kernel
theorem dX12_work_33 : decode cX12_work 33 = .ok (.iload_n 2, 1) := by decide +kernel
theorem dX12_work_34 : decode cX12_work 34 = .ok (.aload_n 0, 1) := by decide +kernel
theorem dX12_work_35 : decode cX12_work 35 = .ok (.iload_n 1, 1) := by decide +kernel
theorem dX12_work_36 : decode cX12_work 36 = .ok (.iload_n 3, 1) := by decide +kernel
theorem dX12_work_37 : decode cX12_work 37 = .ok (.invokevirtual 316, 3) := by decide +kernel
theorem dX12_work_40 : decode cX12_work 40 = .ok (.iadd, 1) := by decide +kernel
theorem dX12_work_41 : decode cX12_work 41 = .ok (.istore_n 2, 1) := by decide +kernel
theorem dX12_work_42 : decode cX12_work 42 = .ok (.iinc 3 1, 3) := by decide +kernel
theorem dX12_work_45 : decode cX12_work 45 = .ok (.goto (-22), 3) := by decide +kernel
theorem dX12_work_48 : decode cX12_work 48 = .ok (.iload_n 2, 1) := by decide +kernel
theorem dX12_work_49 : decode cX12_work 49 = .ok (.ireturn, 1) := by decide +kernel
theorem dX12_mates_0 : decode cX12_mates 0 = .ok (.aload_n 0, 1) := by decide +kernel
theorem dX12_mates_1 : decode cX12_mates 1 = .ok (.iconst 0, 1) := by decide +kernel
theorem dX12_mates_2 : decode cX12_mates 2 = .ok (.putfield 152, 3) := by decide +kernel
theorem dX12_mates_5 : decode cX12_mates 5 = .ok (.aload_n 0, 1) := by decide +kernel
theorem dX12_mates_6 : decode cX12_mates 6 = .ok (.iload_n 1, 1) := by decide +kernel
theorem dX12_mates_7 : decode cX12_mates 7 = .ok (.invokevirtual 375, 3) := by decide +kernel
theorem dX12_mates_10 : decode cX12_mates 10 = .ok (.ifCond .ne 9, 3) := by decide +kernel
theorem dX12_mates_13 : decode cX12_mates 13 = .ok (.aload_n 0, 1) := by decide +kernel
theorem dX12_mates_14 : decode cX12_mates 14 = .ok (.iconst 1, 1) := by decide +kernel
theorem dX12_mates_15 : decode cX12_mates 15 = .ok (.invokevirtual 283, 3) := by decide +kernel
theorem dX12_mates_18 : decode cX12_mates 18 = .ok (.ireturn, 1) := by decide +kernel
theorem dX12_mates_19 : decode cX12_mates 19 = .ok (.iconst 0, 1) := by decide +kernel
theorem dX12_mates_20 : decode cX12_mates 20 = .ok (.istore_n 2, 1) := by decide +kernel
theorem dX12_mates_21 : decode cX12_mates 21 = .ok (.iconst 0, 1) := by decide +kernel
theorem dX12_mates_22 : decode cX12_mates 22 = .ok (.istore_n 3, 1) := by decide +kernel
theorem dX12_mates_23 : decode cX12_mates 23 = .ok (.iload_n 3, 1) := by decide +kernel
theorem dX12_mates_24 : decode cX12_mates 24 = .ok (.aload_n 0, 1) := by decide +kernel
theorem dX12_mates_25 : decode cX12_mates 25 = .ok (.getfield 41, 3) := by decide +kernel
theorem dX12_mates_28 : decode cX12_mates 28 = .ok (.iconst 1, 1) := by decide +kernel
theorem dX12_mates_29 : decode cX12_mates 29 = .ok (.iaload, 1) := by decide +kernel
theorem dX12_mates_30 : decode cX12_mates 30 = .ok (.if_icmp .ge 39, 3) := by decide +kernel
theorem dX12_mates_33 : decode cX12_mates 33 = .ok (.iload_n 2, 1) := by decide +kernel
theorem dX12_mates_34 : decode cX12_mates 34 = .ok (.iload_n 3, 1) := by decide +kernel
theorem dX12_mates_35 : decode cX12_mates 35 = .ok (.iload_n 1, 1) := by decide +kernel
theorem dX12_mates_36 : decode cX12_mates 36 = .ok (.if_icmp .eq 24, 3) := by decide +kernel
theorem dX12_mates_39 : decode cX12_mates 39 = .ok (.aload_n 0, 1) := by decide +kernel
theorem dX12_mates_40 : decode cX12_mates 40 = .ok (.getfield 82, 3) := by decide +kernel
theorem dX12_mates_43 : decode cX12_mates 43 = .ok (.iload_n 3, 1) := by decide +kernel
theorem dX12_mates_44 : decode cX12_mates 44 = .ok (.iaload, 1) := by decide +kernel
theorem dX12_mates_45 : decode cX12_mates 45 = .ok (.aload_n 0, 1) := by decide +kernel
theorem dX12_mates_46 : decode cX12_mates 46 = .ok (.getfield 82, 3) := by decide +kernel
theorem dX12_mates_49 : decode cX12_mates 49 = .ok (.iload_n 1, 1) := by decide +kernel
theorem dX12_mates_50 : decode cX12_mates 50 = .ok (.iaload, 1) := by decide +kernel
theorem dX12_mates_51 : decode cX12_mates 51 = .ok (.if_icmp .ne 9, 3) := by decide +kernel
theorem dX12_mates_54 : decode cX12_mates 54 = .ok (.iconst 1, 1) := by decide +kernel
theorem dX12_mates_55 : decode cX12_mates 55 = .ok (.iload_n 3, 1) := by decide +kernel
theorem dX12_mates_56 : decode cX12_mates 56 = .ok (.ishl, 1) := by decide +kernel
theorem dX12_mates_57 : decode cX12_mates 57 = .ok (.goto 4, 3) := by decide +kernel
theorem dX12_mates_60 : decode cX12_mates 60 = .ok (.iconst 0, 1) := by decide +kernel
theorem dX12_mates_61 : decode cX12_mates 61 = .ok (.ior, 1) := by decide +kernel
theorem dX12_mates_62 : decode cX12_mates 62 = .ok (.istore_n 2, 1) := by decide +kernel
theorem dX12_mates_63 : decode cX12_mates 63 = .ok (.iinc 3 1, 3) := by decide +kernel
theorem dX12_mates_66 : decode cX12_mates 66 = .ok (.goto (-43), 3) := by decide +kernel
theorem dX12_mates_69 : decode cX12_mates 69 = .ok (.iload_n 2, 1) := by decide +kernel
theorem dX12_mates_70 : decode cX12_mates 70 = .ok (.ireturn, 1) := by decide +kernel
theorem dX12_see_0 : decode cX12_see 0 = .ok (.aload_n 0, 1) := by decide +kernel
theorem dX12_see_1 : decode cX12_see 1 = .ok (.iconst 0, 1) := by decide +kernel
theorem dX12_see_2 : decode cX12_see 2 = .ok (.putfield 152, 3) := by decide +kernel
theorem dX12_see_5 : decode cX12_see 5 = .ok (.aload_n 0, 1) := by decide +kernel
theorem dX12_see_6 : decode cX12_see 6 = .ok (.iload_n 1, 1) := by decide +kernel
theorem dX12_see_7 : decode cX12_see 7 = .ok (.invokevirtual 375, 3) := by decide +kernel
theorem dX12_see_10 : decode cX12_see 10 = .ok (.ifCond .ne 9, 3) := by decide +kernel
theorem dX12_see_13 : decode cX12_see 13 = .ok (.aload_n 0, 1) := by decide +kernel
theorem dX12_see_14 : decode cX12_see 14 = .ok (.iconst 1, 1) := by decide +kernel
theorem dX12_see_15 : decode cX12_see 15 = .ok (.invokevirtual 283, 3) := by decide +kernel
theorem dX12_see_18 : decode cX12_see 18 = .ok (.ireturn, 1) := by decide +kernel
theorem dX12_see_19 : decode cX12_see 19 = .ok (.aload_n 0, 1) := by decide +kernel
theorem dX12_see_20 : decode cX12_see 20 = .ok (.getfield 302, 3) := by decide +kernel
theorem dX12_see_23 : decode cX12_see 23 = .ok (.bipush 8, 2) := by decide +kernel
theorem dX12_see_25 : decode cX12_see 25 = .ok (.if_icmp .eq 27, 3) := by decide +kernel
theorem dX12_see_28 : decode cX12_see 28 = .ok (.iload_n 3, 1) := by decide +kernel
theorem dX12_see_29 : decode cX12_see 29 = .ok (.i2l, 1) := by decide +kernel
theorem dX12_see_30 : decode cX12_see 30 = .ok (.lconst 0, 1) := by decide +kernel
theorem dX12_see_31 : decode cX12_see 31 = .ok (.ldc2_w 431, 3) := by decide +kernel
theorem dX12_see_34 : decode cX12_see 34 = .ok (.invokestatic 155, 3) := by decide +kernel
theorem dX12_see_37 : decode cX12_see 37 = .ok (.ifCond .eq 15, 3) := by decide +kernel
theorem dX12_see_40 : decode cX12_see 40 = .ok (.iload_n 2, 1) := by decide +kernel
theorem dX12_see_41 : decode cX12_see 41 = .ok (.i2l, 1) := by decide +kernel
theorem dX12_see_42 : decode cX12_see 42 = .ok (.lconst 1, 1) := by decide +kernel
theorem dX12_see_43 : decode cX12_see 43 = .ok (.ldc2_w 382, 3) := by decide +kernel
theorem dX12_see_46 : decode cX12_see 46 = .ok (.invokestatic 155, 3) := by decide +kernel
theorem dX12_see_49 : decode cX12_see 49 = .ok (.ifCond .ne 9, 3) := by decide +kernel
theorem dX12_see_52 : decode cX12_see 52 = .ok (.aload_n 0, 1) := by decide +kernel
theorem dX12_see_53 : decode cX12_see 53 = .ok (.iconst 2, 1) := by decide +kernel
theorem dX12_see_54 : decode cX12_see 54 = .ok (.invokevirtual 384, 3) := by decide +kernel
theorem dX12_see_57 : decode cX12_see 57 = .ok (.ireturn, 1) := by decide +kernel
theorem dX12_see_58 : decode cX12_see 58 = .ok (.aload_n 0, 1) := by decide +kernel
theorem dX12_see_59 : decode cX12_see 59 = .ok (.getfield 110, 3) := by decide +kernel
theorem dX12_see_62 : decode cX12_see 62 = .ok (.aload_n 0, 1) := by decide +kernel
theorem dX12_see_63 : decode cX12_see 63 = .ok (.getfield 302, 3) := by decide +kernel
theorem dX12_see_66 : decode cX12_see 66 = .ok (.iload_n 1, 1) := by decide +kernel
theorem dX12_see_67 : decode cX12_see 67 = .ok (.iastore, 1) := by decide +kernel
theorem dX12_see_68 : decode cX12_see 68 = .ok (.aload_n 0, 1) := by decide +kernel
theorem dX12_see_69 : decode cX12_see 69 = .ok (.getfield 113, 3) := by decide +kernel
theorem dX12_see_72 : decode cX12_see 72 = .ok (.aload_n 0, 1) := by decide +kernel
theorem dX12_see_73 : decode cX12_see 73 = .ok (.getfield 302, 3) := by decide +kernel
theorem dX12_see_76 : decode cX12_see 76 = .ok (.iload_n 2, 1) := by decide +kernel
theorem dX12_see_77 : decode cX12_see 77 = .ok (.iastore, 1) := by decide +kernel
theorem dX12_see_78 : decode cX12_see 78 = .ok (.aload_n 0, 1) := by decide +kernel
theorem dX12_see_79 : decode cX12_see 79 = .ok (.getfield 116, 3) := by decide +kernel
theorem dX12_see_82 : decode cX12_see 82 = .ok (.aload_n 0, 1) := by decide +kernel
theorem dX12_see_83 : decode cX12_see 83 = .ok (.getfield 302, 3) := by decide +kernel
theorem dX12_see_86 : decode cX12_see 86 = .ok (.iload_n 3, 1) := by decide +kernel
theorem dX12_see_87 : decode cX12_see 87 = .ok (.iastore, 1) := by decide +kernel
theorem dX12_see_88 : decode cX12_see 88 = .ok (.aload_n 0, 1) := by decide +kernel
theorem dX12_see_89 : decode cX12_see 89 = .ok (.dup, 1) := by decide +kernel
theorem dX12_see_90 : decode cX12_see 90 = .ok (.getfield 302, 3) := by decide +kernel
theorem dX12_see_93 : decode cX12_see 93 = .ok (.iconst 1, 1) := by decide +kernel
theorem dX12_see_94 : decode cX12_see 94 = .ok (.iadd, 1) := by decide +kernel
theorem dX12_see_95 : decode cX12_see 95 = .ok (.putfield 302, 3) := by decide +kernel
theorem dX12_see_98 : decode cX12_see 98 = .ok (.aload_n 0, 1) := by decide +kernel
theorem dX12_see_99 : decode cX12_see 99 = .ok (.getfield 302, 3) := by decide +kernel
theorem dX12_see_102 : decode cX12_see 102 = .ok (.ireturn, 1) := by decide +kernel
theorem dX12_isAsSeen_0 : decode cX12_isAsSeen 0 = .ok (.aload_n 0, 1) := by decide +kernel
theorem dX12_isAsSeen_1 : decode cX12_isAsSeen 1 = .ok (.aload_n 0, 1) := by decide +kernel
theorem dX12_isAsSeen_2 : decode cX12_isAsSeen 2 = .ok (.getfield 119, 3) := by decide +kernel
theorem dX12_isAsSeen_5 : decode cX12_isAsSeen 5 = .ok (.iconst 0, 1) := by decide +kernel
theorem dX12_isAsSeen_6 : decode cX12_isAsSeen 6 = .ok (.invokevirtual 378, 3) := by decide +kernel
theorem dX12_isAsSeen_9 : decode cX12_isAsSeen 9 = .ok (.iconst 1, 1) := by decide +kernel
theorem dX12_isAsSeen_10 : decode cX12_isAsSeen 10 = .ok (.istore_n 1, 1) := by decide +kernel
theorem dX12_isAsSeen_11 : decode cX12_isAsSeen 11 = .ok (.iconst 1, 1) := by decide +kernel
theorem dX12_isAsSeen_12 : decode cX12_isAsSeen 12 = .ok (.istore_n 2, 1) := by decide +kernel
theorem dX12_isAsSeen_13 : decode cX12_isAsSeen 13 = .ok (.iload_n 2, 1) := by decide +kernel
theorem dX12_isAsSeen_14 : decode cX12_isAsSeen 14 = .ok (.bipush 20, 2) := by decide +kernel
theorem dX12_isAsSeen_16 : decode cX12_isAsSeen 16 = .ok (.if_icmp .gt 73, 3) := by decide +kernel
theorem dX12_isAsSeen_19 : decode cX12_isAsSeen 19 = .ok (.iload_n 1, 1) := by decide +kernel
theorem dX12_isAsSeen_20 : decode cX12_isAsSeen 20 = .ok (.ifCond .eq 69, 3) := by decide +kernel
theorem dX12_isAsSeen_23 : decode cX12_isAsSeen 23 = .ok (.aload_n 0, 1) := by decide +kernel
theorem dX12_isAsSeen_24 : decode cX12_isAsSeen 24 = .ok (.invokevirtual 346, 3) := by decide +kernel
theorem dX12_isAsSeen_27 : decode cX12_isAsSeen 27 = .ok (.iconst 0, 1) := by decide +kernel
theorem dX12_isAsSeen_28 : decode cX12_isAsSeen 28 = .ok (.istore_n 3, 1) := by decide +kernel
theorem dX12_isAsSeen_29 : decode cX12_isAsSeen 29 = .ok (.iload_n 3, 1) := by decide +kernel
theorem dX12_isAsSeen_30 : decode cX12_isAsSeen 30 = .ok (.aload_n 0, 1) := by decide +kernel
theorem dX12_isAsSeen_31 : decode cX12_isAsSeen 31 = .ok (.getfield 302, 3) := by decide +kernel
theorem dX12_isAsSeen_34 : decode cX12_isAsSeen 34 = .ok (.if_icmp .ge 49, 3) := by decide +kernel
theorem dX12_isAsSeen_37 : decode cX12_isAsSeen 37 = .ok (.iload_n 1, 1) := by decide +kernel
theorem dX12_isAsSeen_38 : decode cX12_isAsSeen 38 = .ok (.ifCond .eq 37, 3) := by decide +kernel
theorem dX12_isAsSeen_41 : decode cX12_isAsSeen 41 = .ok (.aload_n 0, 1) := by decide +kernel
theorem dX12_isAsSeen_42 : decode cX12_isAsSeen 42 = .ok (.getfield 113, 3) := by decide +kernel
theorem dX12_isAsSeen_45 : decode cX12_isAsSeen 45 = .ok (.iload_n 3, 1) := by decide +kernel
theorem dX12_isAsSeen_46 : decode cX12_isAsSeen 46 = .ok (.iaload, 1) := by decide +kernel
theorem dX12_isAsSeen_47 : decode cX12_isAsSeen 47 = .ok (.iload_n 2, 1) := by decide +kernel
theorem dX12_isAsSeen_48 : decode cX12_isAsSeen 48 = .ok (.if_icmp .ne 23, 3) := by decide +kernel
theorem dX12_isAsSeen_51 : decode cX12_isAsSeen 51 = .ok (.aload_n 0, 1) := by decide +kernel
theorem dX12_isAsSeen_52 : decode cX12_isAsSeen 52 = .ok (.getfield 85, 3) := by decide +kernel
theorem dX12_isAsSeen_55 : decode cX12_isAsSeen 55 = .ok (.aload_n 0, 1) := by decide +kernel
theorem dX12_isAsSeen_56 : decode cX12_isAsSeen 56 = .ok (.getfield 110, 3) := by decide +kernel
theorem dX12_isAsSeen_59 : decode cX12_isAsSeen 59 = .ok (.iload_n 3, 1) := by decide +kernel
theorem dX12_isAsSeen_60 : decode cX12_isAsSeen 60 = .ok (.iaload, 1) := by decide +kernel
theorem dX12_isAsSeen_61 : decode cX12_isAsSeen 61 = .ok (.iaload, 1) := by decide +kernel
theorem dX12_isAsSeen_62 : decode cX12_isAsSeen 62 = .ok (.aload_n 0, 1) := by decide +kernel
theorem dX12_isAsSeen_63 : decode cX12_isAsSeen 63 = .ok (.getfield 116, 3) := by decide +kernel
theorem dX12_isAsSeen_66 : decode cX12_isAsSeen 66 = .ok (.iload_n 3, 1) := by decide +kernel
theorem dX12_isAsSeen_67 : decode cX12_isAsSeen 67 = .ok (.iaload, 1) := by decide +kernel
theorem dX12_isAsSeen_68 : decode cX12_isAsSeen 68 = .ok (.if_icmp .ne 7, 3) := by decide +kernel
theorem dX12_isAsSeen_71 : decode cX12_isAsSeen 71 = .ok (.iconst 1, 1) := by decide +kernel
theorem dX12_isAsSeen_72 : decode cX12_isAsSeen 72 = .ok (.goto 4, 3) := by decide +kernel
theorem dX12_isAsSeen_75 : decode cX12_isAsSeen 75 = .ok (.iconst 0, 1) := by decide +kernel
theorem dX12_isAsSeen_76 : decode cX12_isAsSeen 76 = .ok (.istore_n 1, 1) := by decide +kernel
theorem dX12_isAsSeen_77 : decode cX12_isAsSeen 77 = .ok (.iinc 3 1, 3) := by decide +kernel
theorem dX12_isAsSeen_80 : decode cX12_isAsSeen 80 = .ok (.goto (-51), 3) := by decide +kernel
theorem dX12_isAsSeen_83 : decode cX12_isAsSeen 83 = .ok (.iinc 2 1, 3) := by decide +kernel
theorem dX12_isAsSeen_86 : decode cX12_isAsSeen 86 = .ok (.goto (-73), 3) := by decide +kernel
theorem dX12_isAsSeen_89 : decode cX12_isAsSeen 89 = .ok (.aload_n 0, 1) := by decide +kernel
theorem dX12_isAsSeen_90 : decode cX12_isAsSeen 90 = .ok (.aload_n 0, 1) := by decide +kernel
theorem dX12_isAsSeen_91 : decode cX12_isAsSeen 91 = .ok (.getfield 119, 3) := by decide +kernel
theorem dX12_isAsSeen_94 : decode cX12_isAsSeen 94 = .ok (.iconst 0, 1) := by decide +kernel
theorem dX12_isAsSeen_95 : decode cX12_isAsSeen 95 = .ok (.invokevirtual 400, 3) := by decide +kernel
theorem dX12_isAsSeen_98 : decode cX12_isAsSeen 98 = .ok (.iload_n 1, 1) := by decide +kernel
theorem dX12_isAsSeen_99 : decode cX12_isAsSeen 99 = .ok (.ireturn, 1) := by decide +kernel
theorem dX12_tellFits_0 : decode cX12_tellFits 0 = .ok (.aload_n 0, 1) := by decide +kernel
theorem dX12_tellFits_1 : decode cX12_tellFits 1 = .ok (.iconst 0, 1) := by decide +kernel
theorem dX12_tellFits_2 : decode cX12_tellFits 2 = .ok (.putfield 433, 3) := by decide +kernel
theorem dX12_tellFits_5 : decode cX12_tellFits 5 = .ok (.iconst 0, 1) := by decide +kernel
theorem dX12_tellFits_6 : decode cX12_tellFits 6 = .ok (.istore_n 1, 1) := by decide +kernel
theorem dX12_tellFits_7 : decode cX12_tellFits 7 = .ok (.iload_n 1, 1) := by decide +kernel
theorem dX12_tellFits_8 : decode cX12_tellFits 8 = .ok (.aload_n 0, 1) := by decide +kernel
theorem dX12_tellFits_9 : decode cX12_tellFits 9 = .ok (.getfield 41, 3) := by decide +kernel
theorem dX12_tellFits_12 : decode cX12_tellFits 12 = .ok (.iconst 1, 1) := by decide +kernel
theorem dX12_tellFits_13 : decode cX12_tellFits 13 = .ok (.iaload, 1) := by decide +kernel
theorem dX12_tellFits_14 : decode cX12_tellFits 14 = .ok (.if_icmp .ge 95, 3) := by decide +kernel
theorem dX12_tellFits_17 : decode cX12_tellFits 17 = .ok (.aload_n 0, 1) := by decide +kernel
theorem dX12_tellFits_18 : decode cX12_tellFits 18 = .ok (.getfield 87, 3) := by decide +kernel
theorem dX12_tellFits_21 : decode cX12_tellFits 21 = .ok (.iload_n 1, 1) := by decide +kernel
theorem dX12_tellFits_22 : decode cX12_tellFits 22 = .ok (.iaload, 1) := by decide +kernel
theorem dX12_tellFits_23 : decode cX12_tellFits 23 = .ok (.istore_n 2, 1) := by decide +kernel
theorem dX12_tellFits_24 : decode cX12_tellFits 24 = .ok (.iconst 1, 1) := by decide +kernel
theorem dX12_tellFits_25 : decode cX12_tellFits 25 = .ok (.istore_n 3, 1) := by decide +kernel
theorem dX12_tellFits_26 : decode cX12_tellFits 26 = .ok (.iload_n 3, 1) := by decide +kernel
theorem dX12_tellFits_27 : decode cX12_tellFits 27 = .ok (.bipush 20, 2) := by decide +kernel
theorem dX12_tellFits_29 : decode cX12_tellFits 29 = .ok (.if_icmp .gt 74, 3) := by decide +kernel
theorem dX12_tellFits_32 : decode cX12_tellFits 32 = .ok (.iload_n 2, 1) := by decide +kernel
theorem dX12_tellFits_33 : decode cX12_tellFits 33 = .ok (.iload_n 3, 1) := by decide +kernel
theorem dX12_tellFits_34 : decode cX12_tellFits 34 = .ok (.iconst 1, 1) := by decide +kernel
theorem dX12_tellFits_35 : decode cX12_tellFits 35 = .ok (.isub, 1) := by decide +kernel
theorem dX12_tellFits_36 : decode cX12_tellFits 36 = .ok (.invokestatic 337, 3) := by decide +kernel
theorem dX12_tellFits_39 : decode cX12_tellFits 39 = .ok (.ifCond .eq 6, 3) := by decide +kernel
theorem dX12_tellFits_42 : decode cX12_tellFits 42 = .ok (.goto 55, 3) := by decide +kernel
theorem dX12_tellFits_45 : decode cX12_tellFits 45 = .ok (.aload_n 0, 1) := by decide +kernel
theorem dX12_tellFits_46 : decode cX12_tellFits 46 = .ok (.getfield 87, 3) := by decide +kernel
theorem dX12_tellFits_49 : decode cX12_tellFits 49 = .ok (.iload_n 1, 1) := by decide +kernel
theorem dX12_tellFits_50 : decode cX12_tellFits 50 = .ok (.iload_n 2, 1) := by decide +kernel
theorem dX12_tellFits_51 : decode cX12_tellFits 51 = .ok (.iconst 1, 1) := by decide +kernel
theorem dX12_tellFits_52 : decode cX12_tellFits 52 = .ok (.iload_n 3, 1) := by decide +kernel
theorem dX12_tellFits_53 : decode cX12_tellFits 53 = .ok (.iconst 1, 1) := by decide +kernel
theorem dX12_tellFits_54 : decode cX12_tellFits 54 = .ok (.isub, 1) := by decide +kernel
theorem dX12_tellFits_55 : decode cX12_tellFits 55 = .ok (.ishl, 1) := by decide +kernel
theorem dX12_tellFits_56 : decode cX12_tellFits 56 = .ok (.ior, 1) := by decide +kernel
theorem dX12_tellFits_57 : decode cX12_tellFits 57 = .ok (.iastore, 1) := by decide +kernel
theorem dX12_tellFits_58 : decode cX12_tellFits 58 = .ok (.aload_n 0, 1) := by decide +kernel
theorem dX12_tellFits_59 : decode cX12_tellFits 59 = .ok (.invokevirtual 436, 3) := by decide +kernel
theorem dX12_tellFits_62 : decode cX12_tellFits 62 = .ok (.ifCond .eq 28, 3) := by decide +kernel
theorem dX12_tellFits_65 : decode cX12_tellFits 65 = .ok (.aload_n 0, 1) := by decide +kernel
theorem dX12_tellFits_66 : decode cX12_tellFits 66 = .ok (.getfield 122, 3) := by decide +kernel
theorem dX12_tellFits_69 : decode cX12_tellFits 69 = .ok (.aload_n 0, 1) := by decide +kernel
theorem dX12_tellFits_70 : decode cX12_tellFits 70 = .ok (.getfield 433, 3) := by decide +kernel
theorem dX12_tellFits_73 : decode cX12_tellFits 73 = .ok (.bipush 100, 2) := by decide +kernel
theorem dX12_tellFits_75 : decode cX12_tellFits 75 = .ok (.iload_n 1, 1) := by decide +kernel
theorem dX12_tellFits_76 : decode cX12_tellFits 76 = .ok (.imul, 1) := by decide +kernel
theorem dX12_tellFits_77 : decode cX12_tellFits 77 = .ok (.iload_n 3, 1) := by decide +kernel
theorem dX12_tellFits_78 : decode cX12_tellFits 78 = .ok (.iadd, 1) := by decide +kernel
theorem dX12_tellFits_79 : decode cX12_tellFits 79 = .ok (.iastore, 1) := by decide +kernel
theorem dX12_tellFits_80 : decode cX12_tellFits 80 = .ok (.aload_n 0, 1) := by decide +kernel
theorem dX12_tellFits_81 : decode cX12_tellFits 81 = .ok (.dup, 1) := by decide +kernel
theorem dX12_tellFits_82 : decode cX12_tellFits 82 = .ok (.getfield 433, 3) := by decide +kernel
theorem dX12_tellFits_85 : decode cX12_tellFits 85 = .ok (.iconst 1, 1) := by decide +kernel
theorem dX12_tellFits_86 : decode cX12_tellFits 86 = .ok (.iadd, 1) := by decide +kernel
theorem dX12_tellFits_87 : decode cX12_tellFits 87 = .ok (.putfield 433, 3) := by decide +kernel
theorem dX12_tellFits_90 : decode cX12_tellFits 90 = .ok (.aload_n 0, 1) := by decide +kernel
theorem dX12_tellFits_91 : decode cX12_tellFits 91 = .ok (.getfield 87, 3) := by decide +kernel
theorem dX12_tellFits_94 : decode cX12_tellFits 94 = .ok (.iload_n 1, 1) := by decide +kernel
theorem dX12_tellFits_95 : decode cX12_tellFits 95 = .ok (.iload_n 2, 1) := by decide +kernel
theorem dX12_tellFits_96 : decode cX12_tellFits 96 = .ok (.iastore, 1) := by decide +kernel
theorem dX12_tellFits_97 : decode cX12_tellFits 97 = .ok (.iinc 3 1, 3) := by decide +kernel
theorem dX12_tellFits_100 : decode cX12_tellFits 100 = .ok (.goto (-74), 3) := by decide +kernel
theorem dX12_tellFits_103 : decode cX12_tellFits 103 = .ok (.iinc 1 1, 3) := by decide +kernel
theorem dX12_tellFits_106 : decode cX12_tellFits 106 = .ok (.goto (-99), 3) := by decide +kernel
theorem dX12_tellFits_109 : decode cX12_tellFits 109 = .ok (.return_, 1) := by decide +kernel
theorem dX12_been_0 : decode cX12_been 0 = .ok (.aload_n 0, 1) := by decide +kernel
theorem dX12_been_1 : decode cX12_been 1 = .ok (.iconst 0, 1) := by decide +kernel
theorem dX12_been_2 : decode cX12_been 2 = .ok (.putfield 152, 3) := by decide +kernel
theorem dX12_been_5 : decode cX12_been 5 = .ok (.iload_n 1, 1) := by decide +kernel
theorem dX12_been_6 : decode cX12_been 6 = .ok (.i2l, 1) := by decide +kernel
theorem dX12_been_7 : decode cX12_been 7 = .ok (.lconst 0, 1) := by decide +kernel
theorem dX12_been_8 : decode cX12_been 8 = .ok (.ldc2_w 370, 3) := by decide +kernel
theorem dX12_been_11 : decode cX12_been 11 = .ok (.invokestatic 155, 3) := by decide +kernel
theorem dX12_been_14 : decode cX12_been 14 = .ok (.ifCond .ne 9, 3) := by decide +kernel
theorem dX12_been_17 : decode cX12_been 17 = .ok (.aload_n 0, 1) := by decide +kernel
theorem dX12_been_18 : decode cX12_been 18 = .ok (.iconst 1, 1) := by decide +kernel
theorem dX12_been_19 : decode cX12_been 19 = .ok (.invokevirtual 283, 3) := by decide +kernel
theorem dX12_been_22 : decode cX12_been 22 = .ok (.ireturn, 1) := by decide +kernel
theorem dX12_been_23 : decode cX12_been 23 = .ok (.iload_n 1, 1) := by decide +kernel
theorem dX12_been_24 : decode cX12_been 24 = .ok (.iconst 2, 1) := by decide +kernel
theorem dX12_been_25 : decode cX12_been 25 = .ok (.if_icmp .ne 16, 3) := by decide +kernel
theorem dX12_been_28 : decode cX12_been 28 = .ok (.aload_n 0, 1) := by decide +kernel
theorem dX12_been_29 : decode cX12_been 29 = .ok (.invokevirtual 436, 3) := by decide +kernel
theorem dX12_been_32 : decode cX12_been 32 = .ok (.ifCond .eq 7, 3) := by decide +kernel
theorem dX12_been_35 : decode cX12_been 35 = .ok (.iconst 1, 1) := by decide +kernel
theorem dX12_been_36 : decode cX12_been 36 = .ok (.goto 4, 3) := by decide +kernel
theorem dX12_been_39 : decode cX12_been 39 = .ok (.iconst 0, 1) := by decide +kernel
theorem dX12_been_40 : decode cX12_been 40 = .ok (.ireturn, 1) := by decide +kernel
theorem dX12_been_41 : decode cX12_been 41 = .ok (.aload_n 0, 1) := by decide +kernel
theorem dX12_been_42 : decode cX12_been 42 = .ok (.invokevirtual 440, 3) := by decide +kernel
theorem dX12_been_45 : decode cX12_been 45 = .ok (.iload_n 1, 1) := by decide +kernel
theorem dX12_been_46 : decode cX12_been 46 = .ok (.ifCond .ne 10, 3) := by decide +kernel
theorem dX12_been_49 : decode cX12_been 49 = .ok (.aload_n 0, 1) := by decide +kernel
theorem dX12_been_50 : decode cX12_been 50 = .ok (.getfield 433, 3) := by decide +kernel
theorem dX12_been_53 : decode cX12_been 53 = .ok (.goto 20, 3) := by decide +kernel
theorem dX12_been_56 : decode cX12_been 56 = .ok (.aload_n 0, 1) := by decide +kernel
theorem dX12_been_57 : decode cX12_been 57 = .ok (.getfield 433, 3) := by decide +kernel
theorem dX12_been_60 : decode cX12_been 60 = .ok (.ifCond .ne 7, 3) := by decide +kernel
theorem dX12_been_63 : decode cX12_been 63 = .ok (.iconst (-1), 1) := by decide +kernel
theorem dX12_been_64 : decode cX12_been 64 = .ok (.goto 9, 3) := by decide +kernel
theorem dX12_been_67 : decode cX12_been 67 = .ok (.aload_n 0, 1) := by decide +kernel
theorem dX12_been_68 : decode cX12_been 68 = .ok (.getfield 122, 3) := by decide +kernel
theorem dX12_been_71 : decode cX12_been 71 = .ok (.iconst 0, 1) := by decide +kernel
theorem dX12_been_72 : decode cX12_been 72 = .ok (.iaload, 1) := by decide +kernel
theorem dX12_been_73 : decode cX12_been 73 = .ok (.ireturn, 1) := by decide +kernel
theorem dX12_unlike_0 : decode cX12_unlike 0 = .ok (.iconst 0, 1) := by decide +kernel
theorem dX12_unlike_1 : decode cX12_unlike 1 = .ok (.istore_n 2, 1) := by decide +kernel
theorem dX12_unlike_2 : decode cX12_unlike 2 = .ok (.iconst 0, 1) := by decide +kernel
theorem dX12_unlike_3 : decode cX12_unlike 3 = .ok (.istore_n 3, 1) := by decide +kernel
theorem dX12_unlike_4 : decode cX12_unlike 4 = .ok (.iload_n 3, 1) := by decide +kernel
theorem dX12_unlike_5 : decode cX12_unlike 5 = .ok (.aload_n 0, 1) := by decide +kernel
theorem dX12_unlike_6 : decode cX12_unlike 6 = .ok (.getfield 433, 3) := by decide +kernel
theorem dX12_unlike_9 : decode cX12_unlike 9 = .ok (.if_icmp .ge 78, 3) := by decide +kernel
theorem dX12_unlike_12 : decode cX12_unlike 12 = .ok (.iconst 1, 1) := by decide +kernel
theorem dX12_unlike_13 : decode cX12_unlike 13 = .ok (.istore 4, 2) := by decide +kernel
theorem dX12_unlike_15 : decode cX12_unlike 15 = .ok (.iconst 0, 1) := by decide +kernel
theorem dX12_unlike_16 : decode cX12_unlike 16 = .ok (.istore 5, 2) := by decide +kernel
theorem dX12_unlike_18 : decode cX12_unlike 18 = .ok (.iload 5, 2) := by decide +kernel
theorem dX12_unlike_20 : decode cX12_unlike 20 = .ok (.iload_n 3, 1) := by decide +kernel
theorem dX12_unlike_21 : decode cX12_unlike 21 = .ok (.if_icmp .ge 47, 3) := by decide +kernel
theorem dX12_unlike_24 : decode cX12_unlike 24 = .ok (.iload 4, 2) := by decide +kernel
theorem dX12_unlike_26 : decode cX12_unlike 26 = .ok (.ifCond .eq 42, 3) := by decide +kernel
theorem dX12_unlike_29 : decode cX12_unlike 29 = .ok (.aload_n 0, 1) := by decide +kernel
theorem dX12_unlike_30 : decode cX12_unlike 30 = .ok (.getfield 125, 3) := by decide +kernel
theorem dX12_unlike_33 : decode cX12_unlike 33 = .ok (.bipush 7, 2) := by decide +kernel
theorem dX12_unlike_35 : decode cX12_unlike 35 = .ok (.iload 5, 2) := by decide +kernel
theorem dX12_unlike_37 : decode cX12_unlike 37 = .ok (.imul, 1) := by decide +kernel
theorem dX12_unlike_38 : decode cX12_unlike 38 = .ok (.iload_n 1, 1) := by decide +kernel
theorem dX12_unlike_39 : decode cX12_unlike 39 = .ok (.iadd, 1) := by decide +kernel
theorem dX12_unlike_40 : decode cX12_unlike 40 = .ok (.iaload, 1) := by decide +kernel
theorem dX12_unlike_41 : decode cX12_unlike 41 = .ok (.aload_n 0, 1) := by decide +kernel
theorem dX12_unlike_42 : decode cX12_unlike 42 = .ok (.getfield 125, 3) := by decide +kernel
theorem dX12_unlike_45 : decode cX12_unlike 45 = .ok (.bipush 7, 2) := by decide +kernel
theorem dX12_unlike_47 : decode cX12_unlike 47 = .ok (.iload_n 3, 1) := by decide +kernel
theorem dX12_unlike_48 : decode cX12_unlike 48 = .ok (.imul, 1) := by decide +kernel
theorem dX12_unlike_49 : decode cX12_unlike 49 = .ok (.iload_n 1, 1) := by decide +kernel
theorem dX12_unlike_50 : decode cX12_unlike 50 = .ok (.iadd, 1) := by decide +kernel
theorem dX12_unlike_51 : decode cX12_unlike 51 = .ok (.iaload, 1) := by decide +kernel
theorem dX12_unlike_52 : decode cX12_unlike 52 = .ok (.if_icmp .eq 7, 3) := by decide +kernel
theorem dX12_unlike_55 : decode cX12_unlike 55 = .ok (.iconst 1, 1) := by decide +kernel
theorem dX12_unlike_56 : decode cX12_unlike 56 = .ok (.goto 4, 3) := by decide +kernel
theorem dX12_unlike_59 : decode cX12_unlike 59 = .ok (.iconst 0, 1) := by decide +kernel
theorem dX12_unlike_60 : decode cX12_unlike 60 = .ok (.istore 4, 2) := by decide +kernel
theorem dX12_unlike_62 : decode cX12_unlike 62 = .ok (.iinc 5 1, 3) := by decide +kernel
theorem dX12_unlike_65 : decode cX12_unlike 65 = .ok (.goto (-47), 3) := by decide +kernel
theorem dX12_unlike_68 : decode cX12_unlike 68 = .ok (.iload_n 2, 1) := by decide +kernel
theorem dX12_unlike_69 : decode cX12_unlike 69 = .ok (.iload 4, 2) := by decide +kernel
theorem dX12_unlike_71 : decode cX12_unlike 71 = .ok (.ifCond .eq 7, 3) := by decide +kernel
theorem dX12_unlike_74 : decode cX12_unlike 74 = .ok (.iconst 1, 1) := by decide +kernel
theorem dX12_unlike_75 : decode cX12_unlike 75 = .ok (.goto 4, 3) := by decide +kernel
theorem dX12_unlike_78 : decode cX12_unlike 78 = .ok (.iconst 0, 1) := by decide +kernel
theorem dX12_unlike_79 : decode cX12_unlike 79 = .ok (.iadd, 1) := by decide +kernel
theorem dX12_unlike_80 : decode cX12_unlike 80 = .ok (.istore_n 2, 1) := by decide +kernel
theorem dX12_unlike_81 : decode cX12_unlike 81 = .ok (.iinc 3 1, 3) := by decide +kernel
theorem dX12_unlike_84 : decode cX12_unlike 84 = .ok (.goto (-80), 3) := by decide +kernel
theorem dX12_unlike_87 : decode cX12_unlike 87 = .ok (.iload_n 2, 1) := by decide +kernel
theorem dX12_unlike_88 : decode cX12_unlike 88 = .ok (.ireturn, 1) := by decide +kernel
theorem dX12_listen_0 : decode cX12_listen 0 = .ok (.aload_n 0, 1) := by decide +kernel
theorem dX12_listen_1 : decode cX12_listen 1 = .ok (.iconst 0, 1) := by decide +kernel
theorem dX12_listen_2 : decode cX12_listen 2 = .ok (.putfield 152, 3) := by decide +kernel
theorem dX12_listen_5 : decode cX12_listen 5 = .ok (.iload_n 1, 1) := by decide +kernel
theorem dX12_listen_6 : decode cX12_listen 6 = .ok (.ifCond .lt 8, 3) := by decide +kernel
theorem dX12_listen_9 : decode cX12_listen 9 = .ok (.iload_n 1, 1) := by decide +kernel
theorem dX12_listen_10 : decode cX12_listen 10 = .ok (.iconst 1, 1) := by decide +kernel
theorem dX12_listen_11 : decode cX12_listen 11 = .ok (.if_icmp .le 9, 3) := by decide +kernel
theorem dX12_listen_14 : decode cX12_listen 14 = .ok (.aload_n 0, 1) := by decide +kernel
theorem dX12_listen_15 : decode cX12_listen 15 = .ok (.iconst 1, 1) := by decide +kernel
theorem dX12_listen_16 : decode cX12_listen 16 = .ok (.invokevirtual 283, 3) := by decide +kernel
theorem dX12_listen_19 : decode cX12_listen 19 = .ok (.ireturn, 1) := by decide +kernel
theorem dX12_listen_20 : decode cX12_listen 20 = .ok (.aload_n 0, 1) := by decide +kernel
theorem dX12_listen_21 : decode cX12_listen 21 = .ok (.invokevirtual 440, 3) := by decide +kernel
theorem dX12_listen_24 : decode cX12_listen 24 = .ok (.aload_n 0, 1) := by decide +kernel
theorem dX12_listen_25 : decode cX12_listen 25 = .ok (.aload_n 0, 1) := by decide +kernel
theorem dX12_listen_26 : decode cX12_listen 26 = .ok (.getfield 98, 3) := by decide +kernel
theorem dX12_listen_29 : decode cX12_listen 29 = .ok (.iconst 0, 1) := by decide +kernel
theorem dX12_listen_30 : decode cX12_listen 30 = .ok (.invokevirtual 378, 3) := by decide +kernel
theorem dX12_listen_33 : decode cX12_listen 33 = .ok (.iconst 0, 1) := by decide +kernel
theorem dX12_listen_34 : decode cX12_listen 34 = .ok (.istore_n 2, 1) := by decide +kernel
theorem dX12_listen_35 : decode cX12_listen 35 = .ok (.iload_n 2, 1) := by decide +kernel
theorem dX12_listen_36 : decode cX12_listen 36 = .ok (.aload_n 0, 1) := by decide +kernel
theorem dX12_listen_37 : decode cX12_listen 37 = .ok (.getfield 433, 3) := by decide +kernel
theorem dX12_listen_40 : decode cX12_listen 40 = .ok (.if_icmp .ge 85, 3) := by decide +kernel
theorem dX12_listen_43 : decode cX12_listen 43 = .ok (.aload_n 0, 1) := by decide +kernel
theorem dX12_listen_44 : decode cX12_listen 44 = .ok (.getfield 87, 3) := by decide +kernel
theorem dX12_listen_47 : decode cX12_listen 47 = .ok (.aload_n 0, 1) := by decide +kernel
theorem dX12_listen_48 : decode cX12_listen 48 = .ok (.getfield 122, 3) := by decide +kernel
theorem dX12_listen_51 : decode cX12_listen 51 = .ok (.iload_n 2, 1) := by decide +kernel
theorem dX12_listen_52 : decode cX12_listen 52 = .ok (.iaload, 1) := by decide +kernel
theorem dX12_listen_53 : decode cX12_listen 53 = .ok (.bipush 100, 2) := by decide +kernel
theorem dX12_listen_55 : decode cX12_listen 55 = .ok (.idiv, 1) := by decide +kernel
theorem dX12_listen_56 : decode cX12_listen 56 = .ok (.dup2, 1) := by decide +kernel
theorem dX12_listen_57 : decode cX12_listen 57 = .ok (.iaload, 1) := by decide +kernel
theorem dX12_listen_58 : decode cX12_listen 58 = .ok (.iconst 1, 1) := by decide +kernel
theorem dX12_listen_59 : decode cX12_listen 59 = .ok (.aload_n 0, 1) := by decide +kernel
theorem dX12_listen_60 : decode cX12_listen 60 = .ok (.getfield 122, 3) := by decide +kernel
theorem dX12_listen_63 : decode cX12_listen 63 = .ok (.iload_n 2, 1) := by decide +kernel
theorem dX12_listen_64 : decode cX12_listen 64 = .ok (.iaload, 1) := by decide +kernel
theorem dX12_listen_65 : decode cX12_listen 65 = .ok (.bipush 100, 2) := by decide +kernel
theorem dX12_listen_67 : decode cX12_listen 67 = .ok (.irem, 1) := by decide +kernel
theorem dX12_listen_68 : decode cX12_listen 68 = .ok (.iconst 1, 1) := by decide +kernel
theorem dX12_listen_69 : decode cX12_listen 69 = .ok (.isub, 1) := by decide +kernel
theorem dX12_listen_70 : decode cX12_listen 70 = .ok (.ishl, 1) := by decide +kernel
theorem dX12_listen_71 : decode cX12_listen 71 = .ok (.ior, 1) := by decide +kernel
theorem dX12_listen_72 : decode cX12_listen 72 = .ok (.iastore, 1) := by decide +kernel
theorem dX12_listen_73 : decode cX12_listen 73 = .ok (.aload_n 0, 1) := by decide +kernel
theorem dX12_listen_74 : decode cX12_listen 74 = .ok (.bipush 20, 2) := by decide +kernel
theorem dX12_listen_76 : decode cX12_listen 76 = .ok (.invokevirtual 390, 3) := by decide +kernel
theorem dX12_listen_79 : decode cX12_listen 79 = .ok (.iconst 0, 1) := by decide +kernel
theorem dX12_listen_80 : decode cX12_listen 80 = .ok (.istore_n 3, 1) := by decide +kernel
theorem dX12_listen_81 : decode cX12_listen 81 = .ok (.iload_n 3, 1) := by decide +kernel
theorem dX12_listen_82 : decode cX12_listen 82 = .ok (.bipush 7, 2) := by decide +kernel
theorem dX12_listen_84 : decode cX12_listen 84 = .ok (.if_icmp .ge 26, 3) := by decide +kernel
theorem dX12_listen_87 : decode cX12_listen 87 = .ok (.aload_n 0, 1) := by decide +kernel
theorem dX12_listen_88 : decode cX12_listen 88 = .ok (.getfield 125, 3) := by decide +kernel
theorem dX12_listen_91 : decode cX12_listen 91 = .ok (.bipush 7, 2) := by decide +kernel
theorem dX12_listen_93 : decode cX12_listen 93 = .ok (.iload_n 2, 1) := by decide +kernel
theorem dX12_listen_94 : decode cX12_listen 94 = .ok (.imul, 1) := by decide +kernel
theorem dX12_listen_95 : decode cX12_listen 95 = .ok (.iload_n 3, 1) := by decide +kernel
theorem dX12_listen_96 : decode cX12_listen 96 = .ok (.iadd, 1) := by decide +kernel
theorem dX12_listen_97 : decode cX12_listen 97 = .ok (.aload_n 0, 1) := by decide +kernel
theorem dX12_listen_98 : decode cX12_listen 98 = .ok (.getfield 76, 3) := by decide +kernel
theorem dX12_listen_101 : decode cX12_listen 101 = .ok (.iload_n 3, 1) := by decide +kernel
theorem dX12_listen_102 : decode cX12_listen 102 = .ok (.iaload, 1) := by decide +kernel
theorem dX12_listen_103 : decode cX12_listen 103 = .ok (.iastore, 1) := by decide +kernel
theorem dX12_listen_104 : decode cX12_listen 104 = .ok (.iinc 3 1, 3) := by decide +kernel
theorem dX12_listen_107 : decode cX12_listen 107 = .ok (.goto (-26), 3) := by decide +kernel
theorem dX12_listen_110 : decode cX12_listen 110 = .ok (.aload_n 0, 1) := by decide +kernel
theorem dX12_listen_111 : decode cX12_listen 111 = .ok (.aload_n 0, 1) := by decide +kernel
theorem dX12_listen_112 : decode cX12_listen 112 = .ok (.getfield 98, 3) := by decide +kernel
theorem dX12_listen_115 : decode cX12_listen 115 = .ok (.iconst 0, 1) := by decide +kernel
theorem dX12_listen_116 : decode cX12_listen 116 = .ok (.invokevirtual 400, 3) := by decide +kernel
theorem dX12_listen_119 : decode cX12_listen 119 = .ok (.iinc 2 1, 3) := by decide +kernel
theorem dX12_listen_122 : decode cX12_listen 122 = .ok (.goto (-87), 3) := by decide +kernel
theorem dX12_listen_125 : decode cX12_listen 125 = .ok (.iconst (-1), 1) := by decide +kernel
theorem dX12_listen_126 : decode cX12_listen 126 = .ok (.istore_n 2, 1) := by decide +kernel
theorem dX12_listen_127 : decode cX12_listen 127 = .ok (.iconst 0, 1) := by decide +kernel
theorem dX12_listen_128 : decode cX12_listen 128 = .ok (.istore_n 3, 1) := by decide +kernel
theorem dX12_listen_129 : decode cX12_listen 129 = .ok (.iconst 0, 1) := by decide +kernel
theorem dX12_listen_130 : decode cX12_listen 130 = .ok (.istore 4, 2) := by decide +kernel
theorem dX12_listen_132 : decode cX12_listen 132 = .ok (.iload 4, 2) := by decide +kernel
theorem dX12_listen_134 : decode cX12_listen 134 = .ok (.aload_n 0, 1) := by decide +kernel
theorem dX12_listen_135 : decode cX12_listen 135 = .ok (.getfield 41, 3) := by decide +kernel
theorem dX12_listen_138 : decode cX12_listen 138 = .ok (.iconst 1, 1) := by decide +kernel
theorem dX12_listen_139 : decode cX12_listen 139 = .ok (.iaload, 1) := by decide +kernel
theorem dX12_listen_140 : decode cX12_listen 140 = .ok (.if_icmp .ge 32, 3) := by decide +kernel
theorem dX12_listen_143 : decode cX12_listen 143 = .ok (.aload_n 0, 1) := by decide +kernel
theorem dX12_listen_144 : decode cX12_listen 144 = .ok (.iload 4, 2) := by decide +kernel
theorem dX12_listen_146 : decode cX12_listen 146 = .ok (.invokevirtual 443, 3) := by decide +kernel
theorem dX12_listen_149 : decode cX12_listen 149 = .ok (.istore 5, 2) := by decide +kernel
theorem dX12_listen_151 : decode cX12_listen 151 = .ok (.iload 5, 2) := by decide +kernel
theorem dX12_listen_153 : decode cX12_listen 153 = .ok (.iload_n 3, 1) := by decide +kernel
theorem dX12_listen_154 : decode cX12_listen 154 = .ok (.if_icmp .gt 6, 3) := by decide +kernel
theorem dX12_listen_157 : decode cX12_listen 157 = .ok (.goto 9, 3) := by decide +kernel
theorem dX12_listen_160 : decode cX12_listen 160 = .ok (.iload 4, 2) := by decide +kernel
theorem dX12_listen_162 : decode cX12_listen 162 = .ok (.istore_n 2, 1) := by decide +kernel
theorem dX12_listen_163 : decode cX12_listen 163 = .ok (.iload 5, 2) := by decide +kernel
theorem dX12_listen_165 : decode cX12_listen 165 = .ok (.istore_n 3, 1) := by decide +kernel
theorem dX12_listen_166 : decode cX12_listen 166 = .ok (.iinc 4 1, 3) := by decide +kernel
theorem dX12_listen_169 : decode cX12_listen 169 = .ok (.goto (-37), 3) := by decide +kernel
theorem dX12_listen_172 : decode cX12_listen 172 = .ok (.iload_n 1, 1) := by decide +kernel
theorem dX12_listen_173 : decode cX12_listen 173 = .ok (.ifCond .ne 7, 3) := by decide +kernel
theorem dX12_listen_176 : decode cX12_listen 176 = .ok (.iload_n 2, 1) := by decide +kernel
theorem dX12_listen_177 : decode cX12_listen 177 = .ok (.goto 4, 3) := by decide +kernel
theorem dX12_listen_180 : decode cX12_listen 180 = .ok (.iload_n 3, 1) := by decide +kernel
theorem dX12_listen_181 : decode cX12_listen 181 = .ok (.ireturn, 1) := by decide +kernel
theorem dX12_forget_0 : decode cX12_forget 0 = .ok (.aload_n 0, 1) := by decide +kernel
theorem dX12_forget_1 : decode cX12_forget 1 = .ok (.iconst 0, 1) := by decide +kernel
theorem dX12_forget_2 : decode cX12_forget 2 = .ok (.putfield 152, 3) := by decide +kernel
theorem dX12_forget_5 : decode cX12_forget 5 = .ok (.aload_n 0, 1) := by decide +kernel
theorem dX12_forget_6 : decode cX12_forget 6 = .ok (.iconst 0, 1) := by decide +kernel
theorem dX12_forget_7 : decode cX12_forget 7 = .ok (.putfield 302, 3) := by decide +kernel
theorem dX12_forget_10 : decode cX12_forget 10 = .ok (.return_, 1) := by decide +kernel
theorem dX12_tellGains_0 : decode cX12_tellGains 0 = .ok (.iload_n 1, 1) := by decide +kernel
theorem dX12_tellGains_1 : decode cX12_tellGains 1 = .ok (.iload_n 2, 1) := by decide +kernel
theorem dX12_tellGains_2 : decode cX12_tellGains 2 = .ok (.invokestatic 189, 3) := by decide +kernel
theorem dX12_tellGains_5 : decode cX12_tellGains 5 = .ok (.istore_n 3, 1) := by decide +kernel
theorem dX12_tellGains_6 : decode cX12_tellGains 6 = .ok (.iload_n 1, 1) := by decide +kernel
theorem dX12_tellGains_7 : decode cX12_tellGains 7 = .ok (.iload_n 2, 1) := by decide +kernel
theorem dX12_tellGains_8 : decode cX12_tellGains 8 = .ok (.invokestatic 328, 3) := by decide +kernel
theorem dX12_tellGains_11 : decode cX12_tellGains 11 = .ok (.istore 4, 2) := by decide +kernel
theorem dX12_tellGains_13 : decode cX12_tellGains 13 = .ok (.aload_n 0, 1) := by decide +kernel
theorem dX12_tellGains_14 : decode cX12_tellGains 14 = .ok (.aload_n 0, 1) := by decide +kernel
theorem dX12_tellGains_15 : decode cX12_tellGains 15 = .ok (.getfield 98, 3) := by decide +kernel
theorem dX12_tellGains_18 : decode cX12_tellGains 18 = .ok (.iconst 0, 1) := by decide +kernel
theorem dX12_tellGains_19 : decode cX12_tellGains 19 = .ok (.invokevirtual 378, 3) := by decide +kernel
theorem dX12_tellGains_22 : decode cX12_tellGains 22 = .ok (.iconst 0, 1) := by decide +kernel
theorem dX12_tellGains_23 : decode cX12_tellGains 23 = .ok (.istore 5, 2) := by decide +kernel
theorem dX12_tellGains_25 : decode cX12_tellGains 25 = .ok (.iload 5, 2) := by decide +kernel
theorem dX12_tellGains_27 : decode cX12_tellGains 27 = .ok (.iconst 4, 1) := by decide +kernel
theorem dX12_tellGains_28 : decode cX12_tellGains 28 = .ok (.if_icmp .ge 219, 3) := by decide +kernel
theorem dX12_tellGains_31 : decode cX12_tellGains 31 = .ok (.iload_n 3, 1) := by decide +kernel
theorem dX12_tellGains_32 : decode cX12_tellGains 32 = .ok (.iload_n 1, 1) := by decide +kernel
theorem dX12_tellGains_33 : decode cX12_tellGains 33 = .ok (.if_icmp .ne 19, 3) := by decide +kernel
theorem dX12_tellGains_36 : decode cX12_tellGains 36 = .ok (.iload 5, 2) := by decide +kernel
theorem dX12_tellGains_38 : decode cX12_tellGains 38 = .ok (.iconst 2, 1) := by decide +kernel
theorem dX12_tellGains_39 : decode cX12_tellGains 39 = .ok (.idiv, 1) := by decide +kernel
theorem dX12_tellGains_40 : decode cX12_tellGains 40 = .ok (.iconst 1, 1) := by decide +kernel
theorem dX12_tellGains_41 : decode cX12_tellGains 41 = .ok (.if_icmp .ne 7, 3) := by decide +kernel
theorem dX12_tellGains_44 : decode cX12_tellGains 44 = .ok (.iconst 1, 1) := by decide +kernel
theorem dX12_tellGains_45 : decode cX12_tellGains 45 = .ok (.goto 20, 3) := by decide +kernel
theorem dX12_tellGains_48 : decode cX12_tellGains 48 = .ok (.iconst 0, 1) := by decide +kernel
theorem dX12_tellGains_49 : decode cX12_tellGains 49 = .ok (.goto 16, 3) := by decide +kernel
theorem dX12_tellGains_52 : decode cX12_tellGains 52 = .ok (.iload 5, 2) := by decide +kernel
theorem dX12_tellGains_54 : decode cX12_tellGains 54 = .ok (.iconst 2, 1) := by decide +kernel
theorem dX12_tellGains_55 : decode cX12_tellGains 55 = .ok (.irem, 1) := by decide +kernel
theorem dX12_tellGains_56 : decode cX12_tellGains 56 = .ok (.iconst 1, 1) := by decide +kernel
theorem dX12_tellGains_57 : decode cX12_tellGains 57 = .ok (.if_icmp .ne 7, 3) := by decide +kernel
theorem dX12_tellGains_60 : decode cX12_tellGains 60 = .ok (.iconst 1, 1) := by decide +kernel
theorem dX12_tellGains_61 : decode cX12_tellGains 61 = .ok (.goto 4, 3) := by decide +kernel
theorem dX12_tellGains_64 : decode cX12_tellGains 64 = .ok (.iconst 0, 1) := by decide +kernel
theorem dX12_tellGains_65 : decode cX12_tellGains 65 = .ok (.istore 6, 2) := by decide +kernel
theorem dX12_tellGains_67 : decode cX12_tellGains 67 = .ok (.iload 4, 2) := by decide +kernel
theorem dX12_tellGains_69 : decode cX12_tellGains 69 = .ok (.iload_n 1, 1) := by decide +kernel
theorem dX12_tellGains_70 : decode cX12_tellGains 70 = .ok (.if_icmp .ne 19, 3) := by decide +kernel
theorem dX12_tellGains_73 : decode cX12_tellGains 73 = .ok (.iload 5, 2) := by decide +kernel
theorem dX12_tellGains_75 : decode cX12_tellGains 75 = .ok (.iconst 2, 1) := by decide +kernel
theorem dX12_tellGains_76 : decode cX12_tellGains 76 = .ok (.idiv, 1) := by decide +kernel
theorem dX12_tellGains_77 : decode cX12_tellGains 77 = .ok (.iconst 1, 1) := by decide +kernel
theorem dX12_tellGains_78 : decode cX12_tellGains 78 = .ok (.if_icmp .ne 7, 3) := by decide +kernel
theorem dX12_tellGains_81 : decode cX12_tellGains 81 = .ok (.iconst 1, 1) := by decide +kernel
theorem dX12_tellGains_82 : decode cX12_tellGains 82 = .ok (.goto 20, 3) := by decide +kernel
theorem dX12_tellGains_85 : decode cX12_tellGains 85 = .ok (.iconst 0, 1) := by decide +kernel
theorem dX12_tellGains_86 : decode cX12_tellGains 86 = .ok (.goto 16, 3) := by decide +kernel
theorem dX12_tellGains_89 : decode cX12_tellGains 89 = .ok (.iload 5, 2) := by decide +kernel
theorem dX12_tellGains_91 : decode cX12_tellGains 91 = .ok (.iconst 2, 1) := by decide +kernel
theorem dX12_tellGains_92 : decode cX12_tellGains 92 = .ok (.irem, 1) := by decide +kernel
theorem dX12_tellGains_93 : decode cX12_tellGains 93 = .ok (.iconst 1, 1) := by decide +kernel
theorem dX12_tellGains_94 : decode cX12_tellGains 94 = .ok (.if_icmp .ne 7, 3) := by decide +kernel
theorem dX12_tellGains_97 : decode cX12_tellGains 97 = .ok (.iconst 1, 1) := by decide +kernel
theorem dX12_tellGains_98 : decode cX12_tellGains 98 = .ok (.goto 4, 3) := by decide +kernel
theorem dX12_tellGains_101 : decode cX12_tellGains 101 = .ok (.iconst 0, 1) := by decide +kernel
theorem dX12_tellGains_102 : decode cX12_tellGains 102 = .ok (.istore 7, 2) := by decide +kernel
theorem dX12_tellGains_104 : decode cX12_tellGains 104 = .ok (.iload 6, 2) := by decide +kernel
theorem dX12_tellGains_106 : decode cX12_tellGains 106 = .ok (.ifCond .eq 18, 3) := by decide +kernel
theorem dX12_tellGains_109 : decode cX12_tellGains 109 = .ok (.aload_n 0, 1) := by decide +kernel
theorem dX12_tellGains_110 : decode cX12_tellGains 110 = .ok (.iload_n 3, 1) := by decide +kernel
theorem dX12_tellGains_111 : decode cX12_tellGains 111 = .ok (.iconst 1, 1) := by decide +kernel
theorem dX12_tellGains_112 : decode cX12_tellGains 112 = .ok (.invokevirtual 358, 3) := by decide +kernel
theorem dX12_tellGains_115 : decode cX12_tellGains 115 = .ok (.ifCond .eq 9, 3) := by decide +kernel
theorem dX12_tellGains_118 : decode cX12_tellGains 118 = .ok (.aload_n 0, 1) := by decide +kernel
theorem dX12_tellGains_119 : decode cX12_tellGains 119 = .ok (.iload_n 3, 1) := by decide +kernel
theorem dX12_tellGains_120 : decode cX12_tellGains 120 = .ok (.iconst 1, 1) := by decide +kernel
theorem dX12_tellGains_121 : decode cX12_tellGains 121 = .ok (.invokevirtual 393, 3) := by decide +kernel
theorem dX12_tellGains_124 : decode cX12_tellGains 124 = .ok (.iload 7, 2) := by decide +kernel
theorem dX12_tellGains_126 : decode cX12_tellGains 126 = .ok (.ifCond .eq 30, 3) := by decide +kernel
theorem dX12_tellGains_129 : decode cX12_tellGains 129 = .ok (.aload_n 0, 1) := by decide +kernel
theorem dX12_tellGains_130 : decode cX12_tellGains 130 = .ok (.iload 4, 2) := by decide +kernel
theorem dX12_tellGains_132 : decode cX12_tellGains 132 = .ok (.iconst 1, 1) := by decide +kernel
theorem dX12_tellGains_133 : decode cX12_tellGains 133 = .ok (.invokevirtual 358, 3) := by decide +kernel
theorem dX12_tellGains_136 : decode cX12_tellGains 136 = .ok (.ifCond .eq 13, 3) := by decide +kernel
theorem dX12_tellGains_139 : decode cX12_tellGains 139 = .ok (.aload_n 0, 1) := by decide +kernel
theorem dX12_tellGains_140 : decode cX12_tellGains 140 = .ok (.iload 4, 2) := by decide +kernel
theorem dX12_tellGains_142 : decode cX12_tellGains 142 = .ok (.iconst 1, 1) := by decide +kernel
theorem dX12_tellGains_143 : decode cX12_tellGains 143 = .ok (.invokevirtual 393, 3) := by decide +kernel
theorem dX12_tellGains_146 : decode cX12_tellGains 146 = .ok (.goto 10, 3) := by decide +kernel
theorem dX12_tellGains_149 : decode cX12_tellGains 149 = .ok (.aload_n 0, 1) := by decide +kernel
theorem dX12_tellGains_150 : decode cX12_tellGains 150 = .ok (.iload 4, 2) := by decide +kernel
theorem dX12_tellGains_152 : decode cX12_tellGains 152 = .ok (.iconst 2, 1) := by decide +kernel
theorem dX12_tellGains_153 : decode cX12_tellGains 153 = .ok (.invokevirtual 354, 3) := by decide +kernel
theorem dX12_tellGains_156 : decode cX12_tellGains 156 = .ok (.aload_n 0, 1) := by decide +kernel
theorem dX12_tellGains_157 : decode cX12_tellGains 157 = .ok (.bipush 10, 2) := by decide +kernel
theorem dX12_tellGains_159 : decode cX12_tellGains 159 = .ok (.invokevirtual 390, 3) := by decide +kernel
theorem dX12_tellGains_162 : decode cX12_tellGains 162 = .ok (.aload_n 0, 1) := by decide +kernel
theorem dX12_tellGains_163 : decode cX12_tellGains 163 = .ok (.getfield 128, 3) := by decide +kernel
theorem dX12_tellGains_166 : decode cX12_tellGains 166 = .ok (.iconst 2, 1) := by decide +kernel
theorem dX12_tellGains_167 : decode cX12_tellGains 167 = .ok (.iload 5, 2) := by decide +kernel
theorem dX12_tellGains_169 : decode cX12_tellGains 169 = .ok (.imul, 1) := by decide +kernel
theorem dX12_tellGains_170 : decode cX12_tellGains 170 = .ok (.aload_n 0, 1) := by decide +kernel
theorem dX12_tellGains_171 : decode cX12_tellGains 171 = .ok (.getfield 85, 3) := by decide +kernel
theorem dX12_tellGains_174 : decode cX12_tellGains 174 = .ok (.iload_n 1, 1) := by decide +kernel
theorem dX12_tellGains_175 : decode cX12_tellGains 175 = .ok (.iaload, 1) := by decide +kernel
theorem dX12_tellGains_176 : decode cX12_tellGains 176 = .ok (.iastore, 1) := by decide +kernel
theorem dX12_tellGains_177 : decode cX12_tellGains 177 = .ok (.aload_n 0, 1) := by decide +kernel
theorem dX12_tellGains_178 : decode cX12_tellGains 178 = .ok (.getfield 128, 3) := by decide +kernel
theorem dX12_tellGains_181 : decode cX12_tellGains 181 = .ok (.iconst 2, 1) := by decide +kernel
theorem dX12_tellGains_182 : decode cX12_tellGains 182 = .ok (.iload 5, 2) := by decide +kernel
theorem dX12_tellGains_184 : decode cX12_tellGains 184 = .ok (.imul, 1) := by decide +kernel
theorem dX12_tellGains_185 : decode cX12_tellGains 185 = .ok (.iconst 1, 1) := by decide +kernel
theorem dX12_tellGains_186 : decode cX12_tellGains 186 = .ok (.iadd, 1) := by decide +kernel
theorem dX12_tellGains_187 : decode cX12_tellGains 187 = .ok (.aload_n 0, 1) := by decide +kernel
theorem dX12_tellGains_188 : decode cX12_tellGains 188 = .ok (.getfield 85, 3) := by decide +kernel
theorem dX12_tellGains_191 : decode cX12_tellGains 191 = .ok (.iload_n 2, 1) := by decide +kernel
theorem dX12_tellGains_192 : decode cX12_tellGains 192 = .ok (.iaload, 1) := by decide +kernel
theorem dX12_tellGains_193 : decode cX12_tellGains 193 = .ok (.iastore, 1) := by decide +kernel
theorem dX12_tellGains_194 : decode cX12_tellGains 194 = .ok (.aload_n 0, 1) := by decide +kernel
theorem dX12_tellGains_195 : decode cX12_tellGains 195 = .ok (.aload_n 0, 1) := by decide +kernel
theorem dX12_tellGains_196 : decode cX12_tellGains 196 = .ok (.getfield 98, 3) := by decide +kernel
theorem dX12_tellGains_199 : decode cX12_tellGains 199 = .ok (.iconst 0, 1) := by decide +kernel
theorem dX12_tellGains_200 : decode cX12_tellGains 200 = .ok (.invokevirtual 400, 3) := by decide +kernel
theorem dX12_tellGains_203 : decode cX12_tellGains 203 = .ok (.aload_n 0, 1) := by decide +kernel
theorem dX12_tellGains_204 : decode cX12_tellGains 204 = .ok (.getfield 128, 3) := by decide +kernel
theorem dX12_tellGains_207 : decode cX12_tellGains 207 = .ok (.iconst 2, 1) := by decide +kernel
theorem dX12_tellGains_208 : decode cX12_tellGains 208 = .ok (.iload 5, 2) := by decide +kernel
theorem dX12_tellGains_210 : decode cX12_tellGains 210 = .ok (.imul, 1) := by decide +kernel
theorem dX12_tellGains_211 : decode cX12_tellGains 211 = .ok (.dup2, 1) := by decide +kernel
theorem dX12_tellGains_212 : decode cX12_tellGains 212 = .ok (.iaload, 1) := by decide +kernel
theorem dX12_tellGains_213 : decode cX12_tellGains 213 = .ok (.aload_n 0, 1) := by decide +kernel
theorem dX12_tellGains_214 : decode cX12_tellGains 214 = .ok (.getfield 85, 3) := by decide +kernel
theorem dX12_tellGains_217 : decode cX12_tellGains 217 = .ok (.iload_n 1, 1) := by decide +kernel
theorem dX12_tellGains_218 : decode cX12_tellGains 218 = .ok (.iaload, 1) := by decide +kernel
theorem dX12_tellGains_219 : decode cX12_tellGains 219 = .ok (.isub, 1) := by decide +kernel
theorem dX12_tellGains_220 : decode cX12_tellGains 220 = .ok (.iastore, 1) := by decide +kernel
theorem dX12_tellGains_221 : decode cX12_tellGains 221 = .ok (.aload_n 0, 1) := by decide +kernel
theorem dX12_tellGains_222 : decode cX12_tellGains 222 = .ok (.getfield 128, 3) := by decide +kernel
theorem dX12_tellGains_225 : decode cX12_tellGains 225 = .ok (.iconst 2, 1) := by decide +kernel
theorem dX12_tellGains_226 : decode cX12_tellGains 226 = .ok (.iload 5, 2) := by decide +kernel
theorem dX12_tellGains_228 : decode cX12_tellGains 228 = .ok (.imul, 1) := by decide +kernel
theorem dX12_tellGains_229 : decode cX12_tellGains 229 = .ok (.iconst 1, 1) := by decide +kernel
theorem dX12_tellGains_230 : decode cX12_tellGains 230 = .ok (.iadd, 1) := by decide +kernel
theorem dX12_tellGains_231 : decode cX12_tellGains 231 = .ok (.dup2, 1) := by decide +kernel
theorem dX12_tellGains_232 : decode cX12_tellGains 232 = .ok (.iaload, 1) := by decide +kernel
theorem dX12_tellGains_233 : decode cX12_tellGains 233 = .ok (.aload_n 0, 1) := by decide +kernel
theorem dX12_tellGains_234 : decode cX12_tellGains 234 = .ok (.getfield 85, 3) := by decide +kernel
theorem dX12_tellGains_237 : decode cX12_tellGains 237 = .ok (.iload_n 2, 1) := by decide +kernel
theorem dX12_tellGains_238 : decode cX12_tellGains 238 = .ok (.iaload, 1) := by decide +kernel
theorem dX12_tellGains_239 : decode cX12_tellGains 239 = .ok (.isub, 1) := by decide +kernel
theorem dX12_tellGains_240 : decode cX12_tellGains 240 = .ok (.iastore, 1) := by decide +kernel
theorem dX12_tellGains_241 : decode cX12_tellGains 241 = .ok (.iinc 5 1, 3) := by decide +kernel
theorem dX12_tellGains_244 : decode cX12_tellGains 244 = .ok (.goto (-219), 3) := by decide +kernel
theorem dX12_tellGains_247 : decode cX12_tellGains 247 = .ok (.return_, 1) := by decide +kernel
theorem dX12_game_0 : decode cX12_game 0 = .ok (.aload_n 0, 1) := by decide +kernel
theorem dX12_game_1 : decode cX12_game 1 = .ok (.iconst 0, 1) := by decide +kernel
theorem dX12_game_2 : decode cX12_game 2 = .ok (.putfield 152, 3) := by decide +kernel
theorem dX12_game_5 : decode cX12_game 5 = .ok (.aload_n 0, 1) := by decide +kernel
theorem dX12_game_6 : decode cX12_game 6 = .ok (.iload_n 1, 1) := by decide +kernel
theorem dX12_game_7 : decode cX12_game 7 = .ok (.invokevirtual 375, 3) := by decide +kernel
theorem dX12_game_10 : decode cX12_game 10 = .ok (.ifCond .eq 20, 3) := by decide +kernel
theorem dX12_game_13 : decode cX12_game 13 = .ok (.aload_n 0, 1) := by decide +kernel
theorem dX12_game_14 : decode cX12_game 14 = .ok (.iload_n 2, 1) := by decide +kernel
theorem dX12_game_15 : decode cX12_game 15 = .ok (.invokevirtual 375, 3) := by decide +kernel
theorem dX12_game_18 : decode cX12_game 18 = .ok (.ifCond .eq 12, 3) := by decide +kernel
theorem dX12_game_21 : decode cX12_game 21 = .ok (.iload_n 3, 1) := by decide +kernel
theorem dX12_game_22 : decode cX12_game 22 = .ok (.ifCond .lt 8, 3) := by decide +kernel
theorem dX12_game_25 : decode cX12_game 25 = .ok (.iload_n 3, 1) := by decide +kernel
theorem dX12_game_26 : decode cX12_game 26 = .ok (.iconst 1, 1) := by decide +kernel
theorem dX12_game_27 : decode cX12_game 27 = .ok (.if_icmp .le 9, 3) := by decide +kernel
theorem dX12_game_30 : decode cX12_game 30 = .ok (.aload_n 0, 1) := by decide +kernel
theorem dX12_game_31 : decode cX12_game 31 = .ok (.iconst 1, 1) := by decide +kernel
theorem dX12_game_32 : decode cX12_game 32 = .ok (.invokevirtual 283, 3) := by decide +kernel
theorem dX12_game_35 : decode cX12_game 35 = .ok (.ireturn, 1) := by decide +kernel
theorem dX12_game_36 : decode cX12_game 36 = .ok (.iload_n 1, 1) := by decide +kernel
theorem dX12_game_37 : decode cX12_game 37 = .ok (.iload_n 2, 1) := by decide +kernel
theorem dX12_game_38 : decode cX12_game 38 = .ok (.if_icmp .ne 9, 3) := by decide +kernel
theorem dX12_game_41 : decode cX12_game 41 = .ok (.aload_n 0, 1) := by decide +kernel
theorem dX12_game_42 : decode cX12_game 42 = .ok (.iconst 2, 1) := by decide +kernel
theorem dX12_game_43 : decode cX12_game 43 = .ok (.invokevirtual 283, 3) := by decide +kernel
theorem dX12_game_46 : decode cX12_game 46 = .ok (.ireturn, 1) := by decide +kernel
theorem dX12_game_47 : decode cX12_game 47 = .ok (.aload_n 0, 1) := by decide +kernel
theorem dX12_game_48 : decode cX12_game 48 = .ok (.iload_n 1, 1) := by decide +kernel
theorem dX12_game_49 : decode cX12_game 49 = .ok (.iconst 1, 1) := by decide +kernel
theorem dX12_game_50 : decode cX12_game 50 = .ok (.invokevirtual 358, 3) := by decide +kernel
theorem dX12_game_53 : decode cX12_game 53 = .ok (.istore 4, 2) := by decide +kernel
theorem dX12_game_55 : decode cX12_game 55 = .ok (.aload_n 0, 1) := by decide +kernel
theorem dX12_game_56 : decode cX12_game 56 = .ok (.iload_n 2, 1) := by decide +kernel
theorem dX12_game_57 : decode cX12_game 57 = .ok (.iconst 1, 1) := by decide +kernel
theorem dX12_game_58 : decode cX12_game 58 = .ok (.invokevirtual 358, 3) := by decide +kernel
theorem dX12_game_61 : decode cX12_game 61 = .ok (.istore 5, 2) := by decide +kernel
theorem dX12_game_63 : decode cX12_game 63 = .ok (.aload_n 0, 1) := by decide +kernel
theorem dX12_game_64 : decode cX12_game 64 = .ok (.iload_n 1, 1) := by decide +kernel
theorem dX12_game_65 : decode cX12_game 65 = .ok (.iload_n 2, 1) := by decide +kernel
theorem dX12_game_66 : decode cX12_game 66 = .ok (.invokevirtual 446, 3) := by decide +kernel
theorem dX12_game_69 : decode cX12_game 69 = .ok (.iconst 0, 1) := by decide +kernel
theorem dX12_game_70 : decode cX12_game 70 = .ok (.istore 6, 2) := by decide +kernel
theorem dX12_game_72 : decode cX12_game 72 = .ok (.iconst (-1), 1) := by decide +kernel
theorem dX12_game_73 : decode cX12_game 73 = .ok (.istore 7, 2) := by decide +kernel
theorem dX12_game_75 : decode cX12_game 75 = .ok (.iconst 0, 1) := by decide +kernel
theorem dX12_game_76 : decode cX12_game 76 = .ok (.istore 8, 2) := by decide +kernel
theorem dX12_game_78 : decode cX12_game 78 = .ok (.iload 8, 2) := by decide +kernel
theorem dX12_game_80 : decode cX12_game 80 = .ok (.iconst 4, 1) := by decide +kernel
theorem dX12_game_81 : decode cX12_game 81 = .ok (.if_icmp .ge 129, 3) := by decide +kernel
theorem dX12_game_84 : decode cX12_game 84 = .ok (.iload 8, 2) := by decide +kernel
theorem dX12_game_86 : decode cX12_game 86 = .ok (.iconst 2, 1) := by decide +kernel
theorem dX12_game_87 : decode cX12_game 87 = .ok (.idiv, 1) := by decide +kernel
theorem dX12_game_88 : decode cX12_game 88 = .ok (.iconst 1, 1) := by decide +kernel
theorem dX12_game_89 : decode cX12_game 89 = .ok (.if_icmp .ne 8, 3) := by decide +kernel
theorem dX12_game_92 : decode cX12_game 92 = .ok (.iload 4, 2) := by decide +kernel
theorem dX12_game_94 : decode cX12_game 94 = .ok (.ifCond .eq 110, 3) := by decide +kernel
theorem dX12_game_97 : decode cX12_game 97 = .ok (.iload 8, 2) := by decide +kernel
theorem dX12_game_99 : decode cX12_game 99 = .ok (.iconst 2, 1) := by decide +kernel
theorem dX12_game_100 : decode cX12_game 100 = .ok (.irem, 1) := by decide +kernel
theorem dX12_game_101 : decode cX12_game 101 = .ok (.iconst 1, 1) := by decide +kernel
theorem dX12_game_102 : decode cX12_game 102 = .ok (.if_icmp .ne 11, 3) := by decide +kernel
theorem dX12_game_105 : decode cX12_game 105 = .ok (.iload 5, 2) := by decide +kernel
theorem dX12_game_107 : decode cX12_game 107 = .ok (.ifCond .ne 6, 3) := by decide +kernel
theorem dX12_game_110 : decode cX12_game 110 = .ok (.goto 94, 3) := by decide +kernel
theorem dX12_game_113 : decode cX12_game 113 = .ok (.iload 4, 2) := by decide +kernel
theorem dX12_game_115 : decode cX12_game 115 = .ok (.ifCond .eq 26, 3) := by decide +kernel
theorem dX12_game_118 : decode cX12_game 118 = .ok (.aload_n 0, 1) := by decide +kernel
theorem dX12_game_119 : decode cX12_game 119 = .ok (.getfield 128, 3) := by decide +kernel
theorem dX12_game_122 : decode cX12_game 122 = .ok (.iconst 2, 1) := by decide +kernel
theorem dX12_game_123 : decode cX12_game 123 = .ok (.iload 8, 2) := by decide +kernel
theorem dX12_game_125 : decode cX12_game 125 = .ok (.iconst 2, 1) := by decide +kernel
theorem dX12_game_126 : decode cX12_game 126 = .ok (.ixor, 1) := by decide +kernel
theorem dX12_game_127 : decode cX12_game 127 = .ok (.imul, 1) := by decide +kernel
theorem dX12_game_128 : decode cX12_game 128 = .ok (.iaload, 1) := by decide +kernel
theorem dX12_game_129 : decode cX12_game 129 = .ok (.aload_n 0, 1) := by decide +kernel
theorem dX12_game_130 : decode cX12_game 130 = .ok (.getfield 128, 3) := by decide +kernel
theorem dX12_game_133 : decode cX12_game 133 = .ok (.iconst 2, 1) := by decide +kernel
theorem dX12_game_134 : decode cX12_game 134 = .ok (.iload 8, 2) := by decide +kernel
theorem dX12_game_136 : decode cX12_game 136 = .ok (.imul, 1) := by decide +kernel
theorem dX12_game_137 : decode cX12_game 137 = .ok (.iaload, 1) := by decide +kernel
theorem dX12_game_138 : decode cX12_game 138 = .ok (.if_icmp .gt 66, 3) := by decide +kernel
theorem dX12_game_141 : decode cX12_game 141 = .ok (.iload 5, 2) := by decide +kernel
theorem dX12_game_143 : decode cX12_game 143 = .ok (.ifCond .eq 33, 3) := by decide +kernel
theorem dX12_game_146 : decode cX12_game 146 = .ok (.aload_n 0, 1) := by decide +kernel
theorem dX12_game_147 : decode cX12_game 147 = .ok (.getfield 128, 3) := by decide +kernel
theorem dX12_game_150 : decode cX12_game 150 = .ok (.iconst 2, 1) := by decide +kernel
theorem dX12_game_151 : decode cX12_game 151 = .ok (.iload 8, 2) := by decide +kernel
theorem dX12_game_153 : decode cX12_game 153 = .ok (.iconst 1, 1) := by decide +kernel
theorem dX12_game_154 : decode cX12_game 154 = .ok (.ixor, 1) := by decide +kernel
theorem dX12_game_155 : decode cX12_game 155 = .ok (.imul, 1) := by decide +kernel
theorem dX12_game_156 : decode cX12_game 156 = .ok (.iconst 1, 1) := by decide +kernel
theorem dX12_game_157 : decode cX12_game 157 = .ok (.iadd, 1) := by decide +kernel
theorem dX12_game_158 : decode cX12_game 158 = .ok (.iaload, 1) := by decide +kernel
theorem dX12_game_159 : decode cX12_game 159 = .ok (.aload_n 0, 1) := by decide +kernel
theorem dX12_game_160 : decode cX12_game 160 = .ok (.getfield 128, 3) := by decide +kernel
theorem dX12_game_163 : decode cX12_game 163 = .ok (.iconst 2, 1) := by decide +kernel
theorem dX12_game_164 : decode cX12_game 164 = .ok (.iload 8, 2) := by decide +kernel
theorem dX12_game_166 : decode cX12_game 166 = .ok (.imul, 1) := by decide +kernel
theorem dX12_game_167 : decode cX12_game 167 = .ok (.iconst 1, 1) := by decide +kernel
theorem dX12_game_168 : decode cX12_game 168 = .ok (.iadd, 1) := by decide +kernel
theorem dX12_game_169 : decode cX12_game 169 = .ok (.iaload, 1) := by decide +kernel
theorem dX12_game_170 : decode cX12_game 170 = .ok (.if_icmp .le 6, 3) := by decide +kernel
theorem dX12_game_173 : decode cX12_game 173 = .ok (.goto 31, 3) := by decide +kernel
theorem dX12_game_176 : decode cX12_game 176 = .ok (.iinc 6 1, 3) := by decide +kernel
theorem dX12_game_179 : decode cX12_game 179 = .ok (.iload 7, 2) := by decide +kernel
theorem dX12_game_181 : decode cX12_game 181 = .ok (.iconst (-1), 1) := by decide +kernel
theorem dX12_game_182 : decode cX12_game 182 = .ok (.if_icmp .ne 18, 3) := by decide +kernel
theorem dX12_game_185 : decode cX12_game 185 = .ok (.bipush 10, 2) := by decide +kernel
theorem dX12_game_187 : decode cX12_game 187 = .ok (.iload 8, 2) := by decide +kernel
theorem dX12_game_189 : decode cX12_game 189 = .ok (.iconst 2, 1) := by decide +kernel
theorem dX12_game_190 : decode cX12_game 190 = .ok (.idiv, 1) := by decide +kernel
theorem dX12_game_191 : decode cX12_game 191 = .ok (.imul, 1) := by decide +kernel
theorem dX12_game_192 : decode cX12_game 192 = .ok (.iload 8, 2) := by decide +kernel
theorem dX12_game_194 : decode cX12_game 194 = .ok (.iconst 2, 1) := by decide +kernel
theorem dX12_game_195 : decode cX12_game 195 = .ok (.irem, 1) := by decide +kernel
theorem dX12_game_196 : decode cX12_game 196 = .ok (.iadd, 1) := by decide +kernel
theorem dX12_game_197 : decode cX12_game 197 = .ok (.goto 5, 3) := by decide +kernel
theorem dX12_game_200 : decode cX12_game 200 = .ok (.iload 7, 2) := by decide +kernel
theorem dX12_game_202 : decode cX12_game 202 = .ok (.istore 7, 2) := by decide +kernel
theorem dX12_game_204 : decode cX12_game 204 = .ok (.iinc 8 1, 3) := by decide +kernel
theorem dX12_game_207 : decode cX12_game 207 = .ok (.goto (-129), 3) := by decide +kernel
theorem dX12_game_210 : decode cX12_game 210 = .ok (.iload_n 3, 1) := by decide +kernel
theorem dX12_game_211 : decode cX12_game 211 = .ok (.ifCond .ne 8, 3) := by decide +kernel
theorem dX12_game_214 : decode cX12_game 214 = .ok (.iload 6, 2) := by decide +kernel
theorem dX12_game_216 : decode cX12_game 216 = .ok (.goto 5, 3) := by decide +kernel
theorem dX12_game_219 : decode cX12_game 219 = .ok (.iload 7, 2) := by decide +kernel
theorem dX12_game_221 : decode cX12_game 221 = .ok (.ireturn, 1) := by decide +kernel
theorem dX12_drawOf_0 : decode cX12_drawOf 0 = .ok (.aload_n 0, 1) := by decide +kernel
theorem dX12_drawOf_1 : decode cX12_drawOf 1 = .ok (.aload_n 0, 1) := by decide +kernel
theorem dX12_drawOf_2 : decode cX12_drawOf 2 = .ok (.getfield 449, 3) := by decide +kernel
theorem dX12_drawOf_5 : decode cX12_drawOf 5 = .ok (.ldc_w 452, 3) := by decide +kernel
theorem dX12_drawOf_8 : decode cX12_drawOf 8 = .ok (.imul, 1) := by decide +kernel
theorem dX12_drawOf_9 : decode cX12_drawOf 9 = .ok (.sipush 12345, 3) := by decide +kernel
theorem dX12_drawOf_12 : decode cX12_drawOf 12 = .ok (.iadd, 1) := by decide +kernel
theorem dX12_drawOf_13 : decode cX12_drawOf 13 = .ok (.putfield 449, 3) := by decide +kernel
theorem dX12_drawOf_16 : decode cX12_drawOf 16 = .ok (.aload_n 0, 1) := by decide +kernel
theorem dX12_drawOf_17 : decode cX12_drawOf 17 = .ok (.getfield 449, 3) := by decide +kernel
theorem dX12_drawOf_20 : decode cX12_drawOf 20 = .ok (.bipush 16, 2) := by decide +kernel
theorem dX12_drawOf_22 : decode cX12_drawOf 22 = .ok (.ishr, 1) := by decide +kernel
theorem dX12_drawOf_23 : decode cX12_drawOf 23 = .ok (.sipush 32767, 3) := by decide +kernel
theorem dX12_drawOf_26 : decode cX12_drawOf 26 = .ok (.iand, 1) := by decide +kernel
theorem dX12_drawOf_27 : decode cX12_drawOf 27 = .ok (.iload_n 1, 1) := by decide +kernel
theorem dX12_drawOf_28 : decode cX12_drawOf 28 = .ok (.irem, 1) := by decide +kernel
theorem dX12_drawOf_29 : decode cX12_drawOf 29 = .ok (.ireturn, 1) := by decide +kernel
theorem dX12_something_0 : decode cX12_something 0 = .ok (.aload_n 0, 1) := by decide +kernel
theorem dX12_something_1 : decode cX12_something 1 = .ok (.iconst 5, 1) := by decide +kernel
theorem dX12_something_2 : decode cX12_something 2 = .ok (.invokevirtual 453, 3) := by decide +kernel
theorem dX12_something_5 : decode cX12_something 5 = .ok (.istore_n 1, 1) := by decide +kernel
theorem dX12_something_6 : decode cX12_something 6 = .ok (.iload_n 1, 1) := by decide +kernel
theorem dX12_something_7 : decode cX12_something 7 = .ok (.iconst 2, 1) := by decide +kernel
theorem dX12_something_8 : decode cX12_something 8 = .ok (.if_icmp .gt 12, 3) := by decide +kernel
theorem dX12_something_11 : decode cX12_something 11 = .ok (.aload_n 0, 1) := by decide +kernel
theorem dX12_something_12 : decode cX12_something 12 = .ok (.getfield 41, 3) := by decide +kernel
theorem dX12_something_15 : decode cX12_something 15 = .ok (.iconst 1, 1) := by decide +kernel
theorem dX12_something_16 : decode cX12_something 16 = .ok (.iaload, 1) := by decide +kernel
theorem dX12_something_17 : decode cX12_something 17 = .ok (.ifCond .ne 4, 3) := by decide +kernel
theorem dX12_something_20 : decode cX12_something 20 = .ok (.return_, 1) := by decide +kernel
theorem dX12_something_21 : decode cX12_something 21 = .ok (.aload_n 0, 1) := by decide +kernel
theorem dX12_something_22 : decode cX12_something 22 = .ok (.aload_n 0, 1) := by decide +kernel
theorem dX12_something_23 : decode cX12_something 23 = .ok (.getfield 41, 3) := by decide +kernel
theorem dX12_something_26 : decode cX12_something 26 = .ok (.iconst 1, 1) := by decide +kernel
theorem dX12_something_27 : decode cX12_something 27 = .ok (.iaload, 1) := by decide +kernel
theorem dX12_something_28 : decode cX12_something 28 = .ok (.invokevirtual 453, 3) := by decide +kernel
theorem dX12_something_31 : decode cX12_something 31 = .ok (.istore_n 2, 1) := by decide +kernel
theorem dX12_something_32 : decode cX12_something 32 = .ok (.iload_n 1, 1) := by decide +kernel
theorem dX12_something_33 : decode cX12_something 33 = .ok (.ifCond .ne 27, 3) := by decide +kernel
theorem dX12_something_36 : decode cX12_something 36 = .ok (.aload_n 0, 1) := by decide +kernel
theorem dX12_something_37 : decode cX12_something 37 = .ok (.bipush 30, 2) := by decide +kernel
theorem dX12_something_39 : decode cX12_something 39 = .ok (.invokevirtual 453, 3) := by decide +kernel
theorem dX12_something_42 : decode cX12_something 42 = .ok (.iconst 1, 1) := by decide +kernel
theorem dX12_something_43 : decode cX12_something 43 = .ok (.iadd, 1) := by decide +kernel
theorem dX12_something_44 : decode cX12_something 44 = .ok (.istore_n 3, 1) := by decide +kernel
theorem dX12_something_45 : decode cX12_something 45 = .ok (.aload_n 0, 1) := by decide +kernel
theorem dX12_something_46 : decode cX12_something 46 = .ok (.iload_n 2, 1) := by decide +kernel
theorem dX12_something_47 : decode cX12_something 47 = .ok (.iload_n 3, 1) := by decide +kernel
theorem dX12_something_48 : decode cX12_something 48 = .ok (.invokevirtual 358, 3) := by decide +kernel
theorem dX12_something_51 : decode cX12_something 51 = .ok (.ifCond .eq 9, 3) := by decide +kernel
theorem dX12_something_54 : decode cX12_something 54 = .ok (.aload_n 0, 1) := by decide +kernel
theorem dX12_something_55 : decode cX12_something 55 = .ok (.iload_n 2, 1) := by decide +kernel
theorem dX12_something_56 : decode cX12_something 56 = .ok (.iload_n 3, 1) := by decide +kernel
theorem dX12_something_57 : decode cX12_something 57 = .ok (.invokevirtual 393, 3) := by decide +kernel
theorem dX12_something_60 : decode cX12_something 60 = .ok (.iload_n 1, 1) := by decide +kernel
theorem dX12_something_61 : decode cX12_something 61 = .ok (.iconst 1, 1) := by decide +kernel
theorem dX12_something_62 : decode cX12_something 62 = .ok (.if_icmp .ne 9, 3) := by decide +kernel
theorem dX12_something_65 : decode cX12_something 65 = .ok (.aload_n 0, 1) := by decide +kernel
theorem dX12_something_66 : decode cX12_something 66 = .ok (.iload_n 2, 1) := by decide +kernel
theorem dX12_something_67 : decode cX12_something 67 = .ok (.iconst 3, 1) := by decide +kernel
theorem dX12_something_68 : decode cX12_something 68 = .ok (.invokevirtual 354, 3) := by decide +kernel
theorem dX12_something_71 : decode cX12_something 71 = .ok (.iload_n 1, 1) := by decide +kernel
theorem dX12_something_72 : decode cX12_something 72 = .ok (.iconst 2, 1) := by decide +kernel
theorem dX12_something_73 : decode cX12_something 73 = .ok (.if_icmp .ne 21, 3) := by decide +kernel
theorem dX12_something_76 : decode cX12_something 76 = .ok (.aload_n 0, 1) := by decide +kernel
theorem dX12_something_77 : decode cX12_something 77 = .ok (.getfield 79, 3) := by decide +kernel
theorem dX12_something_80 : decode cX12_something 80 = .ok (.iload_n 2, 1) := by decide +kernel
theorem dX12_something_81 : decode cX12_something 81 = .ok (.iconst 0, 1) := by decide +kernel
theorem dX12_something_82 : decode cX12_something 82 = .ok (.aload_n 0, 1) := by decide +kernel
theorem dX12_something_83 : decode cX12_something 83 = .ok (.getfield 79, 3) := by decide +kernel
theorem dX12_something_86 : decode cX12_something 86 = .ok (.iload_n 2, 1) := by decide +kernel
theorem dX12_something_87 : decode cX12_something 87 = .ok (.iaload, 1) := by decide +kernel
theorem dX12_something_88 : decode cX12_something 88 = .ok (.iconst 3, 1) := by decide +kernel
theorem dX12_something_89 : decode cX12_something 89 = .ok (.isub, 1) := by decide +kernel
theorem dX12_something_90 : decode cX12_something 90 = .ok (.invokestatic 328, 3) := by decide +kernel
theorem dX12_something_93 : decode cX12_something 93 = .ok (.iastore, 1) := by decide +kernel
theorem dX12_something_94 : decode cX12_something 94 = .ok (.return_, 1) := by decide +kernel
theorem dX12_years_0 : decode cX12_years 0 = .ok (.aload_n 0, 1) := by decide +kernel
theorem dX12_years_1 : decode cX12_years 1 = .ok (.iconst 0, 1) := by decide +kernel
theorem dX12_years_2 : decode cX12_years 2 = .ok (.putfield 152, 3) := by decide +kernel
theorem dX12_years_5 : decode cX12_years 5 = .ok (.iload_n 3, 1) := by decide +kernel
theorem dX12_years_6 : decode cX12_years 6 = .ok (.i2l, 1) := by decide +kernel
theorem dX12_years_7 : decode cX12_years 7 = .ok (.lconst 0, 1) := by decide +kernel
theorem dX12_years_8 : decode cX12_years 8 = .ok (.ldc2_w 370, 3) := by decide +kernel
theorem dX12_years_11 : decode cX12_years 11 = .ok (.invokestatic 155, 3) := by decide +kernel
theorem dX12_years_14 : decode cX12_years 14 = .ok (.ifCond .ne 9, 3) := by decide +kernel
theorem dX12_years_17 : decode cX12_years 17 = .ok (.aload_n 0, 1) := by decide +kernel
theorem dX12_years_18 : decode cX12_years 18 = .ok (.iconst 1, 1) := by decide +kernel
theorem dX12_years_19 : decode cX12_years 19 = .ok (.invokevirtual 283, 3) := by decide +kernel
theorem dX12_years_22 : decode cX12_years 22 = .ok (.ireturn, 1) := by decide +kernel
theorem dX12_years_23 : decode cX12_years 23 = .ok (.iload_n 2, 1) := by decide +kernel
theorem dX12_years_24 : decode cX12_years 24 = .ok (.i2l, 1) := by decide +kernel
theorem dX12_years_25 : decode cX12_years 25 = .ok (.lconst 0, 1) := by decide +kernel
theorem dX12_years_26 : decode cX12_years 26 = .ok (.ldc2_w 403, 3) := by decide +kernel
theorem dX12_years_29 : decode cX12_years 29 = .ok (.invokestatic 155, 3) := by decide +kernel
theorem dX12_years_32 : decode cX12_years 32 = .ok (.ifCond .ne 9, 3) := by decide +kernel
theorem dX12_years_35 : decode cX12_years 35 = .ok (.aload_n 0, 1) := by decide +kernel
theorem dX12_years_36 : decode cX12_years 36 = .ok (.iconst 2, 1) := by decide +kernel
theorem dX12_years_37 : decode cX12_years 37 = .ok (.invokevirtual 283, 3) := by decide +kernel
theorem dX12_years_40 : decode cX12_years 40 = .ok (.ireturn, 1) := by decide +kernel
theorem dX12_years_41 : decode cX12_years 41 = .ok (.aload_n 0, 1) := by decide +kernel
theorem dX12_years_42 : decode cX12_years 42 = .ok (.aload_n 0, 1) := by decide +kernel
theorem dX12_years_43 : decode cX12_years 43 = .ok (.getfield 98, 3) := by decide +kernel
theorem dX12_years_46 : decode cX12_years 46 = .ok (.iconst 0, 1) := by decide +kernel
theorem dX12_years_47 : decode cX12_years 47 = .ok (.invokevirtual 378, 3) := by decide +kernel
theorem dX12_years_50 : decode cX12_years 50 = .ok (.aload_n 0, 1) := by decide +kernel
theorem dX12_years_51 : decode cX12_years 51 = .ok (.iload_n 1, 1) := by decide +kernel
theorem dX12_years_52 : decode cX12_years 52 = .ok (.putfield 449, 3) := by decide +kernel
theorem dX12_years_55 : decode cX12_years 55 = .ok (.aload_n 0, 1) := by decide +kernel
theorem dX12_years_56 : decode cX12_years 56 = .ok (.invokevirtual 405, 3) := by decide +kernel
theorem dX12_years_59 : decode cX12_years 59 = .ok (.istore 4, 2) := by decide +kernel
theorem dX12_years_61 : decode cX12_years 61 = .ok (.iconst 0, 1) := by decide +kernel
theorem dX12_years_62 : decode cX12_years 62 = .ok (.istore 5, 2) := by decide +kernel
theorem dX12_years_64 : decode cX12_years 64 = .ok (.iload 5, 2) := by decide +kernel
theorem dX12_years_66 : decode cX12_years 66 = .ok (.iload_n 2, 1) := by decide +kernel
theorem dX12_years_67 : decode cX12_years 67 = .ok (.if_icmp .ge 17, 3) := by decide +kernel
theorem dX12_years_70 : decode cX12_years 70 = .ok (.aload_n 0, 1) := by decide +kernel
theorem dX12_years_71 : decode cX12_years 71 = .ok (.invokevirtual 456, 3) := by decide +kernel
theorem dX12_years_74 : decode cX12_years 74 = .ok (.aload_n 0, 1) := by decide +kernel
theorem dX12_years_75 : decode cX12_years 75 = .ok (.invokevirtual 346, 3) := by decide +kernel
theorem dX12_years_78 : decode cX12_years 78 = .ok (.iinc 5 1, 3) := by decide +kernel
theorem dX12_years_81 : decode cX12_years 81 = .ok (.goto (-17), 3) := by decide +kernel
theorem dX12_years_84 : decode cX12_years 84 = .ok (.iload_n 3, 1) := by decide +kernel
theorem dX12_years_85 : decode cX12_years 85 = .ok (.ifCond .ne 13, 3) := by decide +kernel
theorem dX12_years_88 : decode cX12_years 88 = .ok (.aload_n 0, 1) := by decide +kernel
theorem dX12_years_89 : decode cX12_years 89 = .ok (.invokevirtual 405, 3) := by decide +kernel
theorem dX12_years_92 : decode cX12_years 92 = .ok (.iload 4, 2) := by decide +kernel
theorem dX12_years_94 : decode cX12_years 94 = .ok (.isub, 1) := by decide +kernel
theorem dX12_years_95 : decode cX12_years 95 = .ok (.goto 22, 3) := by decide +kernel
theorem dX12_years_98 : decode cX12_years 98 = .ok (.iload_n 3, 1) := by decide +kernel
theorem dX12_years_99 : decode cX12_years 99 = .ok (.iconst 1, 1) := by decide +kernel
theorem dX12_years_100 : decode cX12_years 100 = .ok (.if_icmp .ne 13, 3) := by decide +kernel
theorem dX12_years_103 : decode cX12_years 103 = .ok (.aload_n 0, 1) := by decide +kernel
theorem dX12_years_104 : decode cX12_years 104 = .ok (.invokevirtual 361, 3) := by decide +kernel
theorem dX12_years_107 : decode cX12_years 107 = .ok (.invokestatic 322, 3) := by decide +kernel
theorem dX12_years_110 : decode cX12_years 110 = .ok (.goto 7, 3) := by decide +kernel
theorem dX12_years_113 : decode cX12_years 113 = .ok (.aload_n 0, 1) := by decide +kernel
theorem dX12_years_114 : decode cX12_years 114 = .ok (.invokevirtual 364, 3) := by decide +kernel
theorem dX12_years_117 : decode cX12_years 117 = .ok (.istore 5, 2) := by decide +kernel
theorem dX12_years_119 : decode cX12_years 119 = .ok (.aload_n 0, 1) := by decide +kernel
theorem dX12_years_120 : decode cX12_years 120 = .ok (.aload_n 0, 1) := by decide +kernel
theorem dX12_years_121 : decode cX12_years 121 = .ok (.getfield 98, 3) := by decide +kernel
theorem dX12_years_124 : decode cX12_years 124 = .ok (.iconst 0, 1) := by decide +kernel
theorem dX12_years_125 : decode cX12_years 125 = .ok (.invokevirtual 400, 3) := by decide +kernel
theorem dX12_years_128 : decode cX12_years 128 = .ok (.iload 5, 2) := by decide +kernel
theorem dX12_years_130 : decode cX12_years 130 = .ok (.ireturn, 1) := by decide +kernel
theorem dX12_copyTo_0 : decode cX12_copyTo 0 = .ok (.iconst 0, 1) := by decide +kernel
theorem dX12_copyTo_1 : decode cX12_copyTo 1 = .ok (.istore_n 2, 1) := by decide +kernel
theorem dX12_copyTo_2 : decode cX12_copyTo 2 = .ok (.iload_n 2, 1) := by decide +kernel
theorem dX12_copyTo_3 : decode cX12_copyTo 3 = .ok (.aload_n 0, 1) := by decide +kernel
theorem dX12_copyTo_4 : decode cX12_copyTo 4 = .ok (.arraylength, 1) := by decide +kernel
theorem dX12_copyTo_5 : decode cX12_copyTo 5 = .ok (.if_icmp .ge 15, 3) := by decide +kernel
theorem dX12_copyTo_8 : decode cX12_copyTo 8 = .ok (.aload_n 0, 1) := by decide +kernel
theorem dX12_copyTo_9 : decode cX12_copyTo 9 = .ok (.iload_n 2, 1) := by decide +kernel
theorem dX12_copyTo_10 : decode cX12_copyTo 10 = .ok (.aload_n 1, 1) := by decide +kernel
theorem dX12_copyTo_11 : decode cX12_copyTo 11 = .ok (.iload_n 2, 1) := by decide +kernel
theorem dX12_copyTo_12 : decode cX12_copyTo 12 = .ok (.iaload, 1) := by decide +kernel
theorem dX12_copyTo_13 : decode cX12_copyTo 13 = .ok (.iastore, 1) := by decide +kernel
theorem dX12_copyTo_14 : decode cX12_copyTo 14 = .ok (.iinc 2 1, 3) := by decide +kernel
theorem dX12_copyTo_17 : decode cX12_copyTo 17 = .ok (.goto (-15), 3) := by decide +kernel
theorem dX12_copyTo_20 : decode cX12_copyTo 20 = .ok (.return_, 1) := by decide +kernel
theorem dX12_image_0 : decode cX12_image 0 = .ok (.aload_n 0, 1) := by decide +kernel
theorem dX12_image_1 : decode cX12_image 1 = .ok (.iconst 0, 1) := by decide +kernel
theorem dX12_image_2 : decode cX12_image 2 = .ok (.putfield 152, 3) := by decide +kernel
theorem dX12_image_5 : decode cX12_image 5 = .ok (.aload_n 0, 1) := by decide +kernel
theorem dX12_image_6 : decode cX12_image 6 = .ok (.iconst 1, 1) := by decide +kernel
theorem dX12_image_7 : decode cX12_image 7 = .ok (.putfield 305, 3) := by decide +kernel
theorem dX12_image_10 : decode cX12_image 10 = .ok (.aload_n 0, 1) := by decide +kernel
theorem dX12_image_11 : decode cX12_image 11 = .ok (.aload_n 0, 1) := by decide +kernel
theorem dX12_image_12 : decode cX12_image 12 = .ok (.getfield 299, 3) := by decide +kernel
theorem dX12_image_15 : decode cX12_image 15 = .ok (.putfield 459, 3) := by decide +kernel
theorem dX12_image_18 : decode cX12_image 18 = .ok (.aload_n 0, 1) := by decide +kernel
theorem dX12_image_19 : decode cX12_image 19 = .ok (.aload_n 0, 1) := by decide +kernel
theorem dX12_image_20 : decode cX12_image 20 = .ok (.getfield 302, 3) := by decide +kernel
theorem dX12_image_23 : decode cX12_image 23 = .ok (.putfield 462, 3) := by decide +kernel
theorem dX12_image_26 : decode cX12_image 26 = .ok (.aload_n 0, 1) := by decide +kernel
theorem dX12_image_27 : decode cX12_image 27 = .ok (.aload_n 0, 1) := by decide +kernel
theorem dX12_image_28 : decode cX12_image 28 = .ok (.getfield 131, 3) := by decide +kernel
theorem dX12_image_31 : decode cX12_image 31 = .ok (.iconst 0, 1) := by decide +kernel
theorem dX12_image_32 : decode cX12_image 32 = .ok (.invokevirtual 378, 3) := by decide +kernel
theorem dX12_image_35 : decode cX12_image 35 = .ok (.aload_n 0, 1) := by decide +kernel
theorem dX12_image_36 : decode cX12_image 36 = .ok (.getfield 134, 3) := by decide +kernel
theorem dX12_image_39 : decode cX12_image 39 = .ok (.aload_n 0, 1) := by decide +kernel
theorem dX12_image_40 : decode cX12_image 40 = .ok (.getfield 89, 3) := by decide +kernel
theorem dX12_image_43 : decode cX12_image 43 = .ok (.invokestatic 465, 3) := by decide +kernel
theorem dX12_image_46 : decode cX12_image 46 = .ok (.aload_n 0, 1) := by decide +kernel
theorem dX12_image_47 : decode cX12_image 47 = .ok (.getfield 137, 3) := by decide +kernel
theorem dX12_image_50 : decode cX12_image 50 = .ok (.aload_n 0, 1) := by decide +kernel
theorem dX12_image_51 : decode cX12_image 51 = .ok (.getfield 110, 3) := by decide +kernel
theorem dX12_image_54 : decode cX12_image 54 = .ok (.invokestatic 465, 3) := by decide +kernel
theorem dX12_image_57 : decode cX12_image 57 = .ok (.aload_n 0, 1) := by decide +kernel
theorem dX12_image_58 : decode cX12_image 58 = .ok (.getfield 140, 3) := by decide +kernel
theorem dX12_image_61 : decode cX12_image 61 = .ok (.aload_n 0, 1) := by decide +kernel
theorem dX12_image_62 : decode cX12_image 62 = .ok (.getfield 113, 3) := by decide +kernel
theorem dX12_image_65 : decode cX12_image 65 = .ok (.invokestatic 465, 3) := by decide +kernel
theorem dX12_image_68 : decode cX12_image 68 = .ok (.aload_n 0, 1) := by decide +kernel
theorem dX12_image_69 : decode cX12_image 69 = .ok (.getfield 143, 3) := by decide +kernel
theorem dX12_image_72 : decode cX12_image 72 = .ok (.aload_n 0, 1) := by decide +kernel
theorem dX12_image_73 : decode cX12_image 73 = .ok (.getfield 116, 3) := by decide +kernel
theorem dX12_image_76 : decode cX12_image 76 = .ok (.invokestatic 465, 3) := by decide +kernel
theorem dX12_image_79 : decode cX12_image 79 = .ok (.aload_n 0, 1) := by decide +kernel
theorem dX12_image_80 : decode cX12_image 80 = .ok (.getfield 146, 3) := by decide +kernel
theorem dX12_image_83 : decode cX12_image 83 = .ok (.aload_n 0, 1) := by decide +kernel
theorem dX12_image_84 : decode cX12_image 84 = .ok (.getfield 66, 3) := by decide +kernel
theorem dX12_image_87 : decode cX12_image 87 = .ok (.invokestatic 465, 3) := by decide +kernel
theorem dX12_image_90 : decode cX12_image 90 = .ok (.return_, 1) := by decide +kernel
theorem dX12_restore_0 : decode cX12_restore 0 = .ok (.aload_n 0, 1) := by decide +kernel
theorem dX12_restore_1 : decode cX12_restore 1 = .ok (.iconst 0, 1) := by decide +kernel
theorem dX12_restore_2 : decode cX12_restore 2 = .ok (.putfield 152, 3) := by decide +kernel
theorem dX12_restore_5 : decode cX12_restore 5 = .ok (.aload_n 0, 1) := by decide +kernel
theorem dX12_restore_6 : decode cX12_restore 6 = .ok (.getfield 305, 3) := by decide +kernel
theorem dX12_restore_9 : decode cX12_restore 9 = .ok (.ifCond .ne 5, 3) := by decide +kernel
theorem dX12_restore_12 : decode cX12_restore 12 = .ok (.iconst 0, 1) := by decide +kernel
theorem dX12_restore_13 : decode cX12_restore 13 = .ok (.ireturn, 1) := by decide +kernel
theorem dX12_restore_14 : decode cX12_restore 14 = .ok (.aload_n 0, 1) := by decide +kernel
theorem dX12_restore_15 : decode cX12_restore 15 = .ok (.aload_n 0, 1) := by decide +kernel
theorem dX12_restore_16 : decode cX12_restore 16 = .ok (.getfield 459, 3) := by decide +kernel
theorem dX12_restore_19 : decode cX12_restore 19 = .ok (.putfield 299, 3) := by decide +kernel
theorem dX12_restore_22 : decode cX12_restore 22 = .ok (.aload_n 0, 1) := by decide +kernel
theorem dX12_restore_23 : decode cX12_restore 23 = .ok (.aload_n 0, 1) := by decide +kernel
theorem dX12_restore_24 : decode cX12_restore 24 = .ok (.getfield 462, 3) := by decide +kernel
theorem dX12_restore_27 : decode cX12_restore 27 = .ok (.putfield 302, 3) := by decide +kernel
theorem dX12_restore_30 : decode cX12_restore 30 = .ok (.aload_n 0, 1) := by decide +kernel
theorem dX12_restore_31 : decode cX12_restore 31 = .ok (.aload_n 0, 1) := by decide +kernel
theorem dX12_restore_32 : decode cX12_restore 32 = .ok (.getfield 131, 3) := by decide +kernel
theorem dX12_restore_35 : decode cX12_restore 35 = .ok (.iconst 0, 1) := by decide +kernel
theorem dX12_restore_36 : decode cX12_restore 36 = .ok (.invokevirtual 400, 3) := by decide +kernel
theorem dX12_restore_39 : decode cX12_restore 39 = .ok (.aload_n 0, 1) := by decide +kernel
theorem dX12_restore_40 : decode cX12_restore 40 = .ok (.getfield 89, 3) := by decide +kernel
theorem dX12_restore_43 : decode cX12_restore 43 = .ok (.aload_n 0, 1) := by decide +kernel
theorem dX12_restore_44 : decode cX12_restore 44 = .ok (.getfield 134, 3) := by decide +kernel
theorem dX12_restore_47 : decode cX12_restore 47 = .ok (.invokestatic 465, 3) := by decide +kernel
theorem dX12_restore_50 : decode cX12_restore 50 = .ok (.aload_n 0, 1) := by decide +kernel
theorem dX12_restore_51 : decode cX12_restore 51 = .ok (.getfield 110, 3) := by decide +kernel
theorem dX12_restore_54 : decode cX12_restore 54 = .ok (.aload_n 0, 1) := by decide +kernel
theorem dX12_restore_55 : decode cX12_restore 55 = .ok (.getfield 137, 3) := by decide +kernel
theorem dX12_restore_58 : decode cX12_restore 58 = .ok (.invokestatic 465, 3) := by decide +kernel
theorem dX12_restore_61 : decode cX12_restore 61 = .ok (.aload_n 0, 1) := by decide +kernel
theorem dX12_restore_62 : decode cX12_restore 62 = .ok (.getfield 113, 3) := by decide +kernel
theorem dX12_restore_65 : decode cX12_restore 65 = .ok (.aload_n 0, 1) := by decide +kernel
theorem dX12_restore_66 : decode cX12_restore 66 = .ok (.getfield 140, 3) := by decide +kernel
theorem dX12_restore_69 : decode cX12_restore 69 = .ok (.invokestatic 465, 3) := by decide +kernel
theorem dX12_restore_72 : decode cX12_restore 72 = .ok (.aload_n 0, 1) := by decide +kernel
theorem dX12_restore_73 : decode cX12_restore 73 = .ok (.getfield 116, 3) := by decide +kernel
theorem dX12_restore_76 : decode cX12_restore 76 = .ok (.aload_n 0, 1) := by decide +kernel
theorem dX12_restore_77 : decode cX12_restore 77 = .ok (.getfield 143, 3) := by decide +kernel
theorem dX12_restore_80 : decode cX12_restore 80 = .ok (.invokestatic 465, 3) := by decide +kernel
theorem dX12_restore_83 : decode cX12_restore 83 = .ok (.aload_n 0, 1) := by decide +kernel
theorem dX12_restore_84 : decode cX12_restore 84 = .ok (.getfield 66, 3) := by decide +kernel
theorem dX12_restore_87 : decode cX12_restore 87 = .ok (.aload_n 0, 1) := by decide +kernel
theorem dX12_restore_88 : decode cX12_restore 88 = .ok (.getfield 146, 3) := by decide +kernel
theorem dX12_restore_91 : decode cX12_restore 91 = .ok (.invokestatic 465, 3) := by decide +kernel
theorem dX12_restore_94 : decode cX12_restore 94 = .ok (.iconst 1, 1) := by decide +kernel
theorem dX12_restore_95 : decode cX12_restore 95 = .ok (.ireturn, 1) := by decide +kernel
