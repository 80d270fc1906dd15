theorem dL_school_0 : decode cL_school 0 = .ok (.aload_n 2, 1) := by decide +kernel
theorem dL_school_1 : decode cL_school 1 = .ok (.iconst 0, 1) := by decide +kernel
theorem dL_school_2 : decode cL_school 2 = .ok (.aload_n 0, 1) := by decide +kernel
theorem dL_school_3 : decode cL_school 3 = .ok (.iload_n 1, 1) := by decide +kernel
theorem dL_school_4 : decode cL_school 4 = .ok (.invokevirtual 7, 3) := by decide +kernel
theorem dL_school_7 : decode cL_school 7 = .ok (.i2l, 1) := by decide +kernel
theorem dL_school_8 : decode cL_school 8 = .ok (.lastore, 1) := by decide +kernel
theorem dL_school_9 : decode cL_school 9 = .ok (.goto 6, 3) := by decide +kernel
theorem dL_school_12 : decode cL_school 12 = .ok (.astore_n 3, 1) := by decide +kernel
theorem dL_school_13 : decode cL_school 13 = .ok (.iconst 1, 1) := by decide +kernel
theorem dL_school_14 : decode cL_school 14 = .ok (.ireturn, 1) := by decide +kernel
theorem dL_school_15 : decode cL_school 15 = .ok (.iconst 0, 1) := by decide +kernel
theorem dL_school_16 : decode cL_school 16 = .ok (.ireturn, 1) := by decide +kernel
theorem dL_count_0 : decode cL_count 0 = .ok (.aload_n 2, 1) := by decide +kernel
theorem dL_count_1 : decode cL_count 1 = .ok (.iconst 0, 1) := by decide +kernel
theorem dL_count_2 : decode cL_count 2 = .ok (.aload_n 0, 1) := by decide +kernel
theorem dL_count_3 : decode cL_count 3 = .ok (.iload_n 1, 1) := by decide +kernel
theorem dL_count_4 : decode cL_count 4 = .ok (.invokevirtual 15, 3) := by decide +kernel
theorem dL_count_7 : decode cL_count 7 = .ok (.i2l, 1) := by decide +kernel
theorem dL_count_8 : decode cL_count 8 = .ok (.lastore, 1) := by decide +kernel
theorem dL_count_9 : decode cL_count 9 = .ok (.goto 6, 3) := by decide +kernel
theorem dL_count_12 : decode cL_count 12 = .ok (.astore_n 3, 1) := by decide +kernel
theorem dL_count_13 : decode cL_count 13 = .ok (.iconst 1, 1) := by decide +kernel
theorem dL_count_14 : decode cL_count 14 = .ok (.ireturn, 1) := by decide +kernel
theorem dL_count_15 : decode cL_count 15 = .ok (.iconst 0, 1) := by decide +kernel
theorem dL_count_16 : decode cL_count 16 = .ok (.ireturn, 1) := by decide +kernel
theorem dL_piece_0 : decode cL_piece 0 = .ok (.aload_n 3, 1) := by decide +kernel
theorem dL_piece_1 : decode cL_piece 1 = .ok (.iconst 0, 1) := by decide +kernel
theorem dL_piece_2 : decode cL_piece 2 = .ok (.aload_n 0, 1) := by decide +kernel
theorem dL_piece_3 : decode cL_piece 3 = .ok (.iload_n 1, 1) := by decide +kernel
theorem dL_piece_4 : decode cL_piece 4 = .ok (.iload_n 2, 1) := by decide +kernel
theorem dL_piece_5 : decode cL_piece 5 = .ok (.invokevirtual 20, 3) := by decide +kernel
theorem dL_piece_8 : decode cL_piece 8 = .ok (.i2l, 1) := by decide +kernel
theorem dL_piece_9 : decode cL_piece 9 = .ok (.lastore, 1) := by decide +kernel
theorem dL_piece_10 : decode cL_piece 10 = .ok (.goto 7, 3) := by decide +kernel
theorem dL_piece_13 : decode cL_piece 13 = .ok (.astore 4, 2) := by decide +kernel
theorem dL_piece_15 : decode cL_piece 15 = .ok (.iconst 1, 1) := by decide +kernel
theorem dL_piece_16 : decode cL_piece 16 = .ok (.ireturn, 1) := by decide +kernel
theorem dL_piece_17 : decode cL_piece 17 = .ok (.iconst 0, 1) := by decide +kernel
theorem dL_piece_18 : decode cL_piece 18 = .ok (.ireturn, 1) := by decide +kernel
theorem dL_bar_0 : decode cL_bar 0 = .ok (.aload_n 3, 1) := by decide +kernel
theorem dL_bar_1 : decode cL_bar 1 = .ok (.iconst 0, 1) := by decide +kernel
theorem dL_bar_2 : decode cL_bar 2 = .ok (.aload_n 0, 1) := by decide +kernel
theorem dL_bar_3 : decode cL_bar 3 = .ok (.iload_n 1, 1) := by decide +kernel
theorem dL_bar_4 : decode cL_bar 4 = .ok (.iload_n 2, 1) := by decide +kernel
theorem dL_bar_5 : decode cL_bar 5 = .ok (.invokevirtual 24, 3) := by decide +kernel
theorem dL_bar_8 : decode cL_bar 8 = .ok (.i2l, 1) := by decide +kernel
theorem dL_bar_9 : decode cL_bar 9 = .ok (.lastore, 1) := by decide +kernel
theorem dL_bar_10 : decode cL_bar 10 = .ok (.goto 7, 3) := by decide +kernel
theorem dL_bar_13 : decode cL_bar 13 = .ok (.astore 4, 2) := by decide +kernel
theorem dL_bar_15 : decode cL_bar 15 = .ok (.iconst 1, 1) := by decide +kernel
theorem dL_bar_16 : decode cL_bar 16 = .ok (.ireturn, 1) := by decide +kernel
theorem dL_bar_17 : decode cL_bar 17 = .ok (.iconst 0, 1) := by decide +kernel
theorem dL_bar_18 : decode cL_bar 18 = .ok (.ireturn, 1) := by decide +kernel
theorem dL_pupil_0 : decode cL_pupil 0 = .ok (.aload_n 3, 1) := by decide +kernel
theorem dL_pupil_1 : decode cL_pupil 1 = .ok (.iconst 0, 1) := by decide +kernel
theorem dL_pupil_2 : decode cL_pupil 2 = .ok (.aload_n 0, 1) := by decide +kernel
theorem dL_pupil_3 : decode cL_pupil 3 = .ok (.iload_n 1, 1) := by decide +kernel
theorem dL_pupil_4 : decode cL_pupil 4 = .ok (.iload_n 2, 1) := by decide +kernel
theorem dL_pupil_5 : decode cL_pupil 5 = .ok (.invokevirtual 27, 3) := by decide +kernel
theorem dL_pupil_8 : decode cL_pupil 8 = .ok (.i2l, 1) := by decide +kernel
theorem dL_pupil_9 : decode cL_pupil 9 = .ok (.lastore, 1) := by decide +kernel
theorem dL_pupil_10 : decode cL_pupil 10 = .ok (.goto 7, 3) := by decide +kernel
theorem dL_pupil_13 : decode cL_pupil 13 = .ok (.astore 4, 2) := by decide +kernel
theorem dL_pupil_15 : decode cL_pupil 15 = .ok (.iconst 1, 1) := by decide +kernel
theorem dL_pupil_16 : decode cL_pupil 16 = .ok (.ireturn, 1) := by decide +kernel
theorem dL_pupil_17 : decode cL_pupil 17 = .ok (.iconst 0, 1) := by decide +kernel
theorem dL_pupil_18 : decode cL_pupil 18 = .ok (.ireturn, 1) := by decide +kernel
theorem dL_door_0 : decode cL_door 0 = .ok (.aload_n 3, 1) := by decide +kernel
theorem dL_door_1 : decode cL_door 1 = .ok (.iconst 0, 1) := by decide +kernel
theorem dL_door_2 : decode cL_door 2 = .ok (.aload_n 0, 1) := by decide +kernel
theorem dL_door_3 : decode cL_door 3 = .ok (.iload_n 1, 1) := by decide +kernel
theorem dL_door_4 : decode cL_door 4 = .ok (.iload_n 2, 1) := by decide +kernel
theorem dL_door_5 : decode cL_door 5 = .ok (.invokevirtual 30, 3) := by decide +kernel
theorem dL_door_8 : decode cL_door 8 = .ok (.i2l, 1) := by decide +kernel
theorem dL_door_9 : decode cL_door 9 = .ok (.lastore, 1) := by decide +kernel
theorem dL_door_10 : decode cL_door 10 = .ok (.goto 7, 3) := by decide +kernel
theorem dL_door_13 : decode cL_door 13 = .ok (.astore 4, 2) := by decide +kernel
theorem dL_door_15 : decode cL_door 15 = .ok (.iconst 1, 1) := by decide +kernel
theorem dL_door_16 : decode cL_door 16 = .ok (.ireturn, 1) := by decide +kernel
theorem dL_door_17 : decode cL_door 17 = .ok (.iconst 0, 1) := by decide +kernel
theorem dL_door_18 : decode cL_door 18 = .ok (.ireturn, 1) := by decide +kernel
theorem dL_gloves_0 : decode cL_gloves 0 = .ok (.aload_n 3, 1) := by decide +kernel
theorem dL_gloves_1 : decode cL_gloves 1 = .ok (.iconst 0, 1) := by decide +kernel
theorem dL_gloves_2 : decode cL_gloves 2 = .ok (.aload_n 0, 1) := by decide +kernel
theorem dL_gloves_3 : decode cL_gloves 3 = .ok (.iload_n 1, 1) := by decide +kernel
theorem dL_gloves_4 : decode cL_gloves 4 = .ok (.iload_n 2, 1) := by decide +kernel
theorem dL_gloves_5 : decode cL_gloves 5 = .ok (.invokevirtual 33, 3) := by decide +kernel
theorem dL_gloves_8 : decode cL_gloves 8 = .ok (.i2l, 1) := by decide +kernel
theorem dL_gloves_9 : decode cL_gloves 9 = .ok (.lastore, 1) := by decide +kernel
theorem dL_gloves_10 : decode cL_gloves 10 = .ok (.goto 7, 3) := by decide +kernel
theorem dL_gloves_13 : decode cL_gloves 13 = .ok (.astore 4, 2) := by decide +kernel
theorem dL_gloves_15 : decode cL_gloves 15 = .ok (.iconst 1, 1) := by decide +kernel
theorem dL_gloves_16 : decode cL_gloves 16 = .ok (.ireturn, 1) := by decide +kernel
theorem dL_gloves_17 : decode cL_gloves 17 = .ok (.iconst 0, 1) := by decide +kernel
theorem dL_gloves_18 : decode cL_gloves 18 = .ok (.ireturn, 1) := by decide +kernel
theorem dL_begin_0 : decode cL_begin 0 = .ok (.aload_n 3, 1) := by decide +kernel
theorem dL_begin_1 : decode cL_begin 1 = .ok (.iconst 0, 1) := by decide +kernel
theorem dL_begin_2 : decode cL_begin 2 = .ok (.aload_n 0, 1) := by decide +kernel
theorem dL_begin_3 : decode cL_begin 3 = .ok (.iload_n 1, 1) := by decide +kernel
theorem dL_begin_4 : decode cL_begin 4 = .ok (.iload_n 2, 1) := by decide +kernel
theorem dL_begin_5 : decode cL_begin 5 = .ok (.invokevirtual 36, 3) := by decide +kernel
theorem dL_begin_8 : decode cL_begin 8 = .ok (.i2l, 1) := by decide +kernel
theorem dL_begin_9 : decode cL_begin 9 = .ok (.lastore, 1) := by decide +kernel
theorem dL_begin_10 : decode cL_begin 10 = .ok (.goto 7, 3) := by decide +kernel
theorem dL_begin_13 : decode cL_begin 13 = .ok (.astore 4, 2) := by decide +kernel
theorem dL_begin_15 : decode cL_begin 15 = .ok (.iconst 1, 1) := by decide +kernel
theorem dL_begin_16 : decode cL_begin 16 = .ok (.ireturn, 1) := by decide +kernel
theorem dL_begin_17 : decode cL_begin 17 = .ok (.iconst 0, 1) := by decide +kernel
theorem dL_begin_18 : decode cL_begin 18 = .ok (.ireturn, 1) := by decide +kernel
theorem dL_then_0 : decode cL_then 0 = .ok (.aload 4, 2) := by decide +kernel
theorem dL_then_2 : decode cL_then 2 = .ok (.iconst 0, 1) := by decide +kernel
theorem dL_then_3 : decode cL_then 3 = .ok (.aload_n 0, 1) := by decide +kernel
theorem dL_then_4 : decode cL_then 4 = .ok (.iload_n 1, 1) := by decide +kernel
theorem dL_then_5 : decode cL_then 5 = .ok (.iload_n 2, 1) := by decide +kernel
theorem dL_then_6 : decode cL_then 6 = .ok (.iload_n 3, 1) := by decide +kernel
theorem dL_then_7 : decode cL_then 7 = .ok (.invokevirtual 39, 3) := by decide +kernel
theorem dL_then_10 : decode cL_then 10 = .ok (.i2l, 1) := by decide +kernel
theorem dL_then_11 : decode cL_then 11 = .ok (.lastore, 1) := by decide +kernel
theorem dL_then_12 : decode cL_then 12 = .ok (.goto 11, 3) := by decide +kernel
theorem dL_then_15 : decode cL_then 15 = .ok (.astore 5, 2) := by decide +kernel
theorem dL_then_17 : decode cL_then 17 = .ok (.iconst 1, 1) := by decide +kernel
theorem dL_then_18 : decode cL_then 18 = .ok (.ireturn, 1) := by decide +kernel
theorem dL_then_19 : decode cL_then 19 = .ok (.astore 5, 2) := by decide +kernel
theorem dL_then_21 : decode cL_then 21 = .ok (.iconst 2, 1) := by decide +kernel
theorem dL_then_22 : decode cL_then 22 = .ok (.ireturn, 1) := by decide +kernel
theorem dL_then_23 : decode cL_then 23 = .ok (.iconst 0, 1) := by decide +kernel
theorem dL_then_24 : decode cL_then 24 = .ok (.ireturn, 1) := by decide +kernel
theorem dL_done_0 : decode cL_done 0 = .ok (.aload_n 2, 1) := by decide +kernel
theorem dL_done_1 : decode cL_done 1 = .ok (.iconst 0, 1) := by decide +kernel
theorem dL_done_2 : decode cL_done 2 = .ok (.aload_n 0, 1) := by decide +kernel
theorem dL_done_3 : decode cL_done 3 = .ok (.iload_n 1, 1) := by decide +kernel
theorem dL_done_4 : decode cL_done 4 = .ok (.invokevirtual 43, 3) := by decide +kernel
theorem dL_done_7 : decode cL_done 7 = .ok (.i2l, 1) := by decide +kernel
theorem dL_done_8 : decode cL_done 8 = .ok (.lastore, 1) := by decide +kernel
theorem dL_done_9 : decode cL_done 9 = .ok (.goto 6, 3) := by decide +kernel
theorem dL_done_12 : decode cL_done 12 = .ok (.astore_n 3, 1) := by decide +kernel
theorem dL_done_13 : decode cL_done 13 = .ok (.iconst 1, 1) := by decide +kernel
theorem dL_done_14 : decode cL_done 14 = .ok (.ireturn, 1) := by decide +kernel
theorem dL_done_15 : decode cL_done 15 = .ok (.iconst 0, 1) := by decide +kernel
theorem dL_done_16 : decode cL_done 16 = .ok (.ireturn, 1) := by decide +kernel
theorem dL_heard_0 : decode cL_heard 0 = .ok (.aload_n 2, 1) := by decide +kernel
theorem dL_heard_1 : decode cL_heard 1 = .ok (.iconst 0, 1) := by decide +kernel
theorem dL_heard_2 : decode cL_heard 2 = .ok (.aload_n 0, 1) := by decide +kernel
theorem dL_heard_3 : decode cL_heard 3 = .ok (.iload_n 1, 1) := by decide +kernel
theorem dL_heard_4 : decode cL_heard 4 = .ok (.invokevirtual 46, 3) := by decide +kernel
theorem dL_heard_7 : decode cL_heard 7 = .ok (.i2l, 1) := by decide +kernel
theorem dL_heard_8 : decode cL_heard 8 = .ok (.lastore, 1) := by decide +kernel
theorem dL_heard_9 : decode cL_heard 9 = .ok (.goto 6, 3) := by decide +kernel
theorem dL_heard_12 : decode cL_heard 12 = .ok (.astore_n 3, 1) := by decide +kernel
theorem dL_heard_13 : decode cL_heard 13 = .ok (.iconst 1, 1) := by decide +kernel
theorem dL_heard_14 : decode cL_heard 14 = .ok (.ireturn, 1) := by decide +kernel
theorem dL_heard_15 : decode cL_heard 15 = .ok (.iconst 0, 1) := by decide +kernel
theorem dL_heard_16 : decode cL_heard 16 = .ok (.ireturn, 1) := by decide +kernel
theorem dL_best_0 : decode cL_best 0 = .ok (.aload_n 2, 1) := by decide +kernel
theorem dL_best_1 : decode cL_best 1 = .ok (.iconst 0, 1) := by decide +kernel
theorem dL_best_2 : decode cL_best 2 = .ok (.aload_n 0, 1) := by decide +kernel
theorem dL_best_3 : decode cL_best 3 = .ok (.iload_n 1, 1) := by decide +kernel
theorem dL_best_4 : decode cL_best 4 = .ok (.invokevirtual 49, 3) := by decide +kernel
theorem dL_best_7 : decode cL_best 7 = .ok (.i2l, 1) := by decide +kernel
theorem dL_best_8 : decode cL_best 8 = .ok (.lastore, 1) := by decide +kernel
theorem dL_best_9 : decode cL_best 9 = .ok (.goto 6, 3) := by decide +kernel
theorem dL_best_12 : decode cL_best 12 = .ok (.astore_n 3, 1) := by decide +kernel
theorem dL_best_13 : decode cL_best 13 = .ok (.iconst 1, 1) := by decide +kernel
theorem dL_best_14 : decode cL_best 14 = .ok (.ireturn, 1) := by decide +kernel
theorem dL_best_15 : decode cL_best 15 = .ok (.iconst 0, 1) := by decide +kernel
theorem dL_best_16 : decode cL_best 16 = .ok (.ireturn, 1) := by decide +kernel
theorem dL_free_0 : decode cL_free 0 = .ok (.aload_n 2, 1) := by decide +kernel
theorem dL_free_1 : decode cL_free 1 = .ok (.iconst 0, 1) := by decide +kernel
theorem dL_free_2 : decode cL_free 2 = .ok (.aload_n 0, 1) := by decide +kernel
theorem dL_free_3 : decode cL_free 3 = .ok (.iload_n 1, 1) := by decide +kernel
theorem dL_free_4 : decode cL_free 4 = .ok (.invokevirtual 52, 3) := by decide +kernel
theorem dL_free_7 : decode cL_free 7 = .ok (.i2l, 1) := by decide +kernel
theorem dL_free_8 : decode cL_free 8 = .ok (.lastore, 1) := by decide +kernel
theorem dL_free_9 : decode cL_free 9 = .ok (.goto 6, 3) := by decide +kernel
theorem dL_free_12 : decode cL_free 12 = .ok (.astore_n 3, 1) := by decide +kernel
theorem dL_free_13 : decode cL_free 13 = .ok (.iconst 1, 1) := by decide +kernel
theorem dL_free_14 : decode cL_free 14 = .ok (.ireturn, 1) := by decide +kernel
theorem dL_free_15 : decode cL_free 15 = .ok (.iconst 0, 1) := by decide +kernel
theorem dL_free_16 : decode cL_free 16 = .ok (.ireturn, 1) := by decide +kernel
theorem dL_nobody_0 : decode cL_nobody 0 = .ok (.aload_n 2, 1) := by decide +kernel
theorem dL_nobody_1 : decode cL_nobody 1 = .ok (.iconst 0, 1) := by decide +kernel
theorem dL_nobody_2 : decode cL_nobody 2 = .ok (.aload_n 0, 1) := by decide +kernel
theorem dL_nobody_3 : decode cL_nobody 3 = .ok (.iload_n 1, 1) := by decide +kernel
theorem dL_nobody_4 : decode cL_nobody 4 = .ok (.invokevirtual 55, 3) := by decide +kernel
theorem dL_nobody_7 : decode cL_nobody 7 = .ok (.i2l, 1) := by decide +kernel
theorem dL_nobody_8 : decode cL_nobody 8 = .ok (.lastore, 1) := by decide +kernel
theorem dL_nobody_9 : decode cL_nobody 9 = .ok (.goto 6, 3) := by decide +kernel
theorem dL_nobody_12 : decode cL_nobody 12 = .ok (.astore_n 3, 1) := by decide +kernel
theorem dL_nobody_13 : decode cL_nobody 13 = .ok (.iconst 1, 1) := by decide +kernel
theorem dL_nobody_14 : decode cL_nobody 14 = .ok (.ireturn, 1) := by decide +kernel
theorem dL_nobody_15 : decode cL_nobody 15 = .ok (.iconst 0, 1) := by decide +kernel
theorem dL_nobody_16 : decode cL_nobody 16 = .ok (.ireturn, 1) := by decide +kernel
theorem dL_through_0 : decode cL_through 0 = .ok (.aload_n 2, 1) := by decide +kernel
theorem dL_through_1 : decode cL_through 1 = .ok (.iconst 0, 1) := by decide +kernel
theorem dL_through_2 : decode cL_through 2 = .ok (.aload_n 0, 1) := by decide +kernel
theorem dL_through_3 : decode cL_through 3 = .ok (.iload_n 1, 1) := by decide +kernel
theorem dL_through_4 : decode cL_through 4 = .ok (.invokevirtual 58, 3) := by decide +kernel
theorem dL_through_7 : decode cL_through 7 = .ok (.i2l, 1) := by decide +kernel
theorem dL_through_8 : decode cL_through 8 = .ok (.lastore, 1) := by decide +kernel
theorem dL_through_9 : decode cL_through 9 = .ok (.goto 6, 3) := by decide +kernel
theorem dL_through_12 : decode cL_through 12 = .ok (.astore_n 3, 1) := by decide +kernel
theorem dL_through_13 : decode cL_through 13 = .ok (.iconst 1, 1) := by decide +kernel
theorem dL_through_14 : decode cL_through 14 = .ok (.ireturn, 1) := by decide +kernel
theorem dL_through_15 : decode cL_through 15 = .ok (.iconst 0, 1) := by decide +kernel
theorem dL_through_16 : decode cL_through 16 = .ok (.ireturn, 1) := by decide +kernel
theorem dL_toBeDone_0 : decode cL_toBeDone 0 = .ok (.aload_n 3, 1) := by decide +kernel
theorem dL_toBeDone_1 : decode cL_toBeDone 1 = .ok (.iconst 0, 1) := by decide +kernel
theorem dL_toBeDone_2 : decode cL_toBeDone 2 = .ok (.aload_n 0, 1) := by decide +kernel
theorem dL_toBeDone_3 : decode cL_toBeDone 3 = .ok (.iload_n 1, 1) := by decide +kernel
theorem dL_toBeDone_4 : decode cL_toBeDone 4 = .ok (.iload_n 2, 1) := by decide +kernel
theorem dL_toBeDone_5 : decode cL_toBeDone 5 = .ok (.invokevirtual 61, 3) := by decide +kernel
theorem dL_toBeDone_8 : decode cL_toBeDone 8 = .ok (.i2l, 1) := by decide +kernel
theorem dL_toBeDone_9 : decode cL_toBeDone 9 = .ok (.lastore, 1) := by decide +kernel
theorem dL_toBeDone_10 : decode cL_toBeDone 10 = .ok (.goto 11, 3) := by decide +kernel
theorem dL_toBeDone_13 : decode cL_toBeDone 13 = .ok (.astore 4, 2) := by decide +kernel
theorem dL_toBeDone_15 : decode cL_toBeDone 15 = .ok (.iconst 1, 1) := by decide +kernel
theorem dL_toBeDone_16 : decode cL_toBeDone 16 = .ok (.ireturn, 1) := by decide +kernel
theorem dL_toBeDone_17 : decode cL_toBeDone 17 = .ok (.astore 4, 2) := by decide +kernel
theorem dL_toBeDone_19 : decode cL_toBeDone 19 = .ok (.iconst 2, 1) := by decide +kernel
theorem dL_toBeDone_20 : decode cL_toBeDone 20 = .ok (.ireturn, 1) := by decide +kernel
theorem dL_toBeDone_21 : decode cL_toBeDone 21 = .ok (.iconst 0, 1) := by decide +kernel
theorem dL_toBeDone_22 : decode cL_toBeDone 22 = .ok (.ireturn, 1) := by decide +kernel
theorem dL_fits_0 : decode cL_fits 0 = .ok (.aload_n 3, 1) := by decide +kernel
theorem dL_fits_1 : decode cL_fits 1 = .ok (.iconst 0, 1) := by decide +kernel
theorem dL_fits_2 : decode cL_fits 2 = .ok (.aload_n 0, 1) := by decide +kernel
theorem dL_fits_3 : decode cL_fits 3 = .ok (.iload_n 1, 1) := by decide +kernel
theorem dL_fits_4 : decode cL_fits 4 = .ok (.iload_n 2, 1) := by decide +kernel
theorem dL_fits_5 : decode cL_fits 5 = .ok (.invokevirtual 64, 3) := by decide +kernel
theorem dL_fits_8 : decode cL_fits 8 = .ok (.i2l, 1) := by decide +kernel
theorem dL_fits_9 : decode cL_fits 9 = .ok (.lastore, 1) := by decide +kernel
theorem dL_fits_10 : decode cL_fits 10 = .ok (.goto 7, 3) := by decide +kernel
theorem dL_fits_13 : decode cL_fits 13 = .ok (.astore 4, 2) := by decide +kernel
theorem dL_fits_15 : decode cL_fits 15 = .ok (.iconst 1, 1) := by decide +kernel
theorem dL_fits_16 : decode cL_fits 16 = .ok (.ireturn, 1) := by decide +kernel
theorem dL_fits_17 : decode cL_fits 17 = .ok (.iconst 0, 1) := by decide +kernel
theorem dL_fits_18 : decode cL_fits 18 = .ok (.ireturn, 1) := by decide +kernel
theorem dL_repertoire_0 : decode cL_repertoire 0 = .ok (.aload_n 2, 1) := by decide +kernel
theorem dL_repertoire_1 : decode cL_repertoire 1 = .ok (.iconst 0, 1) := by decide +kernel
theorem dL_repertoire_2 : decode cL_repertoire 2 = .ok (.aload_n 0, 1) := by decide +kernel
theorem dL_repertoire_3 : decode cL_repertoire 3 = .ok (.iload_n 1, 1) := by decide +kernel
theorem dL_repertoire_4 : decode cL_repertoire 4 = .ok (.invokevirtual 67, 3) := by decide +kernel
theorem dL_repertoire_7 : decode cL_repertoire 7 = .ok (.i2l, 1) := by decide +kernel
theorem dL_repertoire_8 : decode cL_repertoire 8 = .ok (.lastore, 1) := by decide +kernel
theorem dL_repertoire_9 : decode cL_repertoire 9 = .ok (.goto 6, 3) := by decide +kernel
theorem dL_repertoire_12 : decode cL_repertoire 12 = .ok (.astore_n 3, 1) := by decide +kernel
theorem dL_repertoire_13 : decode cL_repertoire 13 = .ok (.iconst 1, 1) := by decide +kernel
theorem dL_repertoire_14 : decode cL_repertoire 14 = .ok (.ireturn, 1) := by decide +kernel
theorem dL_repertoire_15 : decode cL_repertoire 15 = .ok (.iconst 0, 1) := by decide +kernel
theorem dL_repertoire_16 : decode cL_repertoire 16 = .ok (.ireturn, 1) := by decide +kernel
theorem dL_choice_0 : decode cL_choice 0 = .ok (.aload_n 2, 1) := by decide +kernel
theorem dL_choice_1 : decode cL_choice 1 = .ok (.iconst 0, 1) := by decide +kernel
theorem dL_choice_2 : decode cL_choice 2 = .ok (.aload_n 0, 1) := by decide +kernel
theorem dL_choice_3 : decode cL_choice 3 = .ok (.iload_n 1, 1) := by decide +kernel
theorem dL_choice_4 : decode cL_choice 4 = .ok (.invokevirtual 70, 3) := by decide +kernel
theorem dL_choice_7 : decode cL_choice 7 = .ok (.i2l, 1) := by decide +kernel
theorem dL_choice_8 : decode cL_choice 8 = .ok (.lastore, 1) := by decide +kernel
theorem dL_choice_9 : decode cL_choice 9 = .ok (.goto 6, 3) := by decide +kernel
theorem dL_choice_12 : decode cL_choice 12 = .ok (.astore_n 3, 1) := by decide +kernel
theorem dL_choice_13 : decode cL_choice 13 = .ok (.iconst 1, 1) := by decide +kernel
theorem dL_choice_14 : decode cL_choice 14 = .ok (.ireturn, 1) := by decide +kernel
theorem dL_choice_15 : decode cL_choice 15 = .ok (.iconst 0, 1) := by decide +kernel
theorem dL_choice_16 : decode cL_choice 16 = .ok (.ireturn, 1) := by decide +kernel
theorem dL_concert_0 : decode cL_concert 0 = .ok (.aload_n 3, 1) := by decide +kernel
theorem dL_concert_1 : decode cL_concert 1 = .ok (.iconst 0, 1) := by decide +kernel
theorem dL_concert_2 : decode cL_concert 2 = .ok (.aload_n 0, 1) := by decide +kernel
theorem dL_concert_3 : decode cL_concert 3 = .ok (.iload_n 1, 1) := by decide +kernel
theorem dL_concert_4 : decode cL_concert 4 = .ok (.iload_n 2, 1) := by decide +kernel
theorem dL_concert_5 : decode cL_concert 5 = .ok (.invokevirtual 73, 3) := by decide +kernel
theorem dL_concert_8 : decode cL_concert 8 = .ok (.i2l, 1) := by decide +kernel
theorem dL_concert_9 : decode cL_concert 9 = .ok (.lastore, 1) := by decide +kernel
theorem dL_concert_10 : decode cL_concert 10 = .ok (.goto 7, 3) := by decide +kernel
theorem dL_concert_13 : decode cL_concert 13 = .ok (.astore 4, 2) := by decide +kernel
theorem dL_concert_15 : decode cL_concert 15 = .ok (.iconst 1, 1) := by decide +kernel
theorem dL_concert_16 : decode cL_concert 16 = .ok (.ireturn, 1) := by decide +kernel
theorem dL_concert_17 : decode cL_concert 17 = .ok (.iconst 0, 1) := by decide +kernel
theorem dL_concert_18 : decode cL_concert 18 = .ok (.ireturn, 1) := by decide +kernel
theorem dL_next_0 : decode cL_next 0 = .ok (.aload_n 2, 1) := by decide +kernel
theorem dL_next_1 : decode cL_next 1 = .ok (.iconst 0, 1) := by decide +kernel
theorem dL_next_2 : decode cL_next 2 = .ok (.aload_n 0, 1) := by decide +kernel
theorem dL_next_3 : decode cL_next 3 = .ok (.iload_n 1, 1) := by decide +kernel
theorem dL_next_4 : decode cL_next 4 = .ok (.invokevirtual 76, 3) := by decide +kernel
theorem dL_next_7 : decode cL_next 7 = .ok (.i2l, 1) := by decide +kernel
theorem dL_next_8 : decode cL_next 8 = .ok (.lastore, 1) := by decide +kernel
theorem dL_next_9 : decode cL_next 9 = .ok (.goto 6, 3) := by decide +kernel
theorem dL_next_12 : decode cL_next 12 = .ok (.astore_n 3, 1) := by decide +kernel
theorem dL_next_13 : decode cL_next 13 = .ok (.iconst 1, 1) := by decide +kernel
theorem dL_next_14 : decode cL_next 14 = .ok (.ireturn, 1) := by decide +kernel
theorem dL_next_15 : decode cL_next 15 = .ok (.iconst 0, 1) := by decide +kernel
theorem dL_next_16 : decode cL_next 16 = .ok (.ireturn, 1) := by decide +kernel
theorem dL_rush_0 : decode cL_rush 0 = .ok (.aload_n 3, 1) := by decide +kernel
theorem dL_rush_1 : decode cL_rush 1 = .ok (.iconst 0, 1) := by decide +kernel
theorem dL_rush_2 : decode cL_rush 2 = .ok (.aload_n 0, 1) := by decide +kernel
theorem dL_rush_3 : decode cL_rush 3 = .ok (.iload_n 1, 1) := by decide +kernel
theorem dL_rush_4 : decode cL_rush 4 = .ok (.iload_n 2, 1) := by decide +kernel
theorem dL_rush_5 : decode cL_rush 5 = .ok (.invokevirtual 79, 3) := by decide +kernel
theorem dL_rush_8 : decode cL_rush 8 = .ok (.i2l, 1) := by decide +kernel
theorem dL_rush_9 : decode cL_rush 9 = .ok (.lastore, 1) := by decide +kernel
theorem dL_rush_10 : decode cL_rush 10 = .ok (.goto 11, 3) := by decide +kernel
theorem dL_rush_13 : decode cL_rush 13 = .ok (.astore 4, 2) := by decide +kernel
theorem dL_rush_15 : decode cL_rush 15 = .ok (.iconst 1, 1) := by decide +kernel
theorem dL_rush_16 : decode cL_rush 16 = .ok (.ireturn, 1) := by decide +kernel
theorem dL_rush_17 : decode cL_rush 17 = .ok (.astore 4, 2) := by decide +kernel
theorem dL_rush_19 : decode cL_rush 19 = .ok (.iconst 2, 1) := by decide +kernel
theorem dL_rush_20 : decode cL_rush 20 = .ok (.ireturn, 1) := by decide +kernel
theorem dL_rush_21 : decode cL_rush 21 = .ok (.iconst 0, 1) := by decide +kernel
theorem dL_rush_22 : decode cL_rush 22 = .ok (.ireturn, 1) := by decide +kernel
theorem dL_sorest_0 : decode cL_sorest 0 = .ok (.aload_n 2, 1) := by decide +kernel
theorem dL_sorest_1 : decode cL_sorest 1 = .ok (.iconst 0, 1) := by decide +kernel
theorem dL_sorest_2 : decode cL_sorest 2 = .ok (.aload_n 0, 1) := by decide +kernel
theorem dL_sorest_3 : decode cL_sorest 3 = .ok (.iload_n 1, 1) := by decide +kernel
theorem dL_sorest_4 : decode cL_sorest 4 = .ok (.invokevirtual 82, 3) := by decide +kernel
theorem dL_sorest_7 : decode cL_sorest 7 = .ok (.i2l, 1) := by decide +kernel
theorem dL_sorest_8 : decode cL_sorest 8 = .ok (.lastore, 1) := by decide +kernel
theorem dL_sorest_9 : decode cL_sorest 9 = .ok (.goto 6, 3) := by decide +kernel
theorem dL_sorest_12 : decode cL_sorest 12 = .ok (.astore_n 3, 1) := by decide +kernel
theorem dL_sorest_13 : decode cL_sorest 13 = .ok (.iconst 1, 1) := by decide +kernel
theorem dL_sorest_14 : decode cL_sorest 14 = .ok (.ireturn, 1) := by decide +kernel
theorem dL_sorest_15 : decode cL_sorest 15 = .ok (.iconst 0, 1) := by decide +kernel
theorem dL_sorest_16 : decode cL_sorest 16 = .ok (.ireturn, 1) := by decide +kernel
theorem dL_toGlove_0 : decode cL_toGlove 0 = .ok (.aload_n 2, 1) := by decide +kernel
theorem dL_toGlove_1 : decode cL_toGlove 1 = .ok (.iconst 0, 1) := by decide +kernel
theorem dL_toGlove_2 : decode cL_toGlove 2 = .ok (.aload_n 0, 1) := by decide +kernel
theorem dL_toGlove_3 : decode cL_toGlove 3 = .ok (.iload_n 1, 1) := by decide +kernel
theorem dL_toGlove_4 : decode cL_toGlove 4 = .ok (.invokevirtual 85, 3) := by decide +kernel
theorem dL_toGlove_7 : decode cL_toGlove 7 = .ok (.i2l, 1) := by decide +kernel
theorem dL_toGlove_8 : decode cL_toGlove 8 = .ok (.lastore, 1) := by decide +kernel
theorem dL_toGlove_9 : decode cL_toGlove 9 = .ok (.goto 6, 3) := by decide +kernel
theorem dL_toGlove_12 : decode cL_toGlove 12 = .ok (.astore_n 3, 1) := by decide +kernel
theorem dL_toGlove_13 : decode cL_toGlove 13 = .ok (.iconst 1, 1) := by decide +kernel
theorem dL_toGlove_14 : decode cL_toGlove 14 = .ok (.ireturn, 1) := by decide +kernel
theorem dL_toGlove_15 : decode cL_toGlove 15 = .ok (.iconst 0, 1) := by decide +kernel
theorem dL_toGlove_16 : decode cL_toGlove 16 = .ok (.ireturn, 1) := by decide +kernel
theorem dL_full_0 : decode cL_full 0 = .ok (.aload_n 2, 1) := by decide +kernel
theorem dL_full_1 : decode cL_full 1 = .ok (.iconst 0, 1) := by decide +kernel
theorem dL_full_2 : decode cL_full 2 = .ok (.aload_n 0, 1) := by decide +kernel
theorem dL_full_3 : decode cL_full 3 = .ok (.iload_n 1, 1) := by decide +kernel
theorem dL_full_4 : decode cL_full 4 = .ok (.invokevirtual 88, 3) := by decide +kernel
theorem dL_full_7 : decode cL_full 7 = .ok (.i2l, 1) := by decide +kernel
theorem dL_full_8 : decode cL_full 8 = .ok (.lastore, 1) := by decide +kernel
theorem dL_full_9 : decode cL_full 9 = .ok (.goto 6, 3) := by decide +kernel
theorem dL_full_12 : decode cL_full 12 = .ok (.astore_n 3, 1) := by decide +kernel
theorem dL_full_13 : decode cL_full 13 = .ok (.iconst 1, 1) := by decide +kernel
theorem dL_full_14 : decode cL_full 14 = .ok (.ireturn, 1) := by decide +kernel
theorem dL_full_15 : decode cL_full 15 = .ok (.iconst 0, 1) := by decide +kernel
theorem dL_full_16 : decode cL_full 16 = .ok (.ireturn, 1) := by decide +kernel
theorem dL_empty_0 : decode cL_empty 0 = .ok (.aload_n 2, 1) := by decide +kernel
theorem dL_empty_1 : decode cL_empty 1 = .ok (.iconst 0, 1) := by decide +kernel
theorem dL_empty_2 : decode cL_empty 2 = .ok (.aload_n 0, 1) := by decide +kernel
theorem dL_empty_3 : decode cL_empty 3 = .ok (.iload_n 1, 1) := by decide +kernel
theorem dL_empty_4 : decode cL_empty 4 = .ok (.invokevirtual 91, 3) := by decide +kernel
theorem dL_empty_7 : decode cL_empty 7 = .ok (.i2l, 1) := by decide +kernel
theorem dL_empty_8 : decode cL_empty 8 = .ok (.lastore, 1) := by decide +kernel
theorem dL_empty_9 : decode cL_empty 9 = .ok (.goto 6, 3) := by decide +kernel
theorem dL_empty_12 : decode cL_empty 12 = .ok (.astore_n 3, 1) := by decide +kernel
theorem dL_empty_13 : decode cL_empty 13 = .ok (.iconst 1, 1) := by decide +kernel
theorem dL_empty_14 : decode cL_empty 14 = .ok (.ireturn, 1) := by decide +kernel
theorem dL_empty_15 : decode cL_empty 15 = .ok (.iconst 0, 1) := by decide +kernel
theorem dL_empty_16 : decode cL_empty 16 = .ok (.ireturn, 1) := by decide +kernel
theorem dL_common_0 : decode cL_common 0 = .ok (.aload_n 3, 1) := by decide +kernel
theorem dL_common_1 : decode cL_common 1 = .ok (.iconst 0, 1) := by decide +kernel
theorem dL_common_2 : decode cL_common 2 = .ok (.aload_n 0, 1) := by decide +kernel
theorem dL_common_3 : decode cL_common 3 = .ok (.iload_n 1, 1) := by decide +kernel
theorem dL_common_4 : decode cL_common 4 = .ok (.iload_n 2, 1) := by decide +kernel
theorem dL_common_5 : decode cL_common 5 = .ok (.invokevirtual 94, 3) := by decide +kernel
theorem dL_common_8 : decode cL_common 8 = .ok (.i2l, 1) := by decide +kernel
theorem dL_common_9 : decode cL_common 9 = .ok (.lastore, 1) := by decide +kernel
theorem dL_common_10 : decode cL_common 10 = .ok (.goto 7, 3) := by decide +kernel
theorem dL_common_13 : decode cL_common 13 = .ok (.astore 4, 2) := by decide +kernel
theorem dL_common_15 : decode cL_common 15 = .ok (.iconst 1, 1) := by decide +kernel
theorem dL_common_16 : decode cL_common 16 = .ok (.ireturn, 1) := by decide +kernel
theorem dL_common_17 : decode cL_common 17 = .ok (.iconst 0, 1) := by decide +kernel
theorem dL_common_18 : decode cL_common 18 = .ok (.ireturn, 1) := by decide +kernel
theorem dL_work_0 : decode cL_work 0 = .ok (.aload_n 2, 1) := by decide +kernel
theorem dL_work_1 : decode cL_work 1 = .ok (.iconst 0, 1) := by decide +kernel
theorem dL_work_2 : decode cL_work 2 = .ok (.aload_n 0, 1) := by decide +kernel
theorem dL_work_3 : decode cL_work 3 = .ok (.iload_n 1, 1) := by decide +kernel
theorem dL_work_4 : decode cL_work 4 = .ok (.invokevirtual 97, 3) := by decide +kernel
theorem dL_work_7 : decode cL_work 7 = .ok (.i2l, 1) := by decide +kernel
theorem dL_work_8 : decode cL_work 8 = .ok (.lastore, 1) := by decide +kernel
theorem dL_work_9 : decode cL_work 9 = .ok (.goto 6, 3) := by decide +kernel
theorem dL_work_12 : decode cL_work 12 = .ok (.astore_n 3, 1) := by decide +kernel
theorem dL_work_13 : decode cL_work 13 = .ok (.iconst 1, 1) := by decide +kernel
theorem dL_work_14 : decode cL_work 14 = .ok (.ireturn, 1) := by decide +kernel
theorem dL_work_15 : decode cL_work 15 = .ok (.iconst 0, 1) := by decide +kernel
theorem dL_work_16 : decode cL_work 16 = .ok (.ireturn, 1) := by decide +kernel
theorem dL_mates_0 : decode cL_mates 0 = .ok (.aload_n 2, 1) := by decide +kernel
theorem dL_mates_1 : decode cL_mates 1 = .ok (.iconst 0, 1) := by decide +kernel
theorem dL_mates_2 : decode cL_mates 2 = .ok (.aload_n 0, 1) := by decide +kernel
theorem dL_mates_3 : decode cL_mates 3 = .ok (.iload_n 1, 1) := by decide +kernel
theorem dL_mates_4 : decode cL_mates 4 = .ok (.invokevirtual 100, 3) := by decide +kernel
theorem dL_mates_7 : decode cL_mates 7 = .ok (.i2l, 1) := by decide +kernel
theorem dL_mates_8 : decode cL_mates 8 = .ok (.lastore, 1) := by decide +kernel
theorem dL_mates_9 : decode cL_mates 9 = .ok (.goto 6, 3) := by decide +kernel
theorem dL_mates_12 : decode cL_mates 12 = .ok (.astore_n 3, 1) := by decide +kernel
theorem dL_mates_13 : decode cL_mates 13 = .ok (.iconst 1, 1) := by decide +kernel
theorem dL_mates_14 : decode cL_mates 14 = .ok (.ireturn, 1) := by decide +kernel
theorem dL_mates_15 : decode cL_mates 15 = .ok (.iconst 0, 1) := by decide +kernel
theorem dL_mates_16 : decode cL_mates 16 = .ok (.ireturn, 1) := by decide +kernel
theorem dL_see_0 : decode cL_see 0 = .ok (.aload 4, 2) := by decide +kernel
theorem dL_see_2 : decode cL_see 2 = .ok (.iconst 0, 1) := by decide +kernel
theorem dL_see_3 : decode cL_see 3 = .ok (.aload_n 0, 1) := by decide +kernel
theorem dL_see_4 : decode cL_see 4 = .ok (.iload_n 1, 1) := by decide +kernel
theorem dL_see_5 : decode cL_see 5 = .ok (.iload_n 2, 1) := by decide +kernel
theorem dL_see_6 : decode cL_see 6 = .ok (.iload_n 3, 1) := by decide +kernel
theorem dL_see_7 : decode cL_see 7 = .ok (.invokevirtual 103, 3) := by decide +kernel
theorem dL_see_10 : decode cL_see 10 = .ok (.i2l, 1) := by decide +kernel
theorem dL_see_11 : decode cL_see 11 = .ok (.lastore, 1) := by decide +kernel
theorem dL_see_12 : decode cL_see 12 = .ok (.goto 7, 3) := by decide +kernel
theorem dL_see_15 : decode cL_see 15 = .ok (.astore 5, 2) := by decide +kernel
theorem dL_see_17 : decode cL_see 17 = .ok (.iconst 1, 1) := by decide +kernel
theorem dL_see_18 : decode cL_see 18 = .ok (.ireturn, 1) := by decide +kernel
theorem dL_see_19 : decode cL_see 19 = .ok (.iconst 0, 1) := by decide +kernel
theorem dL_see_20 : decode cL_see 20 = .ok (.ireturn, 1) := by decide +kernel
theorem dL_been_0 : decode cL_been 0 = .ok (.aload_n 2, 1) := by decide +kernel
theorem dL_been_1 : decode cL_been 1 = .ok (.iconst 0, 1) := by decide +kernel
theorem dL_been_2 : decode cL_been 2 = .ok (.aload_n 0, 1) := by decide +kernel
theorem dL_been_3 : decode cL_been 3 = .ok (.iload_n 1, 1) := by decide +kernel
theorem dL_been_4 : decode cL_been 4 = .ok (.invokevirtual 106, 3) := by decide +kernel
theorem dL_been_7 : decode cL_been 7 = .ok (.i2l, 1) := by decide +kernel
theorem dL_been_8 : decode cL_been 8 = .ok (.lastore, 1) := by decide +kernel
theorem dL_been_9 : decode cL_been 9 = .ok (.goto 6, 3) := by decide +kernel
theorem dL_been_12 : decode cL_been 12 = .ok (.astore_n 3, 1) := by decide +kernel
theorem dL_been_13 : decode cL_been 13 = .ok (.iconst 1, 1) := by decide +kernel
theorem dL_been_14 : decode cL_been 14 = .ok (.ireturn, 1) := by decide +kernel
theorem dL_been_15 : decode cL_been 15 = .ok (.iconst 0, 1) := by decide +kernel
theorem dL_been_16 : decode cL_been 16 = .ok (.ireturn, 1) := by decide +kernel
theorem dL_listen_0 : decode cL_listen 0 = .ok (.aload_n 2, 1) := by decide +kernel
theorem dL_listen_1 : decode cL_listen 1 = .ok (.iconst 0, 1) := by decide +kernel
theorem dL_listen_2 : decode cL_listen 2 = .ok (.aload_n 0, 1) := by decide +kernel
theorem dL_listen_3 : decode cL_listen 3 = .ok (.iload_n 1, 1) := by decide +kernel
theorem dL_listen_4 : decode cL_listen 4 = .ok (.invokevirtual 109, 3) := by decide +kernel
theorem dL_listen_7 : decode cL_listen 7 = .ok (.i2l, 1) := by decide +kernel
theorem dL_listen_8 : decode cL_listen 8 = .ok (.lastore, 1) := by decide +kernel
theorem dL_listen_9 : decode cL_listen 9 = .ok (.goto 6, 3) := by decide +kernel
theorem dL_listen_12 : decode cL_listen 12 = .ok (.astore_n 3, 1) := by decide +kernel
theorem dL_listen_13 : decode cL_listen 13 = .ok (.iconst 1, 1) := by decide +kernel
theorem dL_listen_14 : decode cL_listen 14 = .ok (.ireturn, 1) := by decide +kernel
theorem dL_listen_15 : decode cL_listen 15 = .ok (.iconst 0, 1) := by decide +kernel
theorem dL_listen_16 : decode cL_listen 16 = .ok (.ireturn, 1) := by decide +kernel
theorem dL_game_0 : decode cL_game 0 = .ok (.aload 4, 2) := by decide +kernel
theorem dL_game_2 : decode cL_game 2 = .ok (.iconst 0, 1) := by decide +kernel
theorem dL_game_3 : decode cL_game 3 = .ok (.aload_n 0, 1) := by decide +kernel
theorem dL_game_4 : decode cL_game 4 = .ok (.iload_n 1, 1) := by decide +kernel
theorem dL_game_5 : decode cL_game 5 = .ok (.iload_n 2, 1) := by decide +kernel
theorem dL_game_6 : decode cL_game 6 = .ok (.iload_n 3, 1) := by decide +kernel
theorem dL_game_7 : decode cL_game 7 = .ok (.invokevirtual 112, 3) := by decide +kernel
theorem dL_game_10 : decode cL_game 10 = .ok (.i2l, 1) := by decide +kernel
theorem dL_game_11 : decode cL_game 11 = .ok (.lastore, 1) := by decide +kernel
theorem dL_game_12 : decode cL_game 12 = .ok (.goto 11, 3) := by decide +kernel
theorem dL_game_15 : decode cL_game 15 = .ok (.astore 5, 2) := by decide +kernel
theorem dL_game_17 : decode cL_game 17 = .ok (.iconst 1, 1) := by decide +kernel
theorem dL_game_18 : decode cL_game 18 = .ok (.ireturn, 1) := by decide +kernel
theorem dL_game_19 : decode cL_game 19 = .ok (.astore 5, 2) := by decide +kernel
theorem dL_game_21 : decode cL_game 21 = .ok (.iconst 2, 1) := by decide +kernel
theorem dL_game_22 : decode cL_game 22 = .ok (.ireturn, 1) := by decide +kernel
theorem dL_game_23 : decode cL_game 23 = .ok (.iconst 0, 1) := by decide +kernel
theorem dL_game_24 : decode cL_game 24 = .ok (.ireturn, 1) := by decide +kernel
theorem dL_years_0 : decode cL_years 0 = .ok (.aload 4, 2) := by decide +kernel
theorem dL_years_2 : decode cL_years 2 = .ok (.iconst 0, 1) := by decide +kernel
theorem dL_years_3 : decode cL_years 3 = .ok (.aload_n 0, 1) := by decide +kernel
theorem dL_years_4 : decode cL_years 4 = .ok (.iload_n 1, 1) := by decide +kernel
theorem dL_years_5 : decode cL_years 5 = .ok (.iload_n 2, 1) := by decide +kernel
theorem dL_years_6 : decode cL_years 6 = .ok (.iload_n 3, 1) := by decide +kernel
theorem dL_years_7 : decode cL_years 7 = .ok (.invokevirtual 115, 3) := by decide +kernel
theorem dL_years_10 : decode cL_years 10 = .ok (.i2l, 1) := by decide +kernel
theorem dL_years_11 : decode cL_years 11 = .ok (.lastore, 1) := by decide +kernel
theorem dL_years_12 : decode cL_years 12 = .ok (.goto 11, 3) := by decide +kernel
theorem dL_years_15 : decode cL_years 15 = .ok (.astore 5, 2) := by decide +kernel
theorem dL_years_17 : decode cL_years 17 = .ok (.iconst 1, 1) := by decide +kernel
theorem dL_years_18 : decode cL_years 18 = .ok (.ireturn, 1) := by decide +kernel
theorem dL_years_19 : decode cL_years 19 = .ok (.astore 5, 2) := by decide +kernel
theorem dL_years_21 : decode cL_years 21 = .ok (.iconst 2, 1) := by decide +kernel
theorem dL_years_22 : decode cL_years 22 = .ok (.ireturn, 1) := by decide +kernel
theorem dL_years_23 : decode cL_years 23 = .ok (.iconst 0, 1) := by decide +kernel
theorem dL_years_24 : decode cL_years 24 = .ok (.ireturn, 1) := by decide +kernel
