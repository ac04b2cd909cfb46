/-! DECODE ROWS of the law's wrappers (printed) -/
theorem dL_come_0 : decode cL_come 0 = .ok (.aload 4, 2) := by decide +kernel
theorem dL_come_2 : decode cL_come 2 = .ok (.iconst 0, 1) := by decide +kernel
theorem dL_come_3 : decode cL_come 3 = .ok (.aload_n 0, 1) := by decide +kernel
theorem dL_come_4 : decode cL_come 4 = .ok (.iload_n 1, 1) := by decide +kernel
theorem dL_come_5 : decode cL_come 5 = .ok (.iload_n 2, 1) := by decide +kernel
theorem dL_come_6 : decode cL_come 6 = .ok (.iload_n 3, 1) := by decide +kernel
theorem dL_come_7 : decode cL_come 7 = .ok (.invokevirtual 7, 3) := by decide +kernel
theorem dL_come_10 : decode cL_come 10 = .ok (.i2l, 1) := by decide +kernel
theorem dL_come_11 : decode cL_come 11 = .ok (.lastore, 1) := by decide +kernel
theorem dL_come_12 : decode cL_come 12 = .ok (.goto 7, 3) := by decide +kernel
theorem dL_come_15 : decode cL_come 15 = .ok (.astore 5, 2) := by decide +kernel
theorem dL_come_17 : decode cL_come 17 = .ok (.iconst 1, 1) := by decide +kernel
theorem dL_come_18 : decode cL_come 18 = .ok (.ireturn, 1) := by decide +kernel
theorem dL_come_19 : decode cL_come 19 = .ok (.iconst 0, 1) := by decide +kernel
theorem dL_come_20 : decode cL_come 20 = .ok (.ireturn, 1) := by decide +kernel
theorem dL_leave_0 : decode cL_leave 0 = .ok (.aload_n 2, 1) := by decide +kernel
theorem dL_leave_1 : decode cL_leave 1 = .ok (.iconst 0, 1) := by decide +kernel
theorem dL_leave_2 : decode cL_leave 2 = .ok (.aload_n 0, 1) := by decide +kernel
theorem dL_leave_3 : decode cL_leave 3 = .ok (.iload_n 1, 1) := by decide +kernel
theorem dL_leave_4 : decode cL_leave 4 = .ok (.invokevirtual 15, 3) := by decide +kernel
theorem dL_leave_7 : decode cL_leave 7 = .ok (.i2l, 1) := by decide +kernel
theorem dL_leave_8 : decode cL_leave 8 = .ok (.lastore, 1) := by decide +kernel
theorem dL_leave_9 : decode cL_leave 9 = .ok (.goto 6, 3) := by decide +kernel
theorem dL_leave_12 : decode cL_leave 12 = .ok (.astore_n 3, 1) := by decide +kernel
theorem dL_leave_13 : decode cL_leave 13 = .ok (.iconst 1, 1) := by decide +kernel
theorem dL_leave_14 : decode cL_leave 14 = .ok (.ireturn, 1) := by decide +kernel
theorem dL_leave_15 : decode cL_leave 15 = .ok (.iconst 0, 1) := by decide +kernel
theorem dL_leave_16 : decode cL_leave 16 = .ok (.ireturn, 1) := by decide +kernel
theorem dL_visit_0 : decode cL_visit 0 = .ok (.aload_n 3, 1) := by decide +kernel
theorem dL_visit_1 : decode cL_visit 1 = .ok (.iconst 0, 1) := by decide +kernel
theorem dL_visit_2 : decode cL_visit 2 = .ok (.aload_n 0, 1) := by decide +kernel
theorem dL_visit_3 : decode cL_visit 3 = .ok (.iload_n 1, 1) := by decide +kernel
theorem dL_visit_4 : decode cL_visit 4 = .ok (.iload_n 2, 1) := by decide +kernel
theorem dL_visit_5 : decode cL_visit 5 = .ok (.invokevirtual 21, 3) := by decide +kernel
theorem dL_visit_8 : decode cL_visit 8 = .ok (.i2l, 1) := by decide +kernel
theorem dL_visit_9 : decode cL_visit 9 = .ok (.lastore, 1) := by decide +kernel
theorem dL_visit_10 : decode cL_visit 10 = .ok (.goto 11, 3) := by decide +kernel
theorem dL_visit_13 : decode cL_visit 13 = .ok (.astore 4, 2) := by decide +kernel
theorem dL_visit_15 : decode cL_visit 15 = .ok (.iconst 1, 1) := by decide +kernel
theorem dL_visit_16 : decode cL_visit 16 = .ok (.ireturn, 1) := by decide +kernel
theorem dL_visit_17 : decode cL_visit 17 = .ok (.astore 4, 2) := by decide +kernel
theorem dL_visit_19 : decode cL_visit 19 = .ok (.iconst 2, 1) := by decide +kernel
theorem dL_visit_20 : decode cL_visit 20 = .ok (.ireturn, 1) := by decide +kernel
theorem dL_visit_21 : decode cL_visit 21 = .ok (.iconst 0, 1) := by decide +kernel
theorem dL_visit_22 : decode cL_visit 22 = .ok (.ireturn, 1) := by decide +kernel
theorem dL_of_0 : decode cL_of 0 = .ok (.aload_n 3, 1) := by decide +kernel
theorem dL_of_1 : decode cL_of 1 = .ok (.iconst 0, 1) := by decide +kernel
theorem dL_of_2 : decode cL_of 2 = .ok (.aload_n 0, 1) := by decide +kernel
theorem dL_of_3 : decode cL_of 3 = .ok (.iload_n 1, 1) := by decide +kernel
theorem dL_of_4 : decode cL_of 4 = .ok (.iload_n 2, 1) := by decide +kernel
theorem dL_of_5 : decode cL_of 5 = .ok (.invokevirtual 25, 3) := by decide +kernel
theorem dL_of_8 : decode cL_of 8 = .ok (.i2l, 1) := by decide +kernel
theorem dL_of_9 : decode cL_of 9 = .ok (.lastore, 1) := by decide +kernel
theorem dL_of_10 : decode cL_of 10 = .ok (.goto 11, 3) := by decide +kernel
theorem dL_of_13 : decode cL_of 13 = .ok (.astore 4, 2) := by decide +kernel
theorem dL_of_15 : decode cL_of 15 = .ok (.iconst 1, 1) := by decide +kernel
theorem dL_of_16 : decode cL_of 16 = .ok (.ireturn, 1) := by decide +kernel
theorem dL_of_17 : decode cL_of 17 = .ok (.astore 4, 2) := by decide +kernel
theorem dL_of_19 : decode cL_of 19 = .ok (.iconst 2, 1) := by decide +kernel
theorem dL_of_20 : decode cL_of 20 = .ok (.ireturn, 1) := by decide +kernel
theorem dL_of_21 : decode cL_of 21 = .ok (.iconst 0, 1) := by decide +kernel
theorem dL_of_22 : decode cL_of 22 = .ok (.ireturn, 1) := by decide +kernel
theorem dL_sign_0 : decode cL_sign 0 = .ok (.aload 4, 2) := by decide +kernel
theorem dL_sign_2 : decode cL_sign 2 = .ok (.iconst 0, 1) := by decide +kernel
theorem dL_sign_3 : decode cL_sign 3 = .ok (.aload_n 0, 1) := by decide +kernel
theorem dL_sign_4 : decode cL_sign 4 = .ok (.iload_n 1, 1) := by decide +kernel
theorem dL_sign_5 : decode cL_sign 5 = .ok (.iload_n 2, 1) := by decide +kernel
theorem dL_sign_6 : decode cL_sign 6 = .ok (.iload_n 3, 1) := by decide +kernel
theorem dL_sign_7 : decode cL_sign 7 = .ok (.invokevirtual 28, 3) := by decide +kernel
theorem dL_sign_10 : decode cL_sign 10 = .ok (.i2l, 1) := by decide +kernel
theorem dL_sign_11 : decode cL_sign 11 = .ok (.lastore, 1) := by decide +kernel
theorem dL_sign_12 : decode cL_sign 12 = .ok (.goto 11, 3) := by decide +kernel
theorem dL_sign_15 : decode cL_sign 15 = .ok (.astore 5, 2) := by decide +kernel
theorem dL_sign_17 : decode cL_sign 17 = .ok (.iconst 1, 1) := by decide +kernel
theorem dL_sign_18 : decode cL_sign 18 = .ok (.ireturn, 1) := by decide +kernel
theorem dL_sign_19 : decode cL_sign 19 = .ok (.astore 5, 2) := by decide +kernel
theorem dL_sign_21 : decode cL_sign 21 = .ok (.iconst 2, 1) := by decide +kernel
theorem dL_sign_22 : decode cL_sign 22 = .ok (.ireturn, 1) := by decide +kernel
theorem dL_sign_23 : decode cL_sign 23 = .ok (.iconst 0, 1) := by decide +kernel
theorem dL_sign_24 : decode cL_sign 24 = .ok (.ireturn, 1) := by decide +kernel
theorem dL_order_0 : decode cL_order 0 = .ok (.aload_n 3, 1) := by decide +kernel
theorem dL_order_1 : decode cL_order 1 = .ok (.iconst 0, 1) := by decide +kernel
theorem dL_order_2 : decode cL_order 2 = .ok (.aload_n 0, 1) := by decide +kernel
theorem dL_order_3 : decode cL_order 3 = .ok (.iload_n 1, 1) := by decide +kernel
theorem dL_order_4 : decode cL_order 4 = .ok (.iload_n 2, 1) := by decide +kernel
theorem dL_order_5 : decode cL_order 5 = .ok (.invokevirtual 32, 3) := by decide +kernel
theorem dL_order_8 : decode cL_order 8 = .ok (.i2l, 1) := by decide +kernel
theorem dL_order_9 : decode cL_order 9 = .ok (.lastore, 1) := by decide +kernel
theorem dL_order_10 : decode cL_order 10 = .ok (.goto 11, 3) := by decide +kernel
theorem dL_order_13 : decode cL_order 13 = .ok (.astore 4, 2) := by decide +kernel
theorem dL_order_15 : decode cL_order 15 = .ok (.iconst 1, 1) := by decide +kernel
theorem dL_order_16 : decode cL_order 16 = .ok (.ireturn, 1) := by decide +kernel
theorem dL_order_17 : decode cL_order 17 = .ok (.astore 4, 2) := by decide +kernel
theorem dL_order_19 : decode cL_order 19 = .ok (.iconst 2, 1) := by decide +kernel
theorem dL_order_20 : decode cL_order 20 = .ok (.ireturn, 1) := by decide +kernel
theorem dL_order_21 : decode cL_order 21 = .ok (.iconst 0, 1) := by decide +kernel
theorem dL_order_22 : decode cL_order 22 = .ok (.ireturn, 1) := by decide +kernel
theorem dL_holds_0 : decode cL_holds 0 = .ok (.aload_n 3, 1) := by decide +kernel
theorem dL_holds_1 : decode cL_holds 1 = .ok (.iconst 0, 1) := by decide +kernel
theorem dL_holds_2 : decode cL_holds 2 = .ok (.aload_n 0, 1) := by decide +kernel
theorem dL_holds_3 : decode cL_holds 3 = .ok (.iload_n 1, 1) := by decide +kernel
theorem dL_holds_4 : decode cL_holds 4 = .ok (.iload_n 2, 1) := by decide +kernel
theorem dL_holds_5 : decode cL_holds 5 = .ok (.invokevirtual 35, 3) := by decide +kernel
theorem dL_holds_8 : decode cL_holds 8 = .ok (.ifCond .eq 7, 3) := by decide +kernel
theorem dL_holds_11 : decode cL_holds 11 = .ok (.lconst 1, 1) := by decide +kernel
theorem dL_holds_12 : decode cL_holds 12 = .ok (.goto 4, 3) := by decide +kernel
theorem dL_holds_15 : decode cL_holds 15 = .ok (.lconst 0, 1) := by decide +kernel
theorem dL_holds_16 : decode cL_holds 16 = .ok (.lastore, 1) := by decide +kernel
theorem dL_holds_17 : decode cL_holds 17 = .ok (.goto 11, 3) := by decide +kernel
theorem dL_holds_20 : decode cL_holds 20 = .ok (.astore 4, 2) := by decide +kernel
theorem dL_holds_22 : decode cL_holds 22 = .ok (.iconst 1, 1) := by decide +kernel
theorem dL_holds_23 : decode cL_holds 23 = .ok (.ireturn, 1) := by decide +kernel
theorem dL_holds_24 : decode cL_holds 24 = .ok (.astore 4, 2) := by decide +kernel
theorem dL_holds_26 : decode cL_holds 26 = .ok (.iconst 2, 1) := by decide +kernel
theorem dL_holds_27 : decode cL_holds 27 = .ok (.ireturn, 1) := by decide +kernel
theorem dL_holds_28 : decode cL_holds 28 = .ok (.iconst 0, 1) := by decide +kernel
theorem dL_holds_29 : decode cL_holds 29 = .ok (.ireturn, 1) := by decide +kernel
theorem dL_set_0 : decode cL_set 0 = .ok (.aload_n 3, 1) := by decide +kernel
theorem dL_set_1 : decode cL_set 1 = .ok (.iconst 0, 1) := by decide +kernel
theorem dL_set_2 : decode cL_set 2 = .ok (.aload_n 0, 1) := by decide +kernel
theorem dL_set_3 : decode cL_set 3 = .ok (.iload_n 1, 1) := by decide +kernel
theorem dL_set_4 : decode cL_set 4 = .ok (.iload_n 2, 1) := by decide +kernel
theorem dL_set_5 : decode cL_set 5 = .ok (.invokevirtual 39, 3) := by decide +kernel
theorem dL_set_8 : decode cL_set 8 = .ok (.i2l, 1) := by decide +kernel
theorem dL_set_9 : decode cL_set 9 = .ok (.lastore, 1) := by decide +kernel
theorem dL_set_10 : decode cL_set 10 = .ok (.goto 7, 3) := by decide +kernel
theorem dL_set_13 : decode cL_set 13 = .ok (.astore 4, 2) := by decide +kernel
theorem dL_set_15 : decode cL_set 15 = .ok (.iconst 1, 1) := by decide +kernel
theorem dL_set_16 : decode cL_set 16 = .ok (.ireturn, 1) := by decide +kernel
theorem dL_set_17 : decode cL_set 17 = .ok (.iconst 0, 1) := by decide +kernel
theorem dL_set_18 : decode cL_set 18 = .ok (.ireturn, 1) := by decide +kernel
theorem dL_years_0 : decode cL_years 0 = .ok (.aload_n 2, 1) := by decide +kernel
theorem dL_years_1 : decode cL_years 1 = .ok (.iconst 0, 1) := by decide +kernel
theorem dL_years_2 : decode cL_years 2 = .ok (.aload_n 0, 1) := by decide +kernel
theorem dL_years_3 : decode cL_years 3 = .ok (.iload_n 1, 1) := by decide +kernel
theorem dL_years_4 : decode cL_years 4 = .ok (.invokevirtual 42, 3) := by decide +kernel
theorem dL_years_7 : decode cL_years 7 = .ok (.i2l, 1) := by decide +kernel
theorem dL_years_8 : decode cL_years 8 = .ok (.lastore, 1) := by decide +kernel
theorem dL_years_9 : decode cL_years 9 = .ok (.goto 9, 3) := by decide +kernel
theorem dL_years_12 : decode cL_years 12 = .ok (.astore_n 3, 1) := by decide +kernel
theorem dL_years_13 : decode cL_years 13 = .ok (.iconst 1, 1) := by decide +kernel
theorem dL_years_14 : decode cL_years 14 = .ok (.ireturn, 1) := by decide +kernel
theorem dL_years_15 : decode cL_years 15 = .ok (.astore_n 3, 1) := by decide +kernel
theorem dL_years_16 : decode cL_years 16 = .ok (.iconst 2, 1) := by decide +kernel
theorem dL_years_17 : decode cL_years 17 = .ok (.ireturn, 1) := by decide +kernel
theorem dL_years_18 : decode cL_years 18 = .ok (.iconst 0, 1) := by decide +kernel
theorem dL_years_19 : decode cL_years 19 = .ok (.ireturn, 1) := by decide +kernel
theorem dL_law_0 : decode cL_law 0 = .ok (.aload_n 2, 1) := by decide +kernel
theorem dL_law_1 : decode cL_law 1 = .ok (.iconst 0, 1) := by decide +kernel
theorem dL_law_2 : decode cL_law 2 = .ok (.aload_n 0, 1) := by decide +kernel
theorem dL_law_3 : decode cL_law 3 = .ok (.iload_n 1, 1) := by decide +kernel
theorem dL_law_4 : decode cL_law 4 = .ok (.invokevirtual 47, 3) := by decide +kernel
theorem dL_law_7 : decode cL_law 7 = .ok (.i2l, 1) := by decide +kernel
theorem dL_law_8 : decode cL_law 8 = .ok (.lastore, 1) := by decide +kernel
theorem dL_law_9 : decode cL_law 9 = .ok (.goto 6, 3) := by decide +kernel
theorem dL_law_12 : decode cL_law 12 = .ok (.astore_n 3, 1) := by decide +kernel
theorem dL_law_13 : decode cL_law 13 = .ok (.iconst 1, 1) := by decide +kernel
theorem dL_law_14 : decode cL_law 14 = .ok (.ireturn, 1) := by decide +kernel
theorem dL_law_15 : decode cL_law 15 = .ok (.iconst 0, 1) := by decide +kernel
theorem dL_law_16 : decode cL_law 16 = .ok (.ireturn, 1) := by decide +kernel
theorem dL_force_0 : decode cL_force 0 = .ok (.aload_n 2, 1) := by decide +kernel
theorem dL_force_1 : decode cL_force 1 = .ok (.iconst 0, 1) := by decide +kernel
theorem dL_force_2 : decode cL_force 2 = .ok (.aload_n 0, 1) := by decide +kernel
theorem dL_force_3 : decode cL_force 3 = .ok (.iload_n 1, 1) := by decide +kernel
theorem dL_force_4 : decode cL_force 4 = .ok (.invokevirtual 50, 3) := by decide +kernel
theorem dL_force_7 : decode cL_force 7 = .ok (.i2l, 1) := by decide +kernel
theorem dL_force_8 : decode cL_force 8 = .ok (.lastore, 1) := by decide +kernel
theorem dL_force_9 : decode cL_force 9 = .ok (.goto 6, 3) := by decide +kernel
theorem dL_force_12 : decode cL_force 12 = .ok (.astore_n 3, 1) := by decide +kernel
theorem dL_force_13 : decode cL_force 13 = .ok (.iconst 1, 1) := by decide +kernel
theorem dL_force_14 : decode cL_force 14 = .ok (.ireturn, 1) := by decide +kernel
theorem dL_force_15 : decode cL_force 15 = .ok (.iconst 0, 1) := by decide +kernel
theorem dL_force_16 : decode cL_force 16 = .ok (.ireturn, 1) := by decide +kernel
theorem dL_talk_0 : decode cL_talk 0 = .ok (.aload 6, 2) := by decide +kernel
theorem dL_talk_2 : decode cL_talk 2 = .ok (.iconst 0, 1) := by decide +kernel
theorem dL_talk_3 : decode cL_talk 3 = .ok (.aload_n 0, 1) := by decide +kernel
theorem dL_talk_4 : decode cL_talk 4 = .ok (.iload_n 1, 1) := by decide +kernel
theorem dL_talk_5 : decode cL_talk 5 = .ok (.iload_n 2, 1) := by decide +kernel
theorem dL_talk_6 : decode cL_talk 6 = .ok (.iload_n 3, 1) := by decide +kernel
theorem dL_talk_7 : decode cL_talk 7 = .ok (.iload 4, 2) := by decide +kernel
theorem dL_talk_9 : decode cL_talk 9 = .ok (.iload 5, 2) := by decide +kernel
theorem dL_talk_11 : decode cL_talk 11 = .ok (.invokevirtual 55, 3) := by decide +kernel
theorem dL_talk_14 : decode cL_talk 14 = .ok (.i2l, 1) := by decide +kernel
theorem dL_talk_15 : decode cL_talk 15 = .ok (.lastore, 1) := by decide +kernel
theorem dL_talk_16 : decode cL_talk 16 = .ok (.goto 11, 3) := by decide +kernel
theorem dL_talk_19 : decode cL_talk 19 = .ok (.astore 7, 2) := by decide +kernel
theorem dL_talk_21 : decode cL_talk 21 = .ok (.iconst 1, 1) := by decide +kernel
theorem dL_talk_22 : decode cL_talk 22 = .ok (.ireturn, 1) := by decide +kernel
theorem dL_talk_23 : decode cL_talk 23 = .ok (.astore 7, 2) := by decide +kernel
theorem dL_talk_25 : decode cL_talk 25 = .ok (.iconst 2, 1) := by decide +kernel
theorem dL_talk_26 : decode cL_talk 26 = .ok (.ireturn, 1) := by decide +kernel
theorem dL_talk_27 : decode cL_talk 27 = .ok (.iconst 0, 1) := by decide +kernel
theorem dL_talk_28 : decode cL_talk 28 = .ok (.ireturn, 1) := by decide +kernel
theorem dL_run_0 : decode cL_run 0 = .ok (.aload_n 3, 1) := by decide +kernel
theorem dL_run_1 : decode cL_run 1 = .ok (.iconst 0, 1) := by decide +kernel
theorem dL_run_2 : decode cL_run 2 = .ok (.aload_n 0, 1) := by decide +kernel
theorem dL_run_3 : decode cL_run 3 = .ok (.iload_n 1, 1) := by decide +kernel
theorem dL_run_4 : decode cL_run 4 = .ok (.iload_n 2, 1) := by decide +kernel
theorem dL_run_5 : decode cL_run 5 = .ok (.invokevirtual 59, 3) := by decide +kernel
theorem dL_run_8 : decode cL_run 8 = .ok (.i2l, 1) := by decide +kernel
theorem dL_run_9 : decode cL_run 9 = .ok (.lastore, 1) := by decide +kernel
theorem dL_run_10 : decode cL_run 10 = .ok (.goto 7, 3) := by decide +kernel
theorem dL_run_13 : decode cL_run 13 = .ok (.astore 4, 2) := by decide +kernel
theorem dL_run_15 : decode cL_run 15 = .ok (.iconst 1, 1) := by decide +kernel
theorem dL_run_16 : decode cL_run 16 = .ok (.ireturn, 1) := by decide +kernel
theorem dL_run_17 : decode cL_run 17 = .ok (.iconst 0, 1) := by decide +kernel
theorem dL_run_18 : decode cL_run 18 = .ok (.ireturn, 1) := by decide +kernel
theorem dL_note_0 : decode cL_note 0 = .ok (.aload_n 3, 1) := by decide +kernel
theorem dL_note_1 : decode cL_note 1 = .ok (.iconst 0, 1) := by decide +kernel
theorem dL_note_2 : decode cL_note 2 = .ok (.aload_n 0, 1) := by decide +kernel
theorem dL_note_3 : decode cL_note 3 = .ok (.iload_n 1, 1) := by decide +kernel
theorem dL_note_4 : decode cL_note 4 = .ok (.iload_n 2, 1) := by decide +kernel
theorem dL_note_5 : decode cL_note 5 = .ok (.invokevirtual 62, 3) := by decide +kernel
theorem dL_note_8 : decode cL_note 8 = .ok (.i2l, 1) := by decide +kernel
theorem dL_note_9 : decode cL_note 9 = .ok (.lastore, 1) := by decide +kernel
theorem dL_note_10 : decode cL_note 10 = .ok (.goto 11, 3) := by decide +kernel
theorem dL_note_13 : decode cL_note 13 = .ok (.astore 4, 2) := by decide +kernel
theorem dL_note_15 : decode cL_note 15 = .ok (.iconst 1, 1) := by decide +kernel
theorem dL_note_16 : decode cL_note 16 = .ok (.ireturn, 1) := by decide +kernel
theorem dL_note_17 : decode cL_note 17 = .ok (.astore 4, 2) := by decide +kernel
theorem dL_note_19 : decode cL_note 19 = .ok (.iconst 2, 1) := by decide +kernel
theorem dL_note_20 : decode cL_note 20 = .ok (.ireturn, 1) := by decide +kernel
theorem dL_note_21 : decode cL_note 21 = .ok (.iconst 0, 1) := by decide +kernel
theorem dL_note_22 : decode cL_note 22 = .ok (.ireturn, 1) := by decide +kernel
theorem dL_share_0 : decode cL_share 0 = .ok (.aload 5, 2) := by decide +kernel
theorem dL_share_2 : decode cL_share 2 = .ok (.iconst 0, 1) := by decide +kernel
theorem dL_share_3 : decode cL_share 3 = .ok (.aload_n 0, 1) := by decide +kernel
theorem dL_share_4 : decode cL_share 4 = .ok (.iload_n 1, 1) := by decide +kernel
theorem dL_share_5 : decode cL_share 5 = .ok (.iload_n 2, 1) := by decide +kernel
theorem dL_share_6 : decode cL_share 6 = .ok (.iload_n 3, 1) := by decide +kernel
theorem dL_share_7 : decode cL_share 7 = .ok (.iload 4, 2) := by decide +kernel
theorem dL_share_9 : decode cL_share 9 = .ok (.invokevirtual 65, 3) := by decide +kernel
theorem dL_share_12 : decode cL_share 12 = .ok (.i2l, 1) := by decide +kernel
theorem dL_share_13 : decode cL_share 13 = .ok (.lastore, 1) := by decide +kernel
theorem dL_share_14 : decode cL_share 14 = .ok (.goto 7, 3) := by decide +kernel
theorem dL_share_17 : decode cL_share 17 = .ok (.astore 6, 2) := by decide +kernel
theorem dL_share_19 : decode cL_share 19 = .ok (.iconst 1, 1) := by decide +kernel
theorem dL_share_20 : decode cL_share 20 = .ok (.ireturn, 1) := by decide +kernel
theorem dL_share_21 : decode cL_share 21 = .ok (.iconst 0, 1) := by decide +kernel
theorem dL_share_22 : decode cL_share 22 = .ok (.ireturn, 1) := by decide +kernel
theorem dL_held_0 : decode cL_held 0 = .ok (.aload_n 3, 1) := by decide +kernel
theorem dL_held_1 : decode cL_held 1 = .ok (.iconst 0, 1) := by decide +kernel
theorem dL_held_2 : decode cL_held 2 = .ok (.aload_n 0, 1) := by decide +kernel
theorem dL_held_3 : decode cL_held 3 = .ok (.iload_n 1, 1) := by decide +kernel
theorem dL_held_4 : decode cL_held 4 = .ok (.iload_n 2, 1) := by decide +kernel
theorem dL_held_5 : decode cL_held 5 = .ok (.invokevirtual 69, 3) := by decide +kernel
theorem dL_held_8 : decode cL_held 8 = .ok (.i2l, 1) := by decide +kernel
theorem dL_held_9 : decode cL_held 9 = .ok (.lastore, 1) := by decide +kernel
theorem dL_held_10 : decode cL_held 10 = .ok (.goto 7, 3) := by decide +kernel
theorem dL_held_13 : decode cL_held 13 = .ok (.astore 4, 2) := by decide +kernel
theorem dL_held_15 : decode cL_held 15 = .ok (.iconst 1, 1) := by decide +kernel
theorem dL_held_16 : decode cL_held 16 = .ok (.ireturn, 1) := by decide +kernel
theorem dL_held_17 : decode cL_held 17 = .ok (.iconst 0, 1) := by decide +kernel
theorem dL_held_18 : decode cL_held 18 = .ok (.ireturn, 1) := by decide +kernel
theorem dL_first_0 : decode cL_first 0 = .ok (.aload_n 3, 1) := by decide +kernel
theorem dL_first_1 : decode cL_first 1 = .ok (.iconst 0, 1) := by decide +kernel
theorem dL_first_2 : decode cL_first 2 = .ok (.aload_n 0, 1) := by decide +kernel
theorem dL_first_3 : decode cL_first 3 = .ok (.iload_n 1, 1) := by decide +kernel
theorem dL_first_4 : decode cL_first 4 = .ok (.iload_n 2, 1) := by decide +kernel
theorem dL_first_5 : decode cL_first 5 = .ok (.invokevirtual 72, 3) := by decide +kernel
theorem dL_first_8 : decode cL_first 8 = .ok (.i2l, 1) := by decide +kernel
theorem dL_first_9 : decode cL_first 9 = .ok (.lastore, 1) := by decide +kernel
theorem dL_first_10 : decode cL_first 10 = .ok (.goto 7, 3) := by decide +kernel
theorem dL_first_13 : decode cL_first 13 = .ok (.astore 4, 2) := by decide +kernel
theorem dL_first_15 : decode cL_first 15 = .ok (.iconst 1, 1) := by decide +kernel
theorem dL_first_16 : decode cL_first 16 = .ok (.ireturn, 1) := by decide +kernel
theorem dL_first_17 : decode cL_first 17 = .ok (.iconst 0, 1) := by decide +kernel
theorem dL_first_18 : decode cL_first 18 = .ok (.ireturn, 1) := by decide +kernel
theorem dL_back_0 : decode cL_back 0 = .ok (.aload 4, 2) := by decide +kernel
theorem dL_back_2 : decode cL_back 2 = .ok (.iconst 0, 1) := by decide +kernel
theorem dL_back_3 : decode cL_back 3 = .ok (.aload_n 0, 1) := by decide +kernel
theorem dL_back_4 : decode cL_back 4 = .ok (.iload_n 1, 1) := by decide +kernel
theorem dL_back_5 : decode cL_back 5 = .ok (.iload_n 2, 1) := by decide +kernel
theorem dL_back_6 : decode cL_back 6 = .ok (.iload_n 3, 1) := by decide +kernel
theorem dL_back_7 : decode cL_back 7 = .ok (.invokevirtual 75, 3) := by decide +kernel
theorem dL_back_10 : decode cL_back 10 = .ok (.i2l, 1) := by decide +kernel
theorem dL_back_11 : decode cL_back 11 = .ok (.lastore, 1) := by decide +kernel
theorem dL_back_12 : decode cL_back 12 = .ok (.goto 11, 3) := by decide +kernel
theorem dL_back_15 : decode cL_back 15 = .ok (.astore 5, 2) := by decide +kernel
theorem dL_back_17 : decode cL_back 17 = .ok (.iconst 1, 1) := by decide +kernel
theorem dL_back_18 : decode cL_back 18 = .ok (.ireturn, 1) := by decide +kernel
theorem dL_back_19 : decode cL_back 19 = .ok (.astore 5, 2) := by decide +kernel
theorem dL_back_21 : decode cL_back 21 = .ok (.iconst 2, 1) := by decide +kernel
theorem dL_back_22 : decode cL_back 22 = .ok (.ireturn, 1) := by decide +kernel
theorem dL_back_23 : decode cL_back 23 = .ok (.iconst 0, 1) := by decide +kernel
theorem dL_back_24 : decode cL_back 24 = .ok (.ireturn, 1) := by decide +kernel
theorem dL_uses_0 : decode cL_uses 0 = .ok (.aload_n 3, 1) := by decide +kernel
theorem dL_uses_1 : decode cL_uses 1 = .ok (.iconst 0, 1) := by decide +kernel
theorem dL_uses_2 : decode cL_uses 2 = .ok (.aload_n 0, 1) := by decide +kernel
theorem dL_uses_3 : decode cL_uses 3 = .ok (.iload_n 1, 1) := by decide +kernel
theorem dL_uses_4 : decode cL_uses 4 = .ok (.iload_n 2, 1) := by decide +kernel
theorem dL_uses_5 : decode cL_uses 5 = .ok (.invokevirtual 78, 3) := by decide +kernel
theorem dL_uses_8 : decode cL_uses 8 = .ok (.i2l, 1) := by decide +kernel
theorem dL_uses_9 : decode cL_uses 9 = .ok (.lastore, 1) := by decide +kernel
theorem dL_uses_10 : decode cL_uses 10 = .ok (.goto 7, 3) := by decide +kernel
theorem dL_uses_13 : decode cL_uses 13 = .ok (.astore 4, 2) := by decide +kernel
theorem dL_uses_15 : decode cL_uses 15 = .ok (.iconst 1, 1) := by decide +kernel
theorem dL_uses_16 : decode cL_uses 16 = .ok (.ireturn, 1) := by decide +kernel
theorem dL_uses_17 : decode cL_uses 17 = .ok (.iconst 0, 1) := by decide +kernel
theorem dL_uses_18 : decode cL_uses 18 = .ok (.ireturn, 1) := by decide +kernel
theorem dL_seen_0 : decode cL_seen 0 = .ok (.aload_n 3, 1) := by decide +kernel
theorem dL_seen_1 : decode cL_seen 1 = .ok (.iconst 0, 1) := by decide +kernel
theorem dL_seen_2 : decode cL_seen 2 = .ok (.aload_n 0, 1) := by decide +kernel
theorem dL_seen_3 : decode cL_seen 3 = .ok (.iload_n 1, 1) := by decide +kernel
theorem dL_seen_4 : decode cL_seen 4 = .ok (.iload_n 2, 1) := by decide +kernel
theorem dL_seen_5 : decode cL_seen 5 = .ok (.invokevirtual 81, 3) := by decide +kernel
theorem dL_seen_8 : decode cL_seen 8 = .ok (.i2l, 1) := by decide +kernel
theorem dL_seen_9 : decode cL_seen 9 = .ok (.lastore, 1) := by decide +kernel
theorem dL_seen_10 : decode cL_seen 10 = .ok (.goto 7, 3) := by decide +kernel
theorem dL_seen_13 : decode cL_seen 13 = .ok (.astore 4, 2) := by decide +kernel
theorem dL_seen_15 : decode cL_seen 15 = .ok (.iconst 1, 1) := by decide +kernel
theorem dL_seen_16 : decode cL_seen 16 = .ok (.ireturn, 1) := by decide +kernel
theorem dL_seen_17 : decode cL_seen 17 = .ok (.iconst 0, 1) := by decide +kernel
theorem dL_seen_18 : decode cL_seen 18 = .ok (.ireturn, 1) := by decide +kernel
theorem dL_gap_0 : decode cL_gap 0 = .ok (.aload_n 3, 1) := by decide +kernel
theorem dL_gap_1 : decode cL_gap 1 = .ok (.iconst 0, 1) := by decide +kernel
theorem dL_gap_2 : decode cL_gap 2 = .ok (.aload_n 0, 1) := by decide +kernel
theorem dL_gap_3 : decode cL_gap 3 = .ok (.iload_n 1, 1) := by decide +kernel
theorem dL_gap_4 : decode cL_gap 4 = .ok (.iload_n 2, 1) := by decide +kernel
theorem dL_gap_5 : decode cL_gap 5 = .ok (.invokevirtual 84, 3) := by decide +kernel
theorem dL_gap_8 : decode cL_gap 8 = .ok (.i2l, 1) := by decide +kernel
theorem dL_gap_9 : decode cL_gap 9 = .ok (.lastore, 1) := by decide +kernel
theorem dL_gap_10 : decode cL_gap 10 = .ok (.goto 11, 3) := by decide +kernel
theorem dL_gap_13 : decode cL_gap 13 = .ok (.astore 4, 2) := by decide +kernel
theorem dL_gap_15 : decode cL_gap 15 = .ok (.iconst 1, 1) := by decide +kernel
theorem dL_gap_16 : decode cL_gap 16 = .ok (.ireturn, 1) := by decide +kernel
theorem dL_gap_17 : decode cL_gap 17 = .ok (.astore 4, 2) := by decide +kernel
theorem dL_gap_19 : decode cL_gap 19 = .ok (.iconst 2, 1) := by decide +kernel
theorem dL_gap_20 : decode cL_gap 20 = .ok (.ireturn, 1) := by decide +kernel
theorem dL_gap_21 : decode cL_gap 21 = .ok (.iconst 0, 1) := by decide +kernel
theorem dL_gap_22 : decode cL_gap 22 = .ok (.ireturn, 1) := by decide +kernel
theorem dL_fits_0 : decode cL_fits 0 = .ok (.aload_n 3, 1) := by decide +kernel
theorem dL_fits_1 : decode cL_fits 1 = .ok (.iconst 0, 1) := by decide +kernel
theorem dL_fits_2 : decode cL_fits 2 = .ok (.aload_n 0, 1) := by decide +kernel
theorem dL_fits_3 : decode cL_fits 3 = .ok (.iload_n 1, 1) := by decide +kernel
theorem dL_fits_4 : decode cL_fits 4 = .ok (.iload_n 2, 1) := by decide +kernel
theorem dL_fits_5 : decode cL_fits 5 = .ok (.invokevirtual 87, 3) := by decide +kernel
theorem dL_fits_8 : decode cL_fits 8 = .ok (.i2l, 1) := by decide +kernel
theorem dL_fits_9 : decode cL_fits 9 = .ok (.lastore, 1) := by decide +kernel
theorem dL_fits_10 : decode cL_fits 10 = .ok (.goto 7, 3) := by decide +kernel
theorem dL_fits_13 : decode cL_fits 13 = .ok (.astore 4, 2) := by decide +kernel
theorem dL_fits_15 : decode cL_fits 15 = .ok (.iconst 1, 1) := by decide +kernel
theorem dL_fits_16 : decode cL_fits 16 = .ok (.ireturn, 1) := by decide +kernel
theorem dL_fits_17 : decode cL_fits 17 = .ok (.iconst 0, 1) := by decide +kernel
theorem dL_fits_18 : decode cL_fits 18 = .ok (.ireturn, 1) := by decide +kernel
theorem dL_trial_0 : decode cL_trial 0 = .ok (.aload 5, 2) := by decide +kernel
theorem dL_trial_2 : decode cL_trial 2 = .ok (.iconst 0, 1) := by decide +kernel
theorem dL_trial_3 : decode cL_trial 3 = .ok (.aload_n 0, 1) := by decide +kernel
theorem dL_trial_4 : decode cL_trial 4 = .ok (.iload_n 1, 1) := by decide +kernel
theorem dL_trial_5 : decode cL_trial 5 = .ok (.iload_n 2, 1) := by decide +kernel
theorem dL_trial_6 : decode cL_trial 6 = .ok (.iload_n 3, 1) := by decide +kernel
theorem dL_trial_7 : decode cL_trial 7 = .ok (.iload 4, 2) := by decide +kernel
theorem dL_trial_9 : decode cL_trial 9 = .ok (.invokevirtual 90, 3) := by decide +kernel
theorem dL_trial_12 : decode cL_trial 12 = .ok (.i2l, 1) := by decide +kernel
theorem dL_trial_13 : decode cL_trial 13 = .ok (.lastore, 1) := by decide +kernel
theorem dL_trial_14 : decode cL_trial 14 = .ok (.goto 11, 3) := by decide +kernel
theorem dL_trial_17 : decode cL_trial 17 = .ok (.astore 6, 2) := by decide +kernel
theorem dL_trial_19 : decode cL_trial 19 = .ok (.iconst 1, 1) := by decide +kernel
theorem dL_trial_20 : decode cL_trial 20 = .ok (.ireturn, 1) := by decide +kernel
theorem dL_trial_21 : decode cL_trial 21 = .ok (.astore 6, 2) := by decide +kernel
theorem dL_trial_23 : decode cL_trial 23 = .ok (.iconst 2, 1) := by decide +kernel
theorem dL_trial_24 : decode cL_trial 24 = .ok (.ireturn, 1) := by decide +kernel
theorem dL_trial_25 : decode cL_trial 25 = .ok (.iconst 0, 1) := by decide +kernel
theorem dL_trial_26 : decode cL_trial 26 = .ok (.ireturn, 1) := by decide +kernel
theorem dL_fewest_0 : decode cL_fewest 0 = .ok (.aload 5, 2) := by decide +kernel
theorem dL_fewest_2 : decode cL_fewest 2 = .ok (.iconst 0, 1) := by decide +kernel
theorem dL_fewest_3 : decode cL_fewest 3 = .ok (.aload_n 0, 1) := by decide +kernel
theorem dL_fewest_4 : decode cL_fewest 4 = .ok (.iload_n 1, 1) := by decide +kernel
theorem dL_fewest_5 : decode cL_fewest 5 = .ok (.iload_n 2, 1) := by decide +kernel
theorem dL_fewest_6 : decode cL_fewest 6 = .ok (.iload_n 3, 1) := by decide +kernel
theorem dL_fewest_7 : decode cL_fewest 7 = .ok (.iload 4, 2) := by decide +kernel
theorem dL_fewest_9 : decode cL_fewest 9 = .ok (.invokevirtual 94, 3) := by decide +kernel
theorem dL_fewest_12 : decode cL_fewest 12 = .ok (.i2l, 1) := by decide +kernel
theorem dL_fewest_13 : decode cL_fewest 13 = .ok (.lastore, 1) := by decide +kernel
theorem dL_fewest_14 : decode cL_fewest 14 = .ok (.goto 7, 3) := by decide +kernel
theorem dL_fewest_17 : decode cL_fewest 17 = .ok (.astore 6, 2) := by decide +kernel
theorem dL_fewest_19 : decode cL_fewest 19 = .ok (.iconst 1, 1) := by decide +kernel
theorem dL_fewest_20 : decode cL_fewest 20 = .ok (.ireturn, 1) := by decide +kernel
theorem dL_fewest_21 : decode cL_fewest 21 = .ok (.iconst 0, 1) := by decide +kernel
theorem dL_fewest_22 : decode cL_fewest 22 = .ok (.ireturn, 1) := by decide +kernel
theorem dL_needed_0 : decode cL_needed 0 = .ok (.aload 4, 2) := by decide +kernel
theorem dL_needed_2 : decode cL_needed 2 = .ok (.iconst 0, 1) := by decide +kernel
theorem dL_needed_3 : decode cL_needed 3 = .ok (.aload_n 0, 1) := by decide +kernel
theorem dL_needed_4 : decode cL_needed 4 = .ok (.iload_n 1, 1) := by decide +kernel
theorem dL_needed_5 : decode cL_needed 5 = .ok (.iload_n 2, 1) := by decide +kernel
theorem dL_needed_6 : decode cL_needed 6 = .ok (.iload_n 3, 1) := by decide +kernel
theorem dL_needed_7 : decode cL_needed 7 = .ok (.invokevirtual 97, 3) := by decide +kernel
theorem dL_needed_10 : decode cL_needed 10 = .ok (.i2l, 1) := by decide +kernel
theorem dL_needed_11 : decode cL_needed 11 = .ok (.lastore, 1) := by decide +kernel
theorem dL_needed_12 : decode cL_needed 12 = .ok (.goto 7, 3) := by decide +kernel
theorem dL_needed_15 : decode cL_needed 15 = .ok (.astore 5, 2) := by decide +kernel
theorem dL_needed_17 : decode cL_needed 17 = .ok (.iconst 1, 1) := by decide +kernel
theorem dL_needed_18 : decode cL_needed 18 = .ok (.ireturn, 1) := by decide +kernel
theorem dL_needed_19 : decode cL_needed 19 = .ok (.iconst 0, 1) := by decide +kernel
theorem dL_needed_20 : decode cL_needed 20 = .ok (.ireturn, 1) := by decide +kernel
theorem dL_unlike_0 : decode cL_unlike 0 = .ok (.aload_n 3, 1) := by decide +kernel
theorem dL_unlike_1 : decode cL_unlike 1 = .ok (.iconst 0, 1) := by decide +kernel
theorem dL_unlike_2 : decode cL_unlike 2 = .ok (.aload_n 0, 1) := by decide +kernel
theorem dL_unlike_3 : decode cL_unlike 3 = .ok (.iload_n 1, 1) := by decide +kernel
theorem dL_unlike_4 : decode cL_unlike 4 = .ok (.iload_n 2, 1) := by decide +kernel
theorem dL_unlike_5 : decode cL_unlike 5 = .ok (.invokevirtual 100, 3) := by decide +kernel
theorem dL_unlike_8 : decode cL_unlike 8 = .ok (.i2l, 1) := by decide +kernel
theorem dL_unlike_9 : decode cL_unlike 9 = .ok (.lastore, 1) := by decide +kernel
theorem dL_unlike_10 : decode cL_unlike 10 = .ok (.goto 7, 3) := by decide +kernel
theorem dL_unlike_13 : decode cL_unlike 13 = .ok (.astore 4, 2) := by decide +kernel
theorem dL_unlike_15 : decode cL_unlike 15 = .ok (.iconst 1, 1) := by decide +kernel
theorem dL_unlike_16 : decode cL_unlike 16 = .ok (.ireturn, 1) := by decide +kernel
theorem dL_unlike_17 : decode cL_unlike 17 = .ok (.iconst 0, 1) := by decide +kernel
theorem dL_unlike_18 : decode cL_unlike 18 = .ok (.ireturn, 1) := by decide +kernel
theorem dL_meets_0 : decode cL_meets 0 = .ok (.aload_n 3, 1) := by decide +kernel
theorem dL_meets_1 : decode cL_meets 1 = .ok (.iconst 0, 1) := by decide +kernel
theorem dL_meets_2 : decode cL_meets 2 = .ok (.aload_n 0, 1) := by decide +kernel
theorem dL_meets_3 : decode cL_meets 3 = .ok (.iload_n 1, 1) := by decide +kernel
theorem dL_meets_4 : decode cL_meets 4 = .ok (.iload_n 2, 1) := by decide +kernel
theorem dL_meets_5 : decode cL_meets 5 = .ok (.invokevirtual 103, 3) := by decide +kernel
theorem dL_meets_8 : decode cL_meets 8 = .ok (.i2l, 1) := by decide +kernel
theorem dL_meets_9 : decode cL_meets 9 = .ok (.lastore, 1) := by decide +kernel
theorem dL_meets_10 : decode cL_meets 10 = .ok (.goto 11, 3) := by decide +kernel
theorem dL_meets_13 : decode cL_meets 13 = .ok (.astore 4, 2) := by decide +kernel
theorem dL_meets_15 : decode cL_meets 15 = .ok (.iconst 1, 1) := by decide +kernel
theorem dL_meets_16 : decode cL_meets 16 = .ok (.ireturn, 1) := by decide +kernel
theorem dL_meets_17 : decode cL_meets 17 = .ok (.astore 4, 2) := by decide +kernel
theorem dL_meets_19 : decode cL_meets 19 = .ok (.iconst 2, 1) := by decide +kernel
theorem dL_meets_20 : decode cL_meets 20 = .ok (.ireturn, 1) := by decide +kernel
theorem dL_meets_21 : decode cL_meets 21 = .ok (.iconst 0, 1) := by decide +kernel
theorem dL_meets_22 : decode cL_meets 22 = .ok (.ireturn, 1) := by decide +kernel
theorem dL_plain_0 : decode cL_plain 0 = .ok (.aload_n 2, 1) := by decide +kernel
theorem dL_plain_1 : decode cL_plain 1 = .ok (.iconst 0, 1) := by decide +kernel
theorem dL_plain_2 : decode cL_plain 2 = .ok (.aload_n 0, 1) := by decide +kernel
theorem dL_plain_3 : decode cL_plain 3 = .ok (.iload_n 1, 1) := by decide +kernel
theorem dL_plain_4 : decode cL_plain 4 = .ok (.invokevirtual 106, 3) := by decide +kernel
theorem dL_plain_7 : decode cL_plain 7 = .ok (.i2l, 1) := by decide +kernel
theorem dL_plain_8 : decode cL_plain 8 = .ok (.lastore, 1) := by decide +kernel
theorem dL_plain_9 : decode cL_plain 9 = .ok (.goto 6, 3) := by decide +kernel
theorem dL_plain_12 : decode cL_plain 12 = .ok (.astore_n 3, 1) := by decide +kernel
theorem dL_plain_13 : decode cL_plain 13 = .ok (.iconst 1, 1) := by decide +kernel
theorem dL_plain_14 : decode cL_plain 14 = .ok (.ireturn, 1) := by decide +kernel
theorem dL_plain_15 : decode cL_plain 15 = .ok (.iconst 0, 1) := by decide +kernel
theorem dL_plain_16 : decode cL_plain 16 = .ok (.ireturn, 1) := by decide +kernel
theorem dL_word_0 : decode cL_word 0 = .ok (.aload_n 3, 1) := by decide +kernel
theorem dL_word_1 : decode cL_word 1 = .ok (.iconst 0, 1) := by decide +kernel
theorem dL_word_2 : decode cL_word 2 = .ok (.aload_n 0, 1) := by decide +kernel
theorem dL_word_3 : decode cL_word 3 = .ok (.iload_n 1, 1) := by decide +kernel
theorem dL_word_4 : decode cL_word 4 = .ok (.iload_n 2, 1) := by decide +kernel
theorem dL_word_5 : decode cL_word 5 = .ok (.invokevirtual 109, 3) := by decide +kernel
theorem dL_word_8 : decode cL_word 8 = .ok (.i2l, 1) := by decide +kernel
theorem dL_word_9 : decode cL_word 9 = .ok (.lastore, 1) := by decide +kernel
theorem dL_word_10 : decode cL_word 10 = .ok (.goto 7, 3) := by decide +kernel
theorem dL_word_13 : decode cL_word 13 = .ok (.astore 4, 2) := by decide +kernel
theorem dL_word_15 : decode cL_word 15 = .ok (.iconst 1, 1) := by decide +kernel
theorem dL_word_16 : decode cL_word 16 = .ok (.ireturn, 1) := by decide +kernel
theorem dL_word_17 : decode cL_word 17 = .ok (.iconst 0, 1) := by decide +kernel
theorem dL_word_18 : decode cL_word 18 = .ok (.ireturn, 1) := by decide +kernel
theorem dL_blurred_0 : decode cL_blurred 0 = .ok (.aload_n 3, 1) := by decide +kernel
theorem dL_blurred_1 : decode cL_blurred 1 = .ok (.iconst 0, 1) := by decide +kernel
theorem dL_blurred_2 : decode cL_blurred 2 = .ok (.aload_n 0, 1) := by decide +kernel
theorem dL_blurred_3 : decode cL_blurred 3 = .ok (.iload_n 1, 1) := by decide +kernel
theorem dL_blurred_4 : decode cL_blurred 4 = .ok (.iload_n 2, 1) := by decide +kernel
theorem dL_blurred_5 : decode cL_blurred 5 = .ok (.invokevirtual 112, 3) := by decide +kernel
theorem dL_blurred_8 : decode cL_blurred 8 = .ok (.i2l, 1) := by decide +kernel
theorem dL_blurred_9 : decode cL_blurred 9 = .ok (.lastore, 1) := by decide +kernel
theorem dL_blurred_10 : decode cL_blurred 10 = .ok (.goto 7, 3) := by decide +kernel
theorem dL_blurred_13 : decode cL_blurred 13 = .ok (.astore 4, 2) := by decide +kernel
theorem dL_blurred_15 : decode cL_blurred 15 = .ok (.iconst 1, 1) := by decide +kernel
theorem dL_blurred_16 : decode cL_blurred 16 = .ok (.ireturn, 1) := by decide +kernel
theorem dL_blurred_17 : decode cL_blurred 17 = .ok (.iconst 0, 1) := by decide +kernel
theorem dL_blurred_18 : decode cL_blurred 18 = .ok (.ireturn, 1) := by decide +kernel
theorem dL_nearest_0 : decode cL_nearest 0 = .ok (.aload_n 2, 1) := by decide +kernel
theorem dL_nearest_1 : decode cL_nearest 1 = .ok (.iconst 0, 1) := by decide +kernel
theorem dL_nearest_2 : decode cL_nearest 2 = .ok (.aload_n 0, 1) := by decide +kernel
theorem dL_nearest_3 : decode cL_nearest 3 = .ok (.iload_n 1, 1) := by decide +kernel
theorem dL_nearest_4 : decode cL_nearest 4 = .ok (.invokevirtual 115, 3) := by decide +kernel
theorem dL_nearest_7 : decode cL_nearest 7 = .ok (.i2l, 1) := by decide +kernel
theorem dL_nearest_8 : decode cL_nearest 8 = .ok (.lastore, 1) := by decide +kernel
theorem dL_nearest_9 : decode cL_nearest 9 = .ok (.goto 6, 3) := by decide +kernel
theorem dL_nearest_12 : decode cL_nearest 12 = .ok (.astore_n 3, 1) := by decide +kernel
theorem dL_nearest_13 : decode cL_nearest 13 = .ok (.iconst 1, 1) := by decide +kernel
theorem dL_nearest_14 : decode cL_nearest 14 = .ok (.ireturn, 1) := by decide +kernel
theorem dL_nearest_15 : decode cL_nearest 15 = .ok (.iconst 0, 1) := by decide +kernel
theorem dL_nearest_16 : decode cL_nearest 16 = .ok (.ireturn, 1) := by decide +kernel
theorem dL_since_0 : decode cL_since 0 = .ok (.aload_n 3, 1) := by decide +kernel
theorem dL_since_1 : decode cL_since 1 = .ok (.iconst 0, 1) := by decide +kernel
theorem dL_since_2 : decode cL_since 2 = .ok (.aload_n 0, 1) := by decide +kernel
theorem dL_since_3 : decode cL_since 3 = .ok (.iload_n 1, 1) := by decide +kernel
theorem dL_since_4 : decode cL_since 4 = .ok (.iload_n 2, 1) := by decide +kernel
theorem dL_since_5 : decode cL_since 5 = .ok (.invokevirtual 118, 3) := by decide +kernel
theorem dL_since_8 : decode cL_since 8 = .ok (.i2l, 1) := by decide +kernel
theorem dL_since_9 : decode cL_since 9 = .ok (.lastore, 1) := by decide +kernel
theorem dL_since_10 : decode cL_since 10 = .ok (.goto 11, 3) := by decide +kernel
theorem dL_since_13 : decode cL_since 13 = .ok (.astore 4, 2) := by decide +kernel
theorem dL_since_15 : decode cL_since 15 = .ok (.iconst 1, 1) := by decide +kernel
theorem dL_since_16 : decode cL_since 16 = .ok (.ireturn, 1) := by decide +kernel
theorem dL_since_17 : decode cL_since 17 = .ok (.astore 4, 2) := by decide +kernel
theorem dL_since_19 : decode cL_since 19 = .ok (.iconst 2, 1) := by decide +kernel
theorem dL_since_20 : decode cL_since 20 = .ok (.ireturn, 1) := by decide +kernel
theorem dL_since_21 : decode cL_since 21 = .ok (.iconst 0, 1) := by decide +kernel
theorem dL_since_22 : decode cL_since 22 = .ok (.ireturn, 1) := by decide +kernel
theorem dL_taught_0 : decode cL_taught 0 = .ok (.aload_n 3, 1) := by decide +kernel
theorem dL_taught_1 : decode cL_taught 1 = .ok (.iconst 0, 1) := by decide +kernel
theorem dL_taught_2 : decode cL_taught 2 = .ok (.aload_n 0, 1) := by decide +kernel
theorem dL_taught_3 : decode cL_taught 3 = .ok (.iload_n 1, 1) := by decide +kernel
theorem dL_taught_4 : decode cL_taught 4 = .ok (.iload_n 2, 1) := by decide +kernel
theorem dL_taught_5 : decode cL_taught 5 = .ok (.invokevirtual 121, 3) := by decide +kernel
theorem dL_taught_8 : decode cL_taught 8 = .ok (.i2l, 1) := by decide +kernel
theorem dL_taught_9 : decode cL_taught 9 = .ok (.lastore, 1) := by decide +kernel
theorem dL_taught_10 : decode cL_taught 10 = .ok (.goto 11, 3) := by decide +kernel
theorem dL_taught_13 : decode cL_taught 13 = .ok (.astore 4, 2) := by decide +kernel
theorem dL_taught_15 : decode cL_taught 15 = .ok (.iconst 1, 1) := by decide +kernel
theorem dL_taught_16 : decode cL_taught 16 = .ok (.ireturn, 1) := by decide +kernel
theorem dL_taught_17 : decode cL_taught 17 = .ok (.astore 4, 2) := by decide +kernel
theorem dL_taught_19 : decode cL_taught 19 = .ok (.iconst 2, 1) := by decide +kernel
theorem dL_taught_20 : decode cL_taught 20 = .ok (.ireturn, 1) := by decide +kernel
theorem dL_taught_21 : decode cL_taught 21 = .ok (.iconst 0, 1) := by decide +kernel
theorem dL_taught_22 : decode cL_taught 22 = .ok (.ireturn, 1) := by decide +kernel
theorem dL_root_0 : decode cL_root 0 = .ok (.aload_n 3, 1) := by decide +kernel
theorem dL_root_1 : decode cL_root 1 = .ok (.iconst 0, 1) := by decide +kernel
theorem dL_root_2 : decode cL_root 2 = .ok (.aload_n 0, 1) := by decide +kernel
theorem dL_root_3 : decode cL_root 3 = .ok (.iload_n 1, 1) := by decide +kernel
theorem dL_root_4 : decode cL_root 4 = .ok (.iload_n 2, 1) := by decide +kernel
theorem dL_root_5 : decode cL_root 5 = .ok (.invokevirtual 124, 3) := by decide +kernel
theorem dL_root_8 : decode cL_root 8 = .ok (.i2l, 1) := by decide +kernel
theorem dL_root_9 : decode cL_root 9 = .ok (.lastore, 1) := by decide +kernel
theorem dL_root_10 : decode cL_root 10 = .ok (.goto 11, 3) := by decide +kernel
theorem dL_root_13 : decode cL_root 13 = .ok (.astore 4, 2) := by decide +kernel
theorem dL_root_15 : decode cL_root 15 = .ok (.iconst 1, 1) := by decide +kernel
theorem dL_root_16 : decode cL_root 16 = .ok (.ireturn, 1) := by decide +kernel
theorem dL_root_17 : decode cL_root 17 = .ok (.astore 4, 2) := by decide +kernel
theorem dL_root_19 : decode cL_root 19 = .ok (.iconst 2, 1) := by decide +kernel
theorem dL_root_20 : decode cL_root 20 = .ok (.ireturn, 1) := by decide +kernel
theorem dL_root_21 : decode cL_root 21 = .ok (.iconst 0, 1) := by decide +kernel
theorem dL_root_22 : decode cL_root 22 = .ok (.ireturn, 1) := by decide +kernel
theorem dL_untaught_0 : decode cL_untaught 0 = .ok (.aload 4, 2) := by decide +kernel
theorem dL_untaught_2 : decode cL_untaught 2 = .ok (.iconst 0, 1) := by decide +kernel
theorem dL_untaught_3 : decode cL_untaught 3 = .ok (.aload_n 0, 1) := by decide +kernel
theorem dL_untaught_4 : decode cL_untaught 4 = .ok (.iload_n 1, 1) := by decide +kernel
theorem dL_untaught_5 : decode cL_untaught 5 = .ok (.iload_n 2, 1) := by decide +kernel
theorem dL_untaught_6 : decode cL_untaught 6 = .ok (.iload_n 3, 1) := by decide +kernel
theorem dL_untaught_7 : decode cL_untaught 7 = .ok (.invokevirtual 127, 3) := by decide +kernel
theorem dL_untaught_10 : decode cL_untaught 10 = .ok (.i2l, 1) := by decide +kernel
theorem dL_untaught_11 : decode cL_untaught 11 = .ok (.lastore, 1) := by decide +kernel
theorem dL_untaught_12 : decode cL_untaught 12 = .ok (.goto 7, 3) := by decide +kernel
theorem dL_untaught_15 : decode cL_untaught 15 = .ok (.astore 5, 2) := by decide +kernel
theorem dL_untaught_17 : decode cL_untaught 17 = .ok (.iconst 1, 1) := by decide +kernel
theorem dL_untaught_18 : decode cL_untaught 18 = .ok (.ireturn, 1) := by decide +kernel
theorem dL_untaught_19 : decode cL_untaught 19 = .ok (.iconst 0, 1) := by decide +kernel
theorem dL_untaught_20 : decode cL_untaught 20 = .ok (.ireturn, 1) := by decide +kernel
theorem dL_odds_0 : decode cL_odds 0 = .ok (.aload 5, 2) := by decide +kernel
theorem dL_odds_2 : decode cL_odds 2 = .ok (.iconst 0, 1) := by decide +kernel
theorem dL_odds_3 : decode cL_odds 3 = .ok (.aload_n 0, 1) := by decide +kernel
theorem dL_odds_4 : decode cL_odds 4 = .ok (.iload_n 1, 1) := by decide +kernel
theorem dL_odds_5 : decode cL_odds 5 = .ok (.iload_n 2, 1) := by decide +kernel
theorem dL_odds_6 : decode cL_odds 6 = .ok (.iload_n 3, 1) := by decide +kernel
theorem dL_odds_7 : decode cL_odds 7 = .ok (.iload 4, 2) := by decide +kernel
theorem dL_odds_9 : decode cL_odds 9 = .ok (.invokevirtual 130, 3) := by decide +kernel
theorem dL_odds_12 : decode cL_odds 12 = .ok (.i2l, 1) := by decide +kernel
theorem dL_odds_13 : decode cL_odds 13 = .ok (.lastore, 1) := by decide +kernel
theorem dL_odds_14 : decode cL_odds 14 = .ok (.goto 7, 3) := by decide +kernel
theorem dL_odds_17 : decode cL_odds 17 = .ok (.astore 6, 2) := by decide +kernel
theorem dL_odds_19 : decode cL_odds 19 = .ok (.iconst 1, 1) := by decide +kernel
theorem dL_odds_20 : decode cL_odds 20 = .ok (.ireturn, 1) := by decide +kernel
theorem dL_odds_21 : decode cL_odds 21 = .ok (.iconst 0, 1) := by decide +kernel
theorem dL_odds_22 : decode cL_odds 22 = .ok (.ireturn, 1) := by decide +kernel
theorem dL_right_0 : decode cL_right 0 = .ok (.aload 4, 2) := by decide +kernel
theorem dL_right_2 : decode cL_right 2 = .ok (.iconst 0, 1) := by decide +kernel
theorem dL_right_3 : decode cL_right 3 = .ok (.aload_n 0, 1) := by decide +kernel
theorem dL_right_4 : decode cL_right 4 = .ok (.iload_n 1, 1) := by decide +kernel
theorem dL_right_5 : decode cL_right 5 = .ok (.iload_n 2, 1) := by decide +kernel
theorem dL_right_6 : decode cL_right 6 = .ok (.iload_n 3, 1) := by decide +kernel
theorem dL_right_7 : decode cL_right 7 = .ok (.invokevirtual 133, 3) := by decide +kernel
theorem dL_right_10 : decode cL_right 10 = .ok (.i2l, 1) := by decide +kernel
theorem dL_right_11 : decode cL_right 11 = .ok (.lastore, 1) := by decide +kernel
theorem dL_right_12 : decode cL_right 12 = .ok (.goto 11, 3) := by decide +kernel
theorem dL_right_15 : decode cL_right 15 = .ok (.astore 5, 2) := by decide +kernel
theorem dL_right_17 : decode cL_right 17 = .ok (.iconst 1, 1) := by decide +kernel
theorem dL_right_18 : decode cL_right 18 = .ok (.ireturn, 1) := by decide +kernel
theorem dL_right_19 : decode cL_right 19 = .ok (.astore 5, 2) := by decide +kernel
theorem dL_right_21 : decode cL_right 21 = .ok (.iconst 2, 1) := by decide +kernel
theorem dL_right_22 : decode cL_right 22 = .ok (.ireturn, 1) := by decide +kernel
theorem dL_right_23 : decode cL_right 23 = .ok (.iconst 0, 1) := by decide +kernel
theorem dL_right_24 : decode cL_right 24 = .ok (.ireturn, 1) := by decide +kernel
