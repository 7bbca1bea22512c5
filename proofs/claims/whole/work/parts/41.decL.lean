theorem d_L_insert_0 : decode b_L_insert 0 = .ok (.aload 5, 2) := by decide +kernel
theorem d_L_insert_2 : decode b_L_insert 2 = .ok (.iconst 0, 1) := by decide +kernel
theorem d_L_insert_3 : decode b_L_insert 3 = .ok (.aload_n 0, 1) := by decide +kernel
theorem d_L_insert_4 : decode b_L_insert 4 = .ok (.iload_n 1, 1) := by decide +kernel
theorem d_L_insert_5 : decode b_L_insert 5 = .ok (.iload_n 2, 1) := by decide +kernel
theorem d_L_insert_6 : decode b_L_insert 6 = .ok (.lload_n 3, 1) := by decide +kernel
theorem d_L_insert_7 : decode b_L_insert 7 = .ok (.invokevirtual 7, 3) := by decide +kernel
theorem d_L_insert_10 : decode b_L_insert 10 = .ok (.i2l, 1) := by decide +kernel
theorem d_L_insert_11 : decode b_L_insert 11 = .ok (.lastore, 1) := by decide +kernel
theorem d_L_insert_12 : decode b_L_insert 12 = .ok (.goto 15, 3) := by decide +kernel
theorem d_L_insert_15 : decode b_L_insert 15 = .ok (.astore 6, 2) := by decide +kernel
theorem d_L_insert_17 : decode b_L_insert 17 = .ok (.iconst 1, 1) := by decide +kernel
theorem d_L_insert_18 : decode b_L_insert 18 = .ok (.ireturn, 1) := by decide +kernel
theorem d_L_insert_19 : decode b_L_insert 19 = .ok (.astore 6, 2) := by decide +kernel
theorem d_L_insert_21 : decode b_L_insert 21 = .ok (.iconst 2, 1) := by decide +kernel
theorem d_L_insert_22 : decode b_L_insert 22 = .ok (.ireturn, 1) := by decide +kernel
theorem d_L_insert_23 : decode b_L_insert 23 = .ok (.astore 6, 2) := by decide +kernel
theorem d_L_insert_25 : decode b_L_insert 25 = .ok (.iconst 3, 1) := by decide +kernel
theorem d_L_insert_26 : decode b_L_insert 26 = .ok (.ireturn, 1) := by decide +kernel
theorem d_L_insert_27 : decode b_L_insert 27 = .ok (.iconst 0, 1) := by decide +kernel
theorem d_L_insert_28 : decode b_L_insert 28 = .ok (.ireturn, 1) := by decide +kernel
theorem d_L_delete_0 : decode b_L_delete 0 = .ok (.aload_n 3, 1) := by decide +kernel
theorem d_L_delete_1 : decode b_L_delete 1 = .ok (.iconst 0, 1) := by decide +kernel
theorem d_L_delete_2 : decode b_L_delete 2 = .ok (.aload_n 0, 1) := by decide +kernel
theorem d_L_delete_3 : decode b_L_delete 3 = .ok (.iload_n 1, 1) := by decide +kernel
theorem d_L_delete_4 : decode b_L_delete 4 = .ok (.iload_n 2, 1) := by decide +kernel
theorem d_L_delete_5 : decode b_L_delete 5 = .ok (.invokevirtual 19, 3) := by decide +kernel
theorem d_L_delete_8 : decode b_L_delete 8 = .ok (.i2l, 1) := by decide +kernel
theorem d_L_delete_9 : decode b_L_delete 9 = .ok (.lastore, 1) := by decide +kernel
theorem d_L_delete_10 : decode b_L_delete 10 = .ok (.goto 15, 3) := by decide +kernel
theorem d_L_delete_13 : decode b_L_delete 13 = .ok (.astore 4, 2) := by decide +kernel
theorem d_L_delete_15 : decode b_L_delete 15 = .ok (.iconst 1, 1) := by decide +kernel
theorem d_L_delete_16 : decode b_L_delete 16 = .ok (.ireturn, 1) := by decide +kernel
theorem d_L_delete_17 : decode b_L_delete 17 = .ok (.astore 4, 2) := by decide +kernel
theorem d_L_delete_19 : decode b_L_delete 19 = .ok (.iconst 2, 1) := by decide +kernel
theorem d_L_delete_20 : decode b_L_delete 20 = .ok (.ireturn, 1) := by decide +kernel
theorem d_L_delete_21 : decode b_L_delete 21 = .ok (.astore 4, 2) := by decide +kernel
theorem d_L_delete_23 : decode b_L_delete 23 = .ok (.iconst 3, 1) := by decide +kernel
theorem d_L_delete_24 : decode b_L_delete 24 = .ok (.ireturn, 1) := by decide +kernel
theorem d_L_delete_25 : decode b_L_delete 25 = .ok (.iconst 0, 1) := by decide +kernel
theorem d_L_delete_26 : decode b_L_delete 26 = .ok (.ireturn, 1) := by decide +kernel
theorem d_L_give_0 : decode b_L_give 0 = .ok (.aload_n 0, 1) := by decide +kernel
theorem d_L_give_1 : decode b_L_give 1 = .ok (.iload_n 1, 1) := by decide +kernel
theorem d_L_give_2 : decode b_L_give 2 = .ok (.iload_n 2, 1) := by decide +kernel
theorem d_L_give_3 : decode b_L_give 3 = .ok (.invokevirtual 23, 3) := by decide +kernel
theorem d_L_give_6 : decode b_L_give 6 = .ok (.goto 12, 3) := by decide +kernel
theorem d_L_give_9 : decode b_L_give 9 = .ok (.astore_n 3, 1) := by decide +kernel
theorem d_L_give_10 : decode b_L_give 10 = .ok (.iconst 1, 1) := by decide +kernel
theorem d_L_give_11 : decode b_L_give 11 = .ok (.ireturn, 1) := by decide +kernel
theorem d_L_give_12 : decode b_L_give 12 = .ok (.astore_n 3, 1) := by decide +kernel
theorem d_L_give_13 : decode b_L_give 13 = .ok (.iconst 2, 1) := by decide +kernel
theorem d_L_give_14 : decode b_L_give 14 = .ok (.ireturn, 1) := by decide +kernel
theorem d_L_give_15 : decode b_L_give 15 = .ok (.astore_n 3, 1) := by decide +kernel
theorem d_L_give_16 : decode b_L_give 16 = .ok (.iconst 3, 1) := by decide +kernel
theorem d_L_give_17 : decode b_L_give 17 = .ok (.ireturn, 1) := by decide +kernel
theorem d_L_give_18 : decode b_L_give 18 = .ok (.iconst 0, 1) := by decide +kernel
theorem d_L_give_19 : decode b_L_give 19 = .ok (.ireturn, 1) := by decide +kernel
theorem d_L_tell_0 : decode b_L_tell 0 = .ok (.aload_n 3, 1) := by decide +kernel
theorem d_L_tell_1 : decode b_L_tell 1 = .ok (.iconst 0, 1) := by decide +kernel
theorem d_L_tell_2 : decode b_L_tell 2 = .ok (.aload_n 0, 1) := by decide +kernel
theorem d_L_tell_3 : decode b_L_tell 3 = .ok (.iload_n 1, 1) := by decide +kernel
theorem d_L_tell_4 : decode b_L_tell 4 = .ok (.iload_n 2, 1) := by decide +kernel
theorem d_L_tell_5 : decode b_L_tell 5 = .ok (.invokevirtual 27, 3) := by decide +kernel
theorem d_L_tell_8 : decode b_L_tell 8 = .ok (.i2l, 1) := by decide +kernel
theorem d_L_tell_9 : decode b_L_tell 9 = .ok (.lastore, 1) := by decide +kernel
theorem d_L_tell_10 : decode b_L_tell 10 = .ok (.goto 7, 3) := by decide +kernel
theorem d_L_tell_13 : decode b_L_tell 13 = .ok (.astore 4, 2) := by decide +kernel
theorem d_L_tell_15 : decode b_L_tell 15 = .ok (.iconst 1, 1) := by decide +kernel
theorem d_L_tell_16 : decode b_L_tell 16 = .ok (.ireturn, 1) := by decide +kernel
theorem d_L_tell_17 : decode b_L_tell 17 = .ok (.iconst 0, 1) := by decide +kernel
theorem d_L_tell_18 : decode b_L_tell 18 = .ok (.ireturn, 1) := by decide +kernel
theorem d_L_holds_0 : decode b_L_holds 0 = .ok (.aload_n 3, 1) := by decide +kernel
theorem d_L_holds_1 : decode b_L_holds 1 = .ok (.iconst 0, 1) := by decide +kernel
theorem d_L_holds_2 : decode b_L_holds 2 = .ok (.aload_n 0, 1) := by decide +kernel
theorem d_L_holds_3 : decode b_L_holds 3 = .ok (.iload_n 1, 1) := by decide +kernel
theorem d_L_holds_4 : decode b_L_holds 4 = .ok (.iload_n 2, 1) := by decide +kernel
theorem d_L_holds_5 : decode b_L_holds 5 = .ok (.invokevirtual 30, 3) := by decide +kernel
theorem d_L_holds_8 : decode b_L_holds 8 = .ok (.ifCond .eq 7, 3) := by decide +kernel
theorem d_L_holds_11 : decode b_L_holds 11 = .ok (.lconst 1, 1) := by decide +kernel
theorem d_L_holds_12 : decode b_L_holds 12 = .ok (.goto 4, 3) := by decide +kernel
theorem d_L_holds_15 : decode b_L_holds 15 = .ok (.lconst 0, 1) := by decide +kernel
theorem d_L_holds_16 : decode b_L_holds 16 = .ok (.lastore, 1) := by decide +kernel
theorem d_L_holds_17 : decode b_L_holds 17 = .ok (.goto 11, 3) := by decide +kernel
theorem d_L_holds_20 : decode b_L_holds 20 = .ok (.astore 4, 2) := by decide +kernel
theorem d_L_holds_22 : decode b_L_holds 22 = .ok (.iconst 1, 1) := by decide +kernel
theorem d_L_holds_23 : decode b_L_holds 23 = .ok (.ireturn, 1) := by decide +kernel
theorem d_L_holds_24 : decode b_L_holds 24 = .ok (.astore 4, 2) := by decide +kernel
theorem d_L_holds_26 : decode b_L_holds 26 = .ok (.iconst 2, 1) := by decide +kernel
theorem d_L_holds_27 : decode b_L_holds 27 = .ok (.ireturn, 1) := by decide +kernel
theorem d_L_holds_28 : decode b_L_holds 28 = .ok (.iconst 0, 1) := by decide +kernel
theorem d_L_holds_29 : decode b_L_holds 29 = .ok (.ireturn, 1) := by decide +kernel
theorem d_L_at_0 : decode b_L_at 0 = .ok (.aload_n 3, 1) := by decide +kernel
theorem d_L_at_1 : decode b_L_at 1 = .ok (.iconst 0, 1) := by decide +kernel
theorem d_L_at_2 : decode b_L_at 2 = .ok (.aload_n 0, 1) := by decide +kernel
theorem d_L_at_3 : decode b_L_at 3 = .ok (.iload_n 1, 1) := by decide +kernel
theorem d_L_at_4 : decode b_L_at 4 = .ok (.iload_n 2, 1) := by decide +kernel
theorem d_L_at_5 : decode b_L_at 5 = .ok (.invokevirtual 34, 3) := by decide +kernel
theorem d_L_at_8 : decode b_L_at 8 = .ok (.i2l, 1) := by decide +kernel
theorem d_L_at_9 : decode b_L_at 9 = .ok (.lastore, 1) := by decide +kernel
theorem d_L_at_10 : decode b_L_at 10 = .ok (.goto 7, 3) := by decide +kernel
theorem d_L_at_13 : decode b_L_at 13 = .ok (.astore 4, 2) := by decide +kernel
theorem d_L_at_15 : decode b_L_at 15 = .ok (.iconst 1, 1) := by decide +kernel
theorem d_L_at_16 : decode b_L_at 16 = .ok (.ireturn, 1) := by decide +kernel
theorem d_L_at_17 : decode b_L_at 17 = .ok (.iconst 0, 1) := by decide +kernel
theorem d_L_at_18 : decode b_L_at 18 = .ok (.ireturn, 1) := by decide +kernel
theorem d_L_place_0 : decode b_L_place 0 = .ok (.aload_n 3, 1) := by decide +kernel
theorem d_L_place_1 : decode b_L_place 1 = .ok (.iconst 0, 1) := by decide +kernel
theorem d_L_place_2 : decode b_L_place 2 = .ok (.aload_n 0, 1) := by decide +kernel
theorem d_L_place_3 : decode b_L_place 3 = .ok (.iload_n 1, 1) := by decide +kernel
theorem d_L_place_4 : decode b_L_place 4 = .ok (.iload_n 2, 1) := by decide +kernel
theorem d_L_place_5 : decode b_L_place 5 = .ok (.invokevirtual 37, 3) := by decide +kernel
theorem d_L_place_8 : decode b_L_place 8 = .ok (.i2l, 1) := by decide +kernel
theorem d_L_place_9 : decode b_L_place 9 = .ok (.lastore, 1) := by decide +kernel
theorem d_L_place_10 : decode b_L_place 10 = .ok (.goto 15, 3) := by decide +kernel
theorem d_L_place_13 : decode b_L_place 13 = .ok (.astore 4, 2) := by decide +kernel
theorem d_L_place_15 : decode b_L_place 15 = .ok (.iconst 1, 1) := by decide +kernel
theorem d_L_place_16 : decode b_L_place 16 = .ok (.ireturn, 1) := by decide +kernel
theorem d_L_place_17 : decode b_L_place 17 = .ok (.astore 4, 2) := by decide +kernel
theorem d_L_place_19 : decode b_L_place 19 = .ok (.iconst 2, 1) := by decide +kernel
theorem d_L_place_20 : decode b_L_place 20 = .ok (.ireturn, 1) := by decide +kernel
theorem d_L_place_21 : decode b_L_place 21 = .ok (.astore 4, 2) := by decide +kernel
theorem d_L_place_23 : decode b_L_place 23 = .ok (.iconst 3, 1) := by decide +kernel
theorem d_L_place_24 : decode b_L_place 24 = .ok (.ireturn, 1) := by decide +kernel
theorem d_L_place_25 : decode b_L_place 25 = .ok (.iconst 0, 1) := by decide +kernel
theorem d_L_place_26 : decode b_L_place 26 = .ok (.ireturn, 1) := by decide +kernel
theorem d_L_value_0 : decode b_L_value 0 = .ok (.aload_n 2, 1) := by decide +kernel
theorem d_L_value_1 : decode b_L_value 1 = .ok (.iconst 0, 1) := by decide +kernel
theorem d_L_value_2 : decode b_L_value 2 = .ok (.aload_n 0, 1) := by decide +kernel
theorem d_L_value_3 : decode b_L_value 3 = .ok (.iload_n 1, 1) := by decide +kernel
theorem d_L_value_4 : decode b_L_value 4 = .ok (.invokevirtual 40, 3) := by decide +kernel
theorem d_L_value_7 : decode b_L_value 7 = .ok (.lastore, 1) := by decide +kernel
theorem d_L_value_8 : decode b_L_value 8 = .ok (.goto 6, 3) := by decide +kernel
theorem d_L_value_11 : decode b_L_value 11 = .ok (.astore_n 3, 1) := by decide +kernel
theorem d_L_value_12 : decode b_L_value 12 = .ok (.iconst 1, 1) := by decide +kernel
theorem d_L_value_13 : decode b_L_value 13 = .ok (.ireturn, 1) := by decide +kernel
theorem d_L_value_14 : decode b_L_value 14 = .ok (.iconst 0, 1) := by decide +kernel
theorem d_L_value_15 : decode b_L_value 15 = .ok (.ireturn, 1) := by decide +kernel
theorem d_L_stamp_0 : decode b_L_stamp 0 = .ok (.aload_n 2, 1) := by decide +kernel
theorem d_L_stamp_1 : decode b_L_stamp 1 = .ok (.iconst 0, 1) := by decide +kernel
theorem d_L_stamp_2 : decode b_L_stamp 2 = .ok (.aload_n 0, 1) := by decide +kernel
theorem d_L_stamp_3 : decode b_L_stamp 3 = .ok (.iload_n 1, 1) := by decide +kernel
theorem d_L_stamp_4 : decode b_L_stamp 4 = .ok (.invokevirtual 44, 3) := by decide +kernel
theorem d_L_stamp_7 : decode b_L_stamp 7 = .ok (.i2l, 1) := by decide +kernel
theorem d_L_stamp_8 : decode b_L_stamp 8 = .ok (.lastore, 1) := by decide +kernel
theorem d_L_stamp_9 : decode b_L_stamp 9 = .ok (.goto 6, 3) := by decide +kernel
theorem d_L_stamp_12 : decode b_L_stamp 12 = .ok (.astore_n 3, 1) := by decide +kernel
theorem d_L_stamp_13 : decode b_L_stamp 13 = .ok (.iconst 1, 1) := by decide +kernel
theorem d_L_stamp_14 : decode b_L_stamp 14 = .ok (.ireturn, 1) := by decide +kernel
theorem d_L_stamp_15 : decode b_L_stamp 15 = .ok (.iconst 0, 1) := by decide +kernel
theorem d_L_stamp_16 : decode b_L_stamp 16 = .ok (.ireturn, 1) := by decide +kernel
theorem d_L_count_0 : decode b_L_count 0 = .ok (.aload_n 3, 1) := by decide +kernel
theorem d_L_count_1 : decode b_L_count 1 = .ok (.iconst 0, 1) := by decide +kernel
theorem d_L_count_2 : decode b_L_count 2 = .ok (.aload_n 0, 1) := by decide +kernel
theorem d_L_count_3 : decode b_L_count 3 = .ok (.iload_n 1, 1) := by decide +kernel
theorem d_L_count_4 : decode b_L_count 4 = .ok (.iload_n 2, 1) := by decide +kernel
theorem d_L_count_5 : decode b_L_count 5 = .ok (.invokevirtual 48, 3) := by decide +kernel
theorem d_L_count_8 : decode b_L_count 8 = .ok (.i2l, 1) := by decide +kernel
theorem d_L_count_9 : decode b_L_count 9 = .ok (.lastore, 1) := by decide +kernel
theorem d_L_count_10 : decode b_L_count 10 = .ok (.goto 7, 3) := by decide +kernel
theorem d_L_count_13 : decode b_L_count 13 = .ok (.astore 4, 2) := by decide +kernel
theorem d_L_count_15 : decode b_L_count 15 = .ok (.iconst 1, 1) := by decide +kernel
theorem d_L_count_16 : decode b_L_count 16 = .ok (.ireturn, 1) := by decide +kernel
theorem d_L_count_17 : decode b_L_count 17 = .ok (.iconst 0, 1) := by decide +kernel
theorem d_L_count_18 : decode b_L_count 18 = .ok (.ireturn, 1) := by decide +kernel
theorem d_L_same_0 : decode b_L_same 0 = .ok (.aload_n 3, 1) := by decide +kernel
theorem d_L_same_1 : decode b_L_same 1 = .ok (.iconst 0, 1) := by decide +kernel
theorem d_L_same_2 : decode b_L_same 2 = .ok (.aload_n 0, 1) := by decide +kernel
theorem d_L_same_3 : decode b_L_same 3 = .ok (.iload_n 1, 1) := by decide +kernel
theorem d_L_same_4 : decode b_L_same 4 = .ok (.iload_n 2, 1) := by decide +kernel
theorem d_L_same_5 : decode b_L_same 5 = .ok (.invokevirtual 51, 3) := by decide +kernel
theorem d_L_same_8 : decode b_L_same 8 = .ok (.ifCond .eq 7, 3) := by decide +kernel
theorem d_L_same_11 : decode b_L_same 11 = .ok (.lconst 1, 1) := by decide +kernel
theorem d_L_same_12 : decode b_L_same 12 = .ok (.goto 4, 3) := by decide +kernel
theorem d_L_same_15 : decode b_L_same 15 = .ok (.lconst 0, 1) := by decide +kernel
theorem d_L_same_16 : decode b_L_same 16 = .ok (.lastore, 1) := by decide +kernel
theorem d_L_same_17 : decode b_L_same 17 = .ok (.goto 7, 3) := by decide +kernel
theorem d_L_same_20 : decode b_L_same 20 = .ok (.astore 4, 2) := by decide +kernel
theorem d_L_same_22 : decode b_L_same 22 = .ok (.iconst 1, 1) := by decide +kernel
theorem d_L_same_23 : decode b_L_same 23 = .ok (.ireturn, 1) := by decide +kernel
theorem d_L_same_24 : decode b_L_same 24 = .ok (.iconst 0, 1) := by decide +kernel
theorem d_L_same_25 : decode b_L_same 25 = .ok (.ireturn, 1) := by decide +kernel
