theorem d_X_init_0 : decode b_X_init 0 = .ok (.aload_n 0, 1) := by decide +kernel
theorem d_X_init_1 : decode b_X_init 1 = .ok (.invokespecial 1, 3) := by decide +kernel
theorem d_X_init_4 : decode b_X_init 4 = .ok (.aload_n 0, 1) := by decide +kernel
theorem d_X_init_5 : decode b_X_init 5 = .ok (.iconst 0, 1) := by decide +kernel
theorem d_X_init_6 : decode b_X_init 6 = .ok (.putfield 7, 3) := by decide +kernel
theorem d_X_init_9 : decode b_X_init 9 = .ok (.aload_n 0, 1) := by decide +kernel
theorem d_X_init_10 : decode b_X_init 10 = .ok (.sipush 160, 3) := by decide +kernel
theorem d_X_init_13 : decode b_X_init 13 = .ok (.newarray .boolean, 2) := by decide +kernel
theorem d_X_init_15 : decode b_X_init 15 = .ok (.putfield 13, 3) := by decide +kernel
theorem d_X_init_18 : decode b_X_init 18 = .ok (.aload_n 0, 1) := by decide +kernel
theorem d_X_init_19 : decode b_X_init 19 = .ok (.sipush 160, 3) := by decide +kernel
theorem d_X_init_22 : decode b_X_init 22 = .ok (.newarray .int, 2) := by decide +kernel
theorem d_X_init_24 : decode b_X_init 24 = .ok (.putfield 17, 3) := by decide +kernel
theorem d_X_init_27 : decode b_X_init 27 = .ok (.aload_n 0, 1) := by decide +kernel
theorem d_X_init_28 : decode b_X_init 28 = .ok (.sipush 160, 3) := by decide +kernel
theorem d_X_init_31 : decode b_X_init 31 = .ok (.newarray .long, 2) := by decide +kernel
theorem d_X_init_33 : decode b_X_init 33 = .ok (.putfield 21, 3) := by decide +kernel
theorem d_X_init_36 : decode b_X_init 36 = .ok (.aload_n 0, 1) := by decide +kernel
theorem d_X_init_37 : decode b_X_init 37 = .ok (.sipush 160, 3) := by decide +kernel
theorem d_X_init_40 : decode b_X_init 40 = .ok (.newarray .int, 2) := by decide +kernel
theorem d_X_init_42 : decode b_X_init 42 = .ok (.putfield 25, 3) := by decide +kernel
theorem d_X_init_45 : decode b_X_init 45 = .ok (.aload_n 0, 1) := by decide +kernel
theorem d_X_init_46 : decode b_X_init 46 = .ok (.sipush 160, 3) := by decide +kernel
theorem d_X_init_49 : decode b_X_init 49 = .ok (.newarray .int, 2) := by decide +kernel
theorem d_X_init_51 : decode b_X_init 51 = .ok (.putfield 28, 3) := by decide +kernel
theorem d_X_init_54 : decode b_X_init 54 = .ok (.aload_n 0, 1) := by decide +kernel
theorem d_X_init_55 : decode b_X_init 55 = .ok (.sipush 160, 3) := by decide +kernel
theorem d_X_init_58 : decode b_X_init 58 = .ok (.newarray .int, 2) := by decide +kernel
theorem d_X_init_60 : decode b_X_init 60 = .ok (.putfield 31, 3) := by decide +kernel
theorem d_X_init_63 : decode b_X_init 63 = .ok (.aload_n 0, 1) := by decide +kernel
theorem d_X_init_64 : decode b_X_init 64 = .ok (.sipush 160, 3) := by decide +kernel
theorem d_X_init_67 : decode b_X_init 67 = .ok (.newarray .int, 2) := by decide +kernel
theorem d_X_init_69 : decode b_X_init 69 = .ok (.putfield 34, 3) := by decide +kernel
theorem d_X_init_72 : decode b_X_init 72 = .ok (.aload_n 0, 1) := by decide +kernel
theorem d_X_init_73 : decode b_X_init 73 = .ok (.iconst 4, 1) := by decide +kernel
theorem d_X_init_74 : decode b_X_init 74 = .ok (.newarray .int, 2) := by decide +kernel
theorem d_X_init_76 : decode b_X_init 76 = .ok (.putfield 37, 3) := by decide +kernel
theorem d_X_init_79 : decode b_X_init 79 = .ok (.aload_n 0, 1) := by decide +kernel
theorem d_X_init_80 : decode b_X_init 80 = .ok (.sipush 160, 3) := by decide +kernel
theorem d_X_init_83 : decode b_X_init 83 = .ok (.newarray .int, 2) := by decide +kernel
theorem d_X_init_85 : decode b_X_init 85 = .ok (.putfield 40, 3) := by decide +kernel
theorem d_X_init_88 : decode b_X_init 88 = .ok (.aload_n 0, 1) := by decide +kernel
theorem d_X_init_89 : decode b_X_init 89 = .ok (.iconst 0, 1) := by decide +kernel
theorem d_X_init_90 : decode b_X_init 90 = .ok (.putfield 43, 3) := by decide +kernel
theorem d_X_init_93 : decode b_X_init 93 = .ok (.return_, 1) := by decide +kernel
theorem d_X_insert_0 : decode b_X_insert 0 = .ok (.aload_n 0, 1) := by decide +kernel
theorem d_X_insert_1 : decode b_X_insert 1 = .ok (.iload_n 1, 1) := by decide +kernel
theorem d_X_insert_2 : decode b_X_insert 2 = .ok (.invokevirtual 46, 3) := by decide +kernel
theorem d_X_insert_5 : decode b_X_insert 5 = .ok (.aload_n 0, 1) := by decide +kernel
theorem d_X_insert_6 : decode b_X_insert 6 = .ok (.invokevirtual 50, 3) := by decide +kernel
theorem d_X_insert_9 : decode b_X_insert 9 = .ok (.iload_n 2, 1) := by decide +kernel
theorem d_X_insert_10 : decode b_X_insert 10 = .ok (.iconst (-1), 1) := by decide +kernel
theorem d_X_insert_11 : decode b_X_insert 11 = .ok (.if_icmp .eq 9, 3) := by decide +kernel
theorem d_X_insert_14 : decode b_X_insert 14 = .ok (.aload_n 0, 1) := by decide +kernel
theorem d_X_insert_15 : decode b_X_insert 15 = .ok (.iload_n 1, 1) := by decide +kernel
theorem d_X_insert_16 : decode b_X_insert 16 = .ok (.iload_n 2, 1) := by decide +kernel
theorem d_X_insert_17 : decode b_X_insert 17 = .ok (.invokevirtual 53, 3) := by decide +kernel
theorem d_X_insert_20 : decode b_X_insert 20 = .ok (.aload_n 0, 1) := by decide +kernel
theorem d_X_insert_21 : decode b_X_insert 21 = .ok (.iload_n 1, 1) := by decide +kernel
theorem d_X_insert_22 : decode b_X_insert 22 = .ok (.iload_n 2, 1) := by decide +kernel
theorem d_X_insert_23 : decode b_X_insert 23 = .ok (.iconst 0, 1) := by decide +kernel
theorem d_X_insert_24 : decode b_X_insert 24 = .ok (.invokevirtual 57, 3) := by decide +kernel
theorem d_X_insert_27 : decode b_X_insert 27 = .ok (.istore 5, 2) := by decide +kernel
theorem d_X_insert_29 : decode b_X_insert 29 = .ok (.aload_n 0, 1) := by decide +kernel
theorem d_X_insert_30 : decode b_X_insert 30 = .ok (.getfield 21, 3) := by decide +kernel
theorem d_X_insert_33 : decode b_X_insert 33 = .ok (.iload 5, 2) := by decide +kernel
theorem d_X_insert_35 : decode b_X_insert 35 = .ok (.lload_n 3, 1) := by decide +kernel
theorem d_X_insert_36 : decode b_X_insert 36 = .ok (.lastore, 1) := by decide +kernel
theorem d_X_insert_37 : decode b_X_insert 37 = .ok (.aload_n 0, 1) := by decide +kernel
theorem d_X_insert_38 : decode b_X_insert 38 = .ok (.iload 5, 2) := by decide +kernel
theorem d_X_insert_40 : decode b_X_insert 40 = .ok (.invokevirtual 61, 3) := by decide +kernel
theorem d_X_insert_43 : decode b_X_insert 43 = .ok (.iload 5, 2) := by decide +kernel
theorem d_X_insert_45 : decode b_X_insert 45 = .ok (.ireturn, 1) := by decide +kernel
theorem d_X_delete_0 : decode b_X_delete 0 = .ok (.aload_n 0, 1) := by decide +kernel
theorem d_X_delete_1 : decode b_X_delete 1 = .ok (.iload_n 1, 1) := by decide +kernel
theorem d_X_delete_2 : decode b_X_delete 2 = .ok (.invokevirtual 46, 3) := by decide +kernel
theorem d_X_delete_5 : decode b_X_delete 5 = .ok (.aload_n 0, 1) := by decide +kernel
theorem d_X_delete_6 : decode b_X_delete 6 = .ok (.invokevirtual 50, 3) := by decide +kernel
theorem d_X_delete_9 : decode b_X_delete 9 = .ok (.aload_n 0, 1) := by decide +kernel
theorem d_X_delete_10 : decode b_X_delete 10 = .ok (.iload_n 1, 1) := by decide +kernel
theorem d_X_delete_11 : decode b_X_delete 11 = .ok (.iload_n 2, 1) := by decide +kernel
theorem d_X_delete_12 : decode b_X_delete 12 = .ok (.invokevirtual 53, 3) := by decide +kernel
theorem d_X_delete_15 : decode b_X_delete 15 = .ok (.aload_n 0, 1) := by decide +kernel
theorem d_X_delete_16 : decode b_X_delete 16 = .ok (.iload_n 1, 1) := by decide +kernel
theorem d_X_delete_17 : decode b_X_delete 17 = .ok (.iload_n 2, 1) := by decide +kernel
theorem d_X_delete_18 : decode b_X_delete 18 = .ok (.iconst 1, 1) := by decide +kernel
theorem d_X_delete_19 : decode b_X_delete 19 = .ok (.invokevirtual 57, 3) := by decide +kernel
theorem d_X_delete_22 : decode b_X_delete 22 = .ok (.ireturn, 1) := by decide +kernel
theorem d_X_give_0 : decode b_X_give 0 = .ok (.aload_n 0, 1) := by decide +kernel
theorem d_X_give_1 : decode b_X_give 1 = .ok (.iload_n 1, 1) := by decide +kernel
theorem d_X_give_2 : decode b_X_give 2 = .ok (.invokevirtual 46, 3) := by decide +kernel
theorem d_X_give_5 : decode b_X_give 5 = .ok (.aload_n 0, 1) := by decide +kernel
theorem d_X_give_6 : decode b_X_give 6 = .ok (.iload_n 2, 1) := by decide +kernel
theorem d_X_give_7 : decode b_X_give 7 = .ok (.invokevirtual 64, 3) := by decide +kernel
theorem d_X_give_10 : decode b_X_give 10 = .ok (.aload_n 0, 1) := by decide +kernel
theorem d_X_give_11 : decode b_X_give 11 = .ok (.getfield 17, 3) := by decide +kernel
theorem d_X_give_14 : decode b_X_give 14 = .ok (.iload_n 2, 1) := by decide +kernel
theorem d_X_give_15 : decode b_X_give 15 = .ok (.iaload, 1) := by decide +kernel
theorem d_X_give_16 : decode b_X_give 16 = .ok (.iconst (-1), 1) := by decide +kernel
theorem d_X_give_17 : decode b_X_give 17 = .ok (.if_icmp .eq 14, 3) := by decide +kernel
theorem d_X_give_20 : decode b_X_give 20 = .ok (.aload_n 0, 1) := by decide +kernel
theorem d_X_give_21 : decode b_X_give 21 = .ok (.iload_n 1, 1) := by decide +kernel
theorem d_X_give_22 : decode b_X_give 22 = .ok (.aload_n 0, 1) := by decide +kernel
theorem d_X_give_23 : decode b_X_give 23 = .ok (.getfield 17, 3) := by decide +kernel
theorem d_X_give_26 : decode b_X_give 26 = .ok (.iload_n 2, 1) := by decide +kernel
theorem d_X_give_27 : decode b_X_give 27 = .ok (.iaload, 1) := by decide +kernel
theorem d_X_give_28 : decode b_X_give 28 = .ok (.invokevirtual 53, 3) := by decide +kernel
theorem d_X_give_31 : decode b_X_give 31 = .ok (.aload_n 0, 1) := by decide +kernel
theorem d_X_give_32 : decode b_X_give 32 = .ok (.iload_n 1, 1) := by decide +kernel
theorem d_X_give_33 : decode b_X_give 33 = .ok (.iload_n 2, 1) := by decide +kernel
theorem d_X_give_34 : decode b_X_give 34 = .ok (.invokevirtual 67, 3) := by decide +kernel
theorem d_X_give_37 : decode b_X_give 37 = .ok (.return_, 1) := by decide +kernel
theorem d_X_tell_0 : decode b_X_tell 0 = .ok (.aload_n 0, 1) := by decide +kernel
theorem d_X_tell_1 : decode b_X_tell 1 = .ok (.iload_n 1, 1) := by decide +kernel
theorem d_X_tell_2 : decode b_X_tell 2 = .ok (.invokevirtual 46, 3) := by decide +kernel
theorem d_X_tell_5 : decode b_X_tell 5 = .ok (.aload_n 0, 1) := by decide +kernel
theorem d_X_tell_6 : decode b_X_tell 6 = .ok (.iload_n 2, 1) := by decide +kernel
theorem d_X_tell_7 : decode b_X_tell 7 = .ok (.invokevirtual 46, 3) := by decide +kernel
theorem d_X_tell_10 : decode b_X_tell 10 = .ok (.iconst 0, 1) := by decide +kernel
theorem d_X_tell_11 : decode b_X_tell 11 = .ok (.istore_n 3, 1) := by decide +kernel
theorem d_X_tell_12 : decode b_X_tell 12 = .ok (.iconst 0, 1) := by decide +kernel
theorem d_X_tell_13 : decode b_X_tell 13 = .ok (.istore 4, 2) := by decide +kernel
theorem d_X_tell_15 : decode b_X_tell 15 = .ok (.iload 4, 2) := by decide +kernel
theorem d_X_tell_17 : decode b_X_tell 17 = .ok (.aload_n 0, 1) := by decide +kernel
theorem d_X_tell_18 : decode b_X_tell 18 = .ok (.getfield 7, 3) := by decide +kernel
theorem d_X_tell_21 : decode b_X_tell 21 = .ok (.if_icmp .ge 39, 3) := by decide +kernel
theorem d_X_tell_24 : decode b_X_tell 24 = .ok (.aload_n 0, 1) := by decide +kernel
theorem d_X_tell_25 : decode b_X_tell 25 = .ok (.iload_n 2, 1) := by decide +kernel
theorem d_X_tell_26 : decode b_X_tell 26 = .ok (.iload 4, 2) := by decide +kernel
theorem d_X_tell_28 : decode b_X_tell 28 = .ok (.invokevirtual 70, 3) := by decide +kernel
theorem d_X_tell_31 : decode b_X_tell 31 = .ok (.ifCond .eq 23, 3) := by decide +kernel
theorem d_X_tell_34 : decode b_X_tell 34 = .ok (.aload_n 0, 1) := by decide +kernel
theorem d_X_tell_35 : decode b_X_tell 35 = .ok (.iload_n 1, 1) := by decide +kernel
theorem d_X_tell_36 : decode b_X_tell 36 = .ok (.iload 4, 2) := by decide +kernel
theorem d_X_tell_38 : decode b_X_tell 38 = .ok (.invokevirtual 70, 3) := by decide +kernel
theorem d_X_tell_41 : decode b_X_tell 41 = .ok (.ifCond .ne 13, 3) := by decide +kernel
theorem d_X_tell_44 : decode b_X_tell 44 = .ok (.aload_n 0, 1) := by decide +kernel
theorem d_X_tell_45 : decode b_X_tell 45 = .ok (.iload_n 1, 1) := by decide +kernel
theorem d_X_tell_46 : decode b_X_tell 46 = .ok (.iload 4, 2) := by decide +kernel
theorem d_X_tell_48 : decode b_X_tell 48 = .ok (.invokevirtual 67, 3) := by decide +kernel
theorem d_X_tell_51 : decode b_X_tell 51 = .ok (.iinc 3 1, 3) := by decide +kernel
theorem d_X_tell_54 : decode b_X_tell 54 = .ok (.iinc 4 1, 3) := by decide +kernel
theorem d_X_tell_57 : decode b_X_tell 57 = .ok (.goto (-42), 3) := by decide +kernel
theorem d_X_tell_60 : decode b_X_tell 60 = .ok (.iload_n 3, 1) := by decide +kernel
theorem d_X_tell_61 : decode b_X_tell 61 = .ok (.ireturn, 1) := by decide +kernel
theorem d_X_holds_0 : decode b_X_holds 0 = .ok (.aload_n 0, 1) := by decide +kernel
theorem d_X_holds_1 : decode b_X_holds 1 = .ok (.iload_n 1, 1) := by decide +kernel
theorem d_X_holds_2 : decode b_X_holds 2 = .ok (.invokevirtual 46, 3) := by decide +kernel
theorem d_X_holds_5 : decode b_X_holds 5 = .ok (.aload_n 0, 1) := by decide +kernel
theorem d_X_holds_6 : decode b_X_holds 6 = .ok (.iload_n 2, 1) := by decide +kernel
theorem d_X_holds_7 : decode b_X_holds 7 = .ok (.invokevirtual 64, 3) := by decide +kernel
theorem d_X_holds_10 : decode b_X_holds 10 = .ok (.aload_n 0, 1) := by decide +kernel
theorem d_X_holds_11 : decode b_X_holds 11 = .ok (.iload_n 1, 1) := by decide +kernel
theorem d_X_holds_12 : decode b_X_holds 12 = .ok (.iload_n 2, 1) := by decide +kernel
theorem d_X_holds_13 : decode b_X_holds 13 = .ok (.invokevirtual 70, 3) := by decide +kernel
theorem d_X_holds_16 : decode b_X_holds 16 = .ok (.ireturn, 1) := by decide +kernel
theorem d_X_at_0 : decode b_X_at 0 = .ok (.aload_n 0, 1) := by decide +kernel
theorem d_X_at_1 : decode b_X_at 1 = .ok (.iload_n 1, 1) := by decide +kernel
theorem d_X_at_2 : decode b_X_at 2 = .ok (.invokevirtual 46, 3) := by decide +kernel
theorem d_X_at_5 : decode b_X_at 5 = .ok (.iconst 0, 1) := by decide +kernel
theorem d_X_at_6 : decode b_X_at 6 = .ok (.istore_n 3, 1) := by decide +kernel
theorem d_X_at_7 : decode b_X_at 7 = .ok (.iconst 0, 1) := by decide +kernel
theorem d_X_at_8 : decode b_X_at 8 = .ok (.istore 4, 2) := by decide +kernel
theorem d_X_at_10 : decode b_X_at 10 = .ok (.iload 4, 2) := by decide +kernel
theorem d_X_at_12 : decode b_X_at 12 = .ok (.aload_n 0, 1) := by decide +kernel
theorem d_X_at_13 : decode b_X_at 13 = .ok (.getfield 43, 3) := by decide +kernel
theorem d_X_at_16 : decode b_X_at 16 = .ok (.if_icmp .ge 40, 3) := by decide +kernel
theorem d_X_at_19 : decode b_X_at 19 = .ok (.aload_n 0, 1) := by decide +kernel
theorem d_X_at_20 : decode b_X_at 20 = .ok (.iload_n 1, 1) := by decide +kernel
theorem d_X_at_21 : decode b_X_at 21 = .ok (.aload_n 0, 1) := by decide +kernel
theorem d_X_at_22 : decode b_X_at 22 = .ok (.getfield 40, 3) := by decide +kernel
theorem d_X_at_25 : decode b_X_at 25 = .ok (.iload 4, 2) := by decide +kernel
theorem d_X_at_27 : decode b_X_at 27 = .ok (.iaload, 1) := by decide +kernel
theorem d_X_at_28 : decode b_X_at 28 = .ok (.invokevirtual 74, 3) := by decide +kernel
theorem d_X_at_31 : decode b_X_at 31 = .ok (.ifCond .eq 19, 3) := by decide +kernel
theorem d_X_at_34 : decode b_X_at 34 = .ok (.iload_n 3, 1) := by decide +kernel
theorem d_X_at_35 : decode b_X_at 35 = .ok (.iload_n 2, 1) := by decide +kernel
theorem d_X_at_36 : decode b_X_at 36 = .ok (.if_icmp .ne 11, 3) := by decide +kernel
theorem d_X_at_39 : decode b_X_at 39 = .ok (.aload_n 0, 1) := by decide +kernel
theorem d_X_at_40 : decode b_X_at 40 = .ok (.getfield 40, 3) := by decide +kernel
theorem d_X_at_43 : decode b_X_at 43 = .ok (.iload 4, 2) := by decide +kernel
theorem d_X_at_45 : decode b_X_at 45 = .ok (.iaload, 1) := by decide +kernel
theorem d_X_at_46 : decode b_X_at 46 = .ok (.ireturn, 1) := by decide +kernel
theorem d_X_at_47 : decode b_X_at 47 = .ok (.iinc 3 1, 3) := by decide +kernel
theorem d_X_at_50 : decode b_X_at 50 = .ok (.iinc 4 1, 3) := by decide +kernel
theorem d_X_at_53 : decode b_X_at 53 = .ok (.goto (-43), 3) := by decide +kernel
theorem d_X_at_56 : decode b_X_at 56 = .ok (.iconst (-1), 1) := by decide +kernel
theorem d_X_at_57 : decode b_X_at 57 = .ok (.ireturn, 1) := by decide +kernel
theorem d_X_place_0 : decode b_X_place 0 = .ok (.aload_n 0, 1) := by decide +kernel
theorem d_X_place_1 : decode b_X_place 1 = .ok (.iload_n 1, 1) := by decide +kernel
theorem d_X_place_2 : decode b_X_place 2 = .ok (.invokevirtual 46, 3) := by decide +kernel
theorem d_X_place_5 : decode b_X_place 5 = .ok (.aload_n 0, 1) := by decide +kernel
theorem d_X_place_6 : decode b_X_place 6 = .ok (.iload_n 2, 1) := by decide +kernel
theorem d_X_place_7 : decode b_X_place 7 = .ok (.invokevirtual 64, 3) := by decide +kernel
theorem d_X_place_10 : decode b_X_place 10 = .ok (.aload_n 0, 1) := by decide +kernel
theorem d_X_place_11 : decode b_X_place 11 = .ok (.iload_n 1, 1) := by decide +kernel
theorem d_X_place_12 : decode b_X_place 12 = .ok (.iload_n 2, 1) := by decide +kernel
theorem d_X_place_13 : decode b_X_place 13 = .ok (.invokevirtual 53, 3) := by decide +kernel
theorem d_X_place_16 : decode b_X_place 16 = .ok (.iconst 0, 1) := by decide +kernel
theorem d_X_place_17 : decode b_X_place 17 = .ok (.istore_n 3, 1) := by decide +kernel
theorem d_X_place_18 : decode b_X_place 18 = .ok (.iconst 0, 1) := by decide +kernel
theorem d_X_place_19 : decode b_X_place 19 = .ok (.istore 4, 2) := by decide +kernel
theorem d_X_place_21 : decode b_X_place 21 = .ok (.iload 4, 2) := by decide +kernel
theorem d_X_place_23 : decode b_X_place 23 = .ok (.aload_n 0, 1) := by decide +kernel
theorem d_X_place_24 : decode b_X_place 24 = .ok (.getfield 43, 3) := by decide +kernel
theorem d_X_place_27 : decode b_X_place 27 = .ok (.if_icmp .ge 38, 3) := by decide +kernel
theorem d_X_place_30 : decode b_X_place 30 = .ok (.aload_n 0, 1) := by decide +kernel
theorem d_X_place_31 : decode b_X_place 31 = .ok (.getfield 40, 3) := by decide +kernel
theorem d_X_place_34 : decode b_X_place 34 = .ok (.iload 4, 2) := by decide +kernel
theorem d_X_place_36 : decode b_X_place 36 = .ok (.iaload, 1) := by decide +kernel
theorem d_X_place_37 : decode b_X_place 37 = .ok (.iload_n 2, 1) := by decide +kernel
theorem d_X_place_38 : decode b_X_place 38 = .ok (.if_icmp .eq 27, 3) := by decide +kernel
theorem d_X_place_41 : decode b_X_place 41 = .ok (.aload_n 0, 1) := by decide +kernel
theorem d_X_place_42 : decode b_X_place 42 = .ok (.iload_n 1, 1) := by decide +kernel
theorem d_X_place_43 : decode b_X_place 43 = .ok (.aload_n 0, 1) := by decide +kernel
theorem d_X_place_44 : decode b_X_place 44 = .ok (.getfield 40, 3) := by decide +kernel
theorem d_X_place_47 : decode b_X_place 47 = .ok (.iload 4, 2) := by decide +kernel
theorem d_X_place_49 : decode b_X_place 49 = .ok (.iaload, 1) := by decide +kernel
theorem d_X_place_50 : decode b_X_place 50 = .ok (.invokevirtual 70, 3) := by decide +kernel
theorem d_X_place_53 : decode b_X_place 53 = .ok (.ifCond .eq 6, 3) := by decide +kernel
theorem d_X_place_56 : decode b_X_place 56 = .ok (.iinc 3 1, 3) := by decide +kernel
theorem d_X_place_59 : decode b_X_place 59 = .ok (.iinc 4 1, 3) := by decide +kernel
theorem d_X_place_62 : decode b_X_place 62 = .ok (.goto (-41), 3) := by decide +kernel
theorem d_X_place_65 : decode b_X_place 65 = .ok (.iload_n 3, 1) := by decide +kernel
theorem d_X_place_66 : decode b_X_place 66 = .ok (.ireturn, 1) := by decide +kernel
theorem d_X_value_0 : decode b_X_value 0 = .ok (.aload_n 0, 1) := by decide +kernel
theorem d_X_value_1 : decode b_X_value 1 = .ok (.iload_n 1, 1) := by decide +kernel
theorem d_X_value_2 : decode b_X_value 2 = .ok (.invokevirtual 77, 3) := by decide +kernel
theorem d_X_value_5 : decode b_X_value 5 = .ok (.ifCond .ne 13, 3) := by decide +kernel
theorem d_X_value_8 : decode b_X_value 8 = .ok (.new 81, 3) := by decide +kernel
theorem d_X_value_11 : decode b_X_value 11 = .ok (.dup, 1) := by decide +kernel
theorem d_X_value_12 : decode b_X_value 12 = .ok (.ldc 83, 2) := by decide +kernel
theorem d_X_value_14 : decode b_X_value 14 = .ok (.invokespecial 85, 3) := by decide +kernel
theorem d_X_value_17 : decode b_X_value 17 = .ok (.athrow, 1) := by decide +kernel
theorem d_X_value_18 : decode b_X_value 18 = .ok (.aload_n 0, 1) := by decide +kernel
theorem d_X_value_19 : decode b_X_value 19 = .ok (.getfield 21, 3) := by decide +kernel
theorem d_X_value_22 : decode b_X_value 22 = .ok (.iload_n 1, 1) := by decide +kernel
theorem d_X_value_23 : decode b_X_value 23 = .ok (.laload, 1) := by decide +kernel
theorem d_X_value_24 : decode b_X_value 24 = .ok (.lreturn, 1) := by decide +kernel
theorem d_X_stamp_0 : decode b_X_stamp 0 = .ok (.aload_n 0, 1) := by decide +kernel
theorem d_X_stamp_1 : decode b_X_stamp 1 = .ok (.iload_n 1, 1) := by decide +kernel
theorem d_X_stamp_2 : decode b_X_stamp 2 = .ok (.invokevirtual 64, 3) := by decide +kernel
theorem d_X_stamp_5 : decode b_X_stamp 5 = .ok (.aload_n 0, 1) := by decide +kernel
theorem d_X_stamp_6 : decode b_X_stamp 6 = .ok (.getfield 25, 3) := by decide +kernel
theorem d_X_stamp_9 : decode b_X_stamp 9 = .ok (.iload_n 1, 1) := by decide +kernel
theorem d_X_stamp_10 : decode b_X_stamp 10 = .ok (.iaload, 1) := by decide +kernel
theorem d_X_stamp_11 : decode b_X_stamp 11 = .ok (.ireturn, 1) := by decide +kernel
theorem d_X_count_0 : decode b_X_count 0 = .ok (.aload_n 0, 1) := by decide +kernel
theorem d_X_count_1 : decode b_X_count 1 = .ok (.iload_n 1, 1) := by decide +kernel
theorem d_X_count_2 : decode b_X_count 2 = .ok (.invokevirtual 46, 3) := by decide +kernel
theorem d_X_count_5 : decode b_X_count 5 = .ok (.iload_n 2, 1) := by decide +kernel
theorem d_X_count_6 : decode b_X_count 6 = .ok (.tableswitch 55 0 3 #[30, 36, 42, 48], 30) := by decide +kernel
theorem d_X_count_36 : decode b_X_count 36 = .ok (.aload_n 0, 1) := by decide +kernel
theorem d_X_count_37 : decode b_X_count 37 = .ok (.iload_n 1, 1) := by decide +kernel
theorem d_X_count_38 : decode b_X_count 38 = .ok (.invokevirtual 88, 3) := by decide +kernel
theorem d_X_count_41 : decode b_X_count 41 = .ok (.ireturn, 1) := by decide +kernel
theorem d_X_count_42 : decode b_X_count 42 = .ok (.aload_n 0, 1) := by decide +kernel
theorem d_X_count_43 : decode b_X_count 43 = .ok (.iload_n 1, 1) := by decide +kernel
theorem d_X_count_44 : decode b_X_count 44 = .ok (.invokevirtual 92, 3) := by decide +kernel
theorem d_X_count_47 : decode b_X_count 47 = .ok (.ireturn, 1) := by decide +kernel
theorem d_X_count_48 : decode b_X_count 48 = .ok (.aload_n 0, 1) := by decide +kernel
theorem d_X_count_49 : decode b_X_count 49 = .ok (.iload_n 1, 1) := by decide +kernel
theorem d_X_count_50 : decode b_X_count 50 = .ok (.invokevirtual 95, 3) := by decide +kernel
theorem d_X_count_53 : decode b_X_count 53 = .ok (.ireturn, 1) := by decide +kernel
theorem d_X_count_54 : decode b_X_count 54 = .ok (.aload_n 0, 1) := by decide +kernel
theorem d_X_count_55 : decode b_X_count 55 = .ok (.getfield 37, 3) := by decide +kernel
theorem d_X_count_58 : decode b_X_count 58 = .ok (.iload_n 1, 1) := by decide +kernel
theorem d_X_count_59 : decode b_X_count 59 = .ok (.iaload, 1) := by decide +kernel
theorem d_X_count_60 : decode b_X_count 60 = .ok (.ireturn, 1) := by decide +kernel
theorem d_X_count_61 : decode b_X_count 61 = .ok (.new 98, 3) := by decide +kernel
theorem d_X_count_64 : decode b_X_count 64 = .ok (.dup, 1) := by decide +kernel
theorem d_X_count_65 : decode b_X_count 65 = .ok (.ldc 100, 2) := by decide +kernel
theorem d_X_count_67 : decode b_X_count 67 = .ok (.invokespecial 102, 3) := by decide +kernel
theorem d_X_count_70 : decode b_X_count 70 = .ok (.athrow, 1) := by decide +kernel
theorem d_X_same_0 : decode b_X_same 0 = .ok (.aload_n 0, 1) := by decide +kernel
theorem d_X_same_1 : decode b_X_same 1 = .ok (.iload_n 1, 1) := by decide +kernel
theorem d_X_same_2 : decode b_X_same 2 = .ok (.invokevirtual 46, 3) := by decide +kernel
theorem d_X_same_5 : decode b_X_same 5 = .ok (.aload_n 0, 1) := by decide +kernel
theorem d_X_same_6 : decode b_X_same 6 = .ok (.iload_n 2, 1) := by decide +kernel
theorem d_X_same_7 : decode b_X_same 7 = .ok (.invokevirtual 46, 3) := by decide +kernel
theorem d_X_same_10 : decode b_X_same 10 = .ok (.iconst 0, 1) := by decide +kernel
theorem d_X_same_11 : decode b_X_same 11 = .ok (.istore_n 3, 1) := by decide +kernel
theorem d_X_same_12 : decode b_X_same 12 = .ok (.iload_n 3, 1) := by decide +kernel
theorem d_X_same_13 : decode b_X_same 13 = .ok (.aload_n 0, 1) := by decide +kernel
theorem d_X_same_14 : decode b_X_same 14 = .ok (.getfield 43, 3) := by decide +kernel
theorem d_X_same_17 : decode b_X_same 17 = .ok (.if_icmp .ge 36, 3) := by decide +kernel
theorem d_X_same_20 : decode b_X_same 20 = .ok (.aload_n 0, 1) := by decide +kernel
theorem d_X_same_21 : decode b_X_same 21 = .ok (.iload_n 1, 1) := by decide +kernel
theorem d_X_same_22 : decode b_X_same 22 = .ok (.aload_n 0, 1) := by decide +kernel
theorem d_X_same_23 : decode b_X_same 23 = .ok (.getfield 40, 3) := by decide +kernel
theorem d_X_same_26 : decode b_X_same 26 = .ok (.iload_n 3, 1) := by decide +kernel
theorem d_X_same_27 : decode b_X_same 27 = .ok (.iaload, 1) := by decide +kernel
theorem d_X_same_28 : decode b_X_same 28 = .ok (.invokevirtual 74, 3) := by decide +kernel
theorem d_X_same_31 : decode b_X_same 31 = .ok (.aload_n 0, 1) := by decide +kernel
theorem d_X_same_32 : decode b_X_same 32 = .ok (.iload_n 2, 1) := by decide +kernel
theorem d_X_same_33 : decode b_X_same 33 = .ok (.aload_n 0, 1) := by decide +kernel
theorem d_X_same_34 : decode b_X_same 34 = .ok (.getfield 40, 3) := by decide +kernel
theorem d_X_same_37 : decode b_X_same 37 = .ok (.iload_n 3, 1) := by decide +kernel
theorem d_X_same_38 : decode b_X_same 38 = .ok (.iaload, 1) := by decide +kernel
theorem d_X_same_39 : decode b_X_same 39 = .ok (.invokevirtual 74, 3) := by decide +kernel
theorem d_X_same_42 : decode b_X_same 42 = .ok (.if_icmp .eq 5, 3) := by decide +kernel
theorem d_X_same_45 : decode b_X_same 45 = .ok (.iconst 0, 1) := by decide +kernel
theorem d_X_same_46 : decode b_X_same 46 = .ok (.ireturn, 1) := by decide +kernel
theorem d_X_same_47 : decode b_X_same 47 = .ok (.iinc 3 1, 3) := by decide +kernel
theorem d_X_same_50 : decode b_X_same 50 = .ok (.goto (-38), 3) := by decide +kernel
theorem d_X_same_53 : decode b_X_same 53 = .ok (.iconst 1, 1) := by decide +kernel
theorem d_X_same_54 : decode b_X_same 54 = .ok (.ireturn, 1) := by decide +kernel
theorem d_X_checkReplica_0 : decode b_X_checkReplica 0 = .ok (.iload_n 1, 1) := by decide +kernel
theorem d_X_checkReplica_1 : decode b_X_checkReplica 1 = .ok (.ifCond .lt 8, 3) := by decide +kernel
theorem d_X_checkReplica_4 : decode b_X_checkReplica 4 = .ok (.iload_n 1, 1) := by decide +kernel
theorem d_X_checkReplica_5 : decode b_X_checkReplica 5 = .ok (.iconst 4, 1) := by decide +kernel
theorem d_X_checkReplica_6 : decode b_X_checkReplica 6 = .ok (.if_icmp .lt 13, 3) := by decide +kernel
theorem d_X_checkReplica_9 : decode b_X_checkReplica 9 = .ok (.new 98, 3) := by decide +kernel
theorem d_X_checkReplica_12 : decode b_X_checkReplica 12 = .ok (.dup, 1) := by decide +kernel
theorem d_X_checkReplica_13 : decode b_X_checkReplica 13 = .ok (.ldc 103, 2) := by decide +kernel
theorem d_X_checkReplica_15 : decode b_X_checkReplica 15 = .ok (.invokespecial 102, 3) := by decide +kernel
theorem d_X_checkReplica_18 : decode b_X_checkReplica 18 = .ok (.athrow, 1) := by decide +kernel
theorem d_X_checkReplica_19 : decode b_X_checkReplica 19 = .ok (.return_, 1) := by decide +kernel
theorem d_X_checkRoom_0 : decode b_X_checkRoom 0 = .ok (.aload_n 0, 1) := by decide +kernel
theorem d_X_checkRoom_1 : decode b_X_checkRoom 1 = .ok (.getfield 7, 3) := by decide +kernel
theorem d_X_checkRoom_4 : decode b_X_checkRoom 4 = .ok (.sipush 160, 3) := by decide +kernel
theorem d_X_checkRoom_7 : decode b_X_checkRoom 7 = .ok (.if_icmp .lt 13, 3) := by decide +kernel
theorem d_X_checkRoom_10 : decode b_X_checkRoom 10 = .ok (.new 81, 3) := by decide +kernel
theorem d_X_checkRoom_13 : decode b_X_checkRoom 13 = .ok (.dup, 1) := by decide +kernel
theorem d_X_checkRoom_14 : decode b_X_checkRoom 14 = .ok (.ldc 105, 2) := by decide +kernel
theorem d_X_checkRoom_16 : decode b_X_checkRoom 16 = .ok (.invokespecial 85, 3) := by decide +kernel
theorem d_X_checkRoom_19 : decode b_X_checkRoom 19 = .ok (.athrow, 1) := by decide +kernel
theorem d_X_checkRoom_20 : decode b_X_checkRoom 20 = .ok (.return_, 1) := by decide +kernel
theorem d_X_checkOperation_0 : decode b_X_checkOperation 0 = .ok (.aload_n 0, 1) := by decide +kernel
theorem d_X_checkOperation_1 : decode b_X_checkOperation 1 = .ok (.iload_n 1, 1) := by decide +kernel
theorem d_X_checkOperation_2 : decode b_X_checkOperation 2 = .ok (.invokevirtual 107, 3) := by decide +kernel
theorem d_X_checkOperation_5 : decode b_X_checkOperation 5 = .ok (.ifCond .ne 13, 3) := by decide +kernel
theorem d_X_checkOperation_8 : decode b_X_checkOperation 8 = .ok (.new 81, 3) := by decide +kernel
theorem d_X_checkOperation_11 : decode b_X_checkOperation 11 = .ok (.dup, 1) := by decide +kernel
theorem d_X_checkOperation_12 : decode b_X_checkOperation 12 = .ok (.ldc 110, 2) := by decide +kernel
theorem d_X_checkOperation_14 : decode b_X_checkOperation 14 = .ok (.invokespecial 85, 3) := by decide +kernel
theorem d_X_checkOperation_17 : decode b_X_checkOperation 17 = .ok (.athrow, 1) := by decide +kernel
theorem d_X_checkOperation_18 : decode b_X_checkOperation 18 = .ok (.return_, 1) := by decide +kernel
theorem d_X_checkHeldElement_0 : decode b_X_checkHeldElement 0 = .ok (.aload_n 0, 1) := by decide +kernel
theorem d_X_checkHeldElement_1 : decode b_X_checkHeldElement 1 = .ok (.iload_n 2, 1) := by decide +kernel
theorem d_X_checkHeldElement_2 : decode b_X_checkHeldElement 2 = .ok (.invokevirtual 77, 3) := by decide +kernel
theorem d_X_checkHeldElement_5 : decode b_X_checkHeldElement 5 = .ok (.ifCond .eq 12, 3) := by decide +kernel
theorem d_X_checkHeldElement_8 : decode b_X_checkHeldElement 8 = .ok (.aload_n 0, 1) := by decide +kernel
theorem d_X_checkHeldElement_9 : decode b_X_checkHeldElement 9 = .ok (.iload_n 1, 1) := by decide +kernel
theorem d_X_checkHeldElement_10 : decode b_X_checkHeldElement 10 = .ok (.iload_n 2, 1) := by decide +kernel
theorem d_X_checkHeldElement_11 : decode b_X_checkHeldElement 11 = .ok (.invokevirtual 70, 3) := by decide +kernel
theorem d_X_checkHeldElement_14 : decode b_X_checkHeldElement 14 = .ok (.ifCond .ne 13, 3) := by decide +kernel
theorem d_X_checkHeldElement_17 : decode b_X_checkHeldElement 17 = .ok (.new 112, 3) := by decide +kernel
theorem d_X_checkHeldElement_20 : decode b_X_checkHeldElement 20 = .ok (.dup, 1) := by decide +kernel
theorem d_X_checkHeldElement_21 : decode b_X_checkHeldElement 21 = .ok (.ldc 114, 2) := by decide +kernel
theorem d_X_checkHeldElement_23 : decode b_X_checkHeldElement 23 = .ok (.invokespecial 116, 3) := by decide +kernel
theorem d_X_checkHeldElement_26 : decode b_X_checkHeldElement 26 = .ok (.athrow, 1) := by decide +kernel
theorem d_X_checkHeldElement_27 : decode b_X_checkHeldElement 27 = .ok (.return_, 1) := by decide +kernel
theorem d_X_isOperation_0 : decode b_X_isOperation 0 = .ok (.iload_n 1, 1) := by decide +kernel
theorem d_X_isOperation_1 : decode b_X_isOperation 1 = .ok (.ifCond .lt 15, 3) := by decide +kernel
theorem d_X_isOperation_4 : decode b_X_isOperation 4 = .ok (.iload_n 1, 1) := by decide +kernel
theorem d_X_isOperation_5 : decode b_X_isOperation 5 = .ok (.aload_n 0, 1) := by decide +kernel
theorem d_X_isOperation_6 : decode b_X_isOperation 6 = .ok (.getfield 7, 3) := by decide +kernel
theorem d_X_isOperation_9 : decode b_X_isOperation 9 = .ok (.if_icmp .ge 7, 3) := by decide +kernel
theorem d_X_isOperation_12 : decode b_X_isOperation 12 = .ok (.iconst 1, 1) := by decide +kernel
theorem d_X_isOperation_13 : decode b_X_isOperation 13 = .ok (.goto 4, 3) := by decide +kernel
theorem d_X_isOperation_16 : decode b_X_isOperation 16 = .ok (.iconst 0, 1) := by decide +kernel
theorem d_X_isOperation_17 : decode b_X_isOperation 17 = .ok (.ireturn, 1) := by decide +kernel
theorem d_X_isElement_0 : decode b_X_isElement 0 = .ok (.aload_n 0, 1) := by decide +kernel
theorem d_X_isElement_1 : decode b_X_isElement 1 = .ok (.iload_n 1, 1) := by decide +kernel
theorem d_X_isElement_2 : decode b_X_isElement 2 = .ok (.invokevirtual 107, 3) := by decide +kernel
theorem d_X_isElement_5 : decode b_X_isElement 5 = .ok (.ifCond .eq 16, 3) := by decide +kernel
theorem d_X_isElement_8 : decode b_X_isElement 8 = .ok (.aload_n 0, 1) := by decide +kernel
theorem d_X_isElement_9 : decode b_X_isElement 9 = .ok (.getfield 13, 3) := by decide +kernel
theorem d_X_isElement_12 : decode b_X_isElement 12 = .ok (.iload_n 1, 1) := by decide +kernel
theorem d_X_isElement_13 : decode b_X_isElement 13 = .ok (.baload, 1) := by decide +kernel
theorem d_X_isElement_14 : decode b_X_isElement 14 = .ok (.ifCond .ne 7, 3) := by decide +kernel
theorem d_X_isElement_17 : decode b_X_isElement 17 = .ok (.iconst 1, 1) := by decide +kernel
theorem d_X_isElement_18 : decode b_X_isElement 18 = .ok (.goto 4, 3) := by decide +kernel
theorem d_X_isElement_21 : decode b_X_isElement 21 = .ok (.iconst 0, 1) := by decide +kernel
theorem d_X_isElement_22 : decode b_X_isElement 22 = .ok (.ireturn, 1) := by decide +kernel
theorem d_X_isHeld_0 : decode b_X_isHeld 0 = .ok (.aload_n 0, 1) := by decide +kernel
theorem d_X_isHeld_1 : decode b_X_isHeld 1 = .ok (.getfield 31, 3) := by decide +kernel
theorem d_X_isHeld_4 : decode b_X_isHeld 4 = .ok (.iload_n 2, 1) := by decide +kernel
theorem d_X_isHeld_5 : decode b_X_isHeld 5 = .ok (.iaload, 1) := by decide +kernel
theorem d_X_isHeld_6 : decode b_X_isHeld 6 = .ok (.iload_n 1, 1) := by decide +kernel
theorem d_X_isHeld_7 : decode b_X_isHeld 7 = .ok (.invokestatic 117, 3) := by decide +kernel
theorem d_X_isHeld_10 : decode b_X_isHeld 10 = .ok (.iand, 1) := by decide +kernel
theorem d_X_isHeld_11 : decode b_X_isHeld 11 = .ok (.ifCond .eq 7, 3) := by decide +kernel
theorem d_X_isHeld_14 : decode b_X_isHeld 14 = .ok (.iconst 1, 1) := by decide +kernel
theorem d_X_isHeld_15 : decode b_X_isHeld 15 = .ok (.goto 4, 3) := by decide +kernel
theorem d_X_isHeld_18 : decode b_X_isHeld 18 = .ok (.iconst 0, 1) := by decide +kernel
theorem d_X_isHeld_19 : decode b_X_isHeld 19 = .ok (.ireturn, 1) := by decide +kernel
theorem d_X_isSeen_0 : decode b_X_isSeen 0 = .ok (.aload_n 0, 1) := by decide +kernel
theorem d_X_isSeen_1 : decode b_X_isSeen 1 = .ok (.iload_n 1, 1) := by decide +kernel
theorem d_X_isSeen_2 : decode b_X_isSeen 2 = .ok (.iload_n 2, 1) := by decide +kernel
theorem d_X_isSeen_3 : decode b_X_isSeen 3 = .ok (.invokevirtual 70, 3) := by decide +kernel
theorem d_X_isSeen_6 : decode b_X_isSeen 6 = .ok (.ifCond .eq 21, 3) := by decide +kernel
theorem d_X_isSeen_9 : decode b_X_isSeen 9 = .ok (.aload_n 0, 1) := by decide +kernel
theorem d_X_isSeen_10 : decode b_X_isSeen 10 = .ok (.getfield 34, 3) := by decide +kernel
theorem d_X_isSeen_13 : decode b_X_isSeen 13 = .ok (.iload_n 2, 1) := by decide +kernel
theorem d_X_isSeen_14 : decode b_X_isSeen 14 = .ok (.iaload, 1) := by decide +kernel
theorem d_X_isSeen_15 : decode b_X_isSeen 15 = .ok (.iload_n 1, 1) := by decide +kernel
theorem d_X_isSeen_16 : decode b_X_isSeen 16 = .ok (.invokestatic 117, 3) := by decide +kernel
theorem d_X_isSeen_19 : decode b_X_isSeen 19 = .ok (.iand, 1) := by decide +kernel
theorem d_X_isSeen_20 : decode b_X_isSeen 20 = .ok (.ifCond .ne 7, 3) := by decide +kernel
theorem d_X_isSeen_23 : decode b_X_isSeen 23 = .ok (.iconst 1, 1) := by decide +kernel
theorem d_X_isSeen_24 : decode b_X_isSeen 24 = .ok (.goto 4, 3) := by decide +kernel
theorem d_X_isSeen_27 : decode b_X_isSeen 27 = .ok (.iconst 0, 1) := by decide +kernel
theorem d_X_isSeen_28 : decode b_X_isSeen 28 = .ok (.ireturn, 1) := by decide +kernel
theorem d_X_bitOf_0 : decode b_X_bitOf 0 = .ok (.iconst 1, 1) := by decide +kernel
theorem d_X_bitOf_1 : decode b_X_bitOf 1 = .ok (.iload_n 0, 1) := by decide +kernel
theorem d_X_bitOf_2 : decode b_X_bitOf 2 = .ok (.ishl, 1) := by decide +kernel
theorem d_X_bitOf_3 : decode b_X_bitOf 3 = .ok (.ireturn, 1) := by decide +kernel
theorem d_X_make_0 : decode b_X_make 0 = .ok (.aload_n 0, 1) := by decide +kernel
theorem d_X_make_1 : decode b_X_make 1 = .ok (.getfield 7, 3) := by decide +kernel
theorem d_X_make_4 : decode b_X_make 4 = .ok (.istore 4, 2) := by decide +kernel
theorem d_X_make_6 : decode b_X_make 6 = .ok (.aload_n 0, 1) := by decide +kernel
theorem d_X_make_7 : decode b_X_make 7 = .ok (.getfield 13, 3) := by decide +kernel
theorem d_X_make_10 : decode b_X_make 10 = .ok (.iload 4, 2) := by decide +kernel
theorem d_X_make_12 : decode b_X_make 12 = .ok (.iload_n 3, 1) := by decide +kernel
theorem d_X_make_13 : decode b_X_make 13 = .ok (.bastore, 1) := by decide +kernel
theorem d_X_make_14 : decode b_X_make 14 = .ok (.aload_n 0, 1) := by decide +kernel
theorem d_X_make_15 : decode b_X_make 15 = .ok (.getfield 17, 3) := by decide +kernel
theorem d_X_make_18 : decode b_X_make 18 = .ok (.iload 4, 2) := by decide +kernel
theorem d_X_make_20 : decode b_X_make 20 = .ok (.iload_n 2, 1) := by decide +kernel
theorem d_X_make_21 : decode b_X_make 21 = .ok (.iastore, 1) := by decide +kernel
theorem d_X_make_22 : decode b_X_make 22 = .ok (.aload_n 0, 1) := by decide +kernel
theorem d_X_make_23 : decode b_X_make 23 = .ok (.getfield 25, 3) := by decide +kernel
theorem d_X_make_26 : decode b_X_make 26 = .ok (.iload 4, 2) := by decide +kernel
theorem d_X_make_28 : decode b_X_make 28 = .ok (.aload_n 0, 1) := by decide +kernel
theorem d_X_make_29 : decode b_X_make 29 = .ok (.getfield 37, 3) := by decide +kernel
theorem d_X_make_32 : decode b_X_make 32 = .ok (.iload_n 1, 1) := by decide +kernel
theorem d_X_make_33 : decode b_X_make 33 = .ok (.iaload, 1) := by decide +kernel
theorem d_X_make_34 : decode b_X_make 34 = .ok (.iconst 1, 1) := by decide +kernel
theorem d_X_make_35 : decode b_X_make 35 = .ok (.iadd, 1) := by decide +kernel
theorem d_X_make_36 : decode b_X_make 36 = .ok (.iastore, 1) := by decide +kernel
theorem d_X_make_37 : decode b_X_make 37 = .ok (.aload_n 0, 1) := by decide +kernel
theorem d_X_make_38 : decode b_X_make 38 = .ok (.getfield 28, 3) := by decide +kernel
theorem d_X_make_41 : decode b_X_make 41 = .ok (.iload 4, 2) := by decide +kernel
theorem d_X_make_43 : decode b_X_make 43 = .ok (.iload_n 1, 1) := by decide +kernel
theorem d_X_make_44 : decode b_X_make 44 = .ok (.iastore, 1) := by decide +kernel
theorem d_X_make_45 : decode b_X_make 45 = .ok (.aload_n 0, 1) := by decide +kernel
theorem d_X_make_46 : decode b_X_make 46 = .ok (.dup, 1) := by decide +kernel
theorem d_X_make_47 : decode b_X_make 47 = .ok (.getfield 7, 3) := by decide +kernel
theorem d_X_make_50 : decode b_X_make 50 = .ok (.iconst 1, 1) := by decide +kernel
theorem d_X_make_51 : decode b_X_make 51 = .ok (.iadd, 1) := by decide +kernel
theorem d_X_make_52 : decode b_X_make 52 = .ok (.putfield 7, 3) := by decide +kernel
theorem d_X_make_55 : decode b_X_make 55 = .ok (.aload_n 0, 1) := by decide +kernel
theorem d_X_make_56 : decode b_X_make 56 = .ok (.iload_n 1, 1) := by decide +kernel
theorem d_X_make_57 : decode b_X_make 57 = .ok (.iload 4, 2) := by decide +kernel
theorem d_X_make_59 : decode b_X_make 59 = .ok (.invokevirtual 67, 3) := by decide +kernel
theorem d_X_make_62 : decode b_X_make 62 = .ok (.iload 4, 2) := by decide +kernel
theorem d_X_make_64 : decode b_X_make 64 = .ok (.ireturn, 1) := by decide +kernel
theorem d_X_take_0 : decode b_X_take 0 = .ok (.aload_n 0, 1) := by decide +kernel
theorem d_X_take_1 : decode b_X_take 1 = .ok (.getfield 31, 3) := by decide +kernel
theorem d_X_take_4 : decode b_X_take 4 = .ok (.iload_n 2, 1) := by decide +kernel
theorem d_X_take_5 : decode b_X_take 5 = .ok (.dup2, 1) := by decide +kernel
theorem d_X_take_6 : decode b_X_take 6 = .ok (.iaload, 1) := by decide +kernel
theorem d_X_take_7 : decode b_X_take 7 = .ok (.iload_n 1, 1) := by decide +kernel
theorem d_X_take_8 : decode b_X_take 8 = .ok (.invokestatic 117, 3) := by decide +kernel
theorem d_X_take_11 : decode b_X_take 11 = .ok (.ior, 1) := by decide +kernel
theorem d_X_take_12 : decode b_X_take 12 = .ok (.iastore, 1) := by decide +kernel
theorem d_X_take_13 : decode b_X_take 13 = .ok (.aload_n 0, 1) := by decide +kernel
theorem d_X_take_14 : decode b_X_take 14 = .ok (.getfield 13, 3) := by decide +kernel
theorem d_X_take_17 : decode b_X_take 17 = .ok (.iload_n 2, 1) := by decide +kernel
theorem d_X_take_18 : decode b_X_take 18 = .ok (.baload, 1) := by decide +kernel
theorem d_X_take_19 : decode b_X_take 19 = .ok (.ifCond .eq 21, 3) := by decide +kernel
theorem d_X_take_22 : decode b_X_take 22 = .ok (.aload_n 0, 1) := by decide +kernel
theorem d_X_take_23 : decode b_X_take 23 = .ok (.getfield 34, 3) := by decide +kernel
theorem d_X_take_26 : decode b_X_take 26 = .ok (.aload_n 0, 1) := by decide +kernel
theorem d_X_take_27 : decode b_X_take 27 = .ok (.getfield 17, 3) := by decide +kernel
theorem d_X_take_30 : decode b_X_take 30 = .ok (.iload_n 2, 1) := by decide +kernel
theorem d_X_take_31 : decode b_X_take 31 = .ok (.iaload, 1) := by decide +kernel
theorem d_X_take_32 : decode b_X_take 32 = .ok (.dup2, 1) := by decide +kernel
theorem d_X_take_33 : decode b_X_take 33 = .ok (.iaload, 1) := by decide +kernel
theorem d_X_take_34 : decode b_X_take 34 = .ok (.iload_n 1, 1) := by decide +kernel
theorem d_X_take_35 : decode b_X_take 35 = .ok (.invokestatic 117, 3) := by decide +kernel
theorem d_X_take_38 : decode b_X_take 38 = .ok (.ior, 1) := by decide +kernel
theorem d_X_take_39 : decode b_X_take 39 = .ok (.iastore, 1) := by decide +kernel
theorem d_X_take_40 : decode b_X_take 40 = .ok (.aload_n 0, 1) := by decide +kernel
theorem d_X_take_41 : decode b_X_take 41 = .ok (.getfield 37, 3) := by decide +kernel
theorem d_X_take_44 : decode b_X_take 44 = .ok (.iload_n 1, 1) := by decide +kernel
theorem d_X_take_45 : decode b_X_take 45 = .ok (.aload_n 0, 1) := by decide +kernel
theorem d_X_take_46 : decode b_X_take 46 = .ok (.getfield 37, 3) := by decide +kernel
theorem d_X_take_49 : decode b_X_take 49 = .ok (.iload_n 1, 1) := by decide +kernel
theorem d_X_take_50 : decode b_X_take 50 = .ok (.iaload, 1) := by decide +kernel
theorem d_X_take_51 : decode b_X_take 51 = .ok (.aload_n 0, 1) := by decide +kernel
theorem d_X_take_52 : decode b_X_take 52 = .ok (.getfield 25, 3) := by decide +kernel
theorem d_X_take_55 : decode b_X_take 55 = .ok (.iload_n 2, 1) := by decide +kernel
theorem d_X_take_56 : decode b_X_take 56 = .ok (.iaload, 1) := by decide +kernel
theorem d_X_take_57 : decode b_X_take 57 = .ok (.invokestatic 120, 3) := by decide +kernel
theorem d_X_take_60 : decode b_X_take 60 = .ok (.iastore, 1) := by decide +kernel
theorem d_X_take_61 : decode b_X_take 61 = .ok (.return_, 1) := by decide +kernel
theorem d_X_weave_0 : decode b_X_weave 0 = .ok (.aload_n 0, 1) := by decide +kernel
theorem d_X_weave_1 : decode b_X_weave 1 = .ok (.aload_n 0, 1) := by decide +kernel
theorem d_X_weave_2 : decode b_X_weave 2 = .ok (.getfield 17, 3) := by decide +kernel
theorem d_X_weave_5 : decode b_X_weave 5 = .ok (.iload_n 1, 1) := by decide +kernel
theorem d_X_weave_6 : decode b_X_weave 6 = .ok (.iaload, 1) := by decide +kernel
theorem d_X_weave_7 : decode b_X_weave 7 = .ok (.invokevirtual 126, 3) := by decide +kernel
theorem d_X_weave_10 : decode b_X_weave 10 = .ok (.istore_n 2, 1) := by decide +kernel
theorem d_X_weave_11 : decode b_X_weave 11 = .ok (.iload_n 2, 1) := by decide +kernel
theorem d_X_weave_12 : decode b_X_weave 12 = .ok (.aload_n 0, 1) := by decide +kernel
theorem d_X_weave_13 : decode b_X_weave 13 = .ok (.getfield 43, 3) := by decide +kernel
theorem d_X_weave_16 : decode b_X_weave 16 = .ok (.if_icmp .ge 23, 3) := by decide +kernel
theorem d_X_weave_19 : decode b_X_weave 19 = .ok (.aload_n 0, 1) := by decide +kernel
theorem d_X_weave_20 : decode b_X_weave 20 = .ok (.aload_n 0, 1) := by decide +kernel
theorem d_X_weave_21 : decode b_X_weave 21 = .ok (.getfield 40, 3) := by decide +kernel
theorem d_X_weave_24 : decode b_X_weave 24 = .ok (.iload_n 2, 1) := by decide +kernel
theorem d_X_weave_25 : decode b_X_weave 25 = .ok (.iaload, 1) := by decide +kernel
theorem d_X_weave_26 : decode b_X_weave 26 = .ok (.iload_n 1, 1) := by decide +kernel
theorem d_X_weave_27 : decode b_X_weave 27 = .ok (.invokevirtual 129, 3) := by decide +kernel
theorem d_X_weave_30 : decode b_X_weave 30 = .ok (.ifCond .eq 9, 3) := by decide +kernel
theorem d_X_weave_33 : decode b_X_weave 33 = .ok (.iinc 2 1, 3) := by decide +kernel
theorem d_X_weave_36 : decode b_X_weave 36 = .ok (.goto (-25), 3) := by decide +kernel
theorem d_X_weave_39 : decode b_X_weave 39 = .ok (.aload_n 0, 1) := by decide +kernel
theorem d_X_weave_40 : decode b_X_weave 40 = .ok (.getfield 43, 3) := by decide +kernel
theorem d_X_weave_43 : decode b_X_weave 43 = .ok (.istore_n 3, 1) := by decide +kernel
theorem d_X_weave_44 : decode b_X_weave 44 = .ok (.iload_n 3, 1) := by decide +kernel
theorem d_X_weave_45 : decode b_X_weave 45 = .ok (.iload_n 2, 1) := by decide +kernel
theorem d_X_weave_46 : decode b_X_weave 46 = .ok (.if_icmp .le 23, 3) := by decide +kernel
theorem d_X_weave_49 : decode b_X_weave 49 = .ok (.aload_n 0, 1) := by decide +kernel
theorem d_X_weave_50 : decode b_X_weave 50 = .ok (.getfield 40, 3) := by decide +kernel
theorem d_X_weave_53 : decode b_X_weave 53 = .ok (.iload_n 3, 1) := by decide +kernel
theorem d_X_weave_54 : decode b_X_weave 54 = .ok (.aload_n 0, 1) := by decide +kernel
theorem d_X_weave_55 : decode b_X_weave 55 = .ok (.getfield 40, 3) := by decide +kernel
theorem d_X_weave_58 : decode b_X_weave 58 = .ok (.iload_n 3, 1) := by decide +kernel
theorem d_X_weave_59 : decode b_X_weave 59 = .ok (.iconst 1, 1) := by decide +kernel
theorem d_X_weave_60 : decode b_X_weave 60 = .ok (.isub, 1) := by decide +kernel
theorem d_X_weave_61 : decode b_X_weave 61 = .ok (.iaload, 1) := by decide +kernel
theorem d_X_weave_62 : decode b_X_weave 62 = .ok (.iastore, 1) := by decide +kernel
theorem d_X_weave_63 : decode b_X_weave 63 = .ok (.iinc 3 (-1), 3) := by decide +kernel
theorem d_X_weave_66 : decode b_X_weave 66 = .ok (.goto (-22), 3) := by decide +kernel
theorem d_X_weave_69 : decode b_X_weave 69 = .ok (.aload_n 0, 1) := by decide +kernel
theorem d_X_weave_70 : decode b_X_weave 70 = .ok (.getfield 40, 3) := by decide +kernel
theorem d_X_weave_73 : decode b_X_weave 73 = .ok (.iload_n 2, 1) := by decide +kernel
theorem d_X_weave_74 : decode b_X_weave 74 = .ok (.iload_n 1, 1) := by decide +kernel
theorem d_X_weave_75 : decode b_X_weave 75 = .ok (.iastore, 1) := by decide +kernel
theorem d_X_weave_76 : decode b_X_weave 76 = .ok (.aload_n 0, 1) := by decide +kernel
theorem d_X_weave_77 : decode b_X_weave 77 = .ok (.dup, 1) := by decide +kernel
theorem d_X_weave_78 : decode b_X_weave 78 = .ok (.getfield 43, 3) := by decide +kernel
theorem d_X_weave_81 : decode b_X_weave 81 = .ok (.iconst 1, 1) := by decide +kernel
theorem d_X_weave_82 : decode b_X_weave 82 = .ok (.iadd, 1) := by decide +kernel
theorem d_X_weave_83 : decode b_X_weave 83 = .ok (.putfield 43, 3) := by decide +kernel
theorem d_X_weave_86 : decode b_X_weave 86 = .ok (.return_, 1) := by decide +kernel
theorem d_X_positionBehind_0 : decode b_X_positionBehind 0 = .ok (.aload_n 0, 1) := by decide +kernel
theorem d_X_positionBehind_1 : decode b_X_positionBehind 1 = .ok (.getfield 43, 3) := by decide +kernel
theorem d_X_positionBehind_4 : decode b_X_positionBehind 4 = .ok (.istore_n 2, 1) := by decide +kernel
theorem d_X_positionBehind_5 : decode b_X_positionBehind 5 = .ok (.iload_n 2, 1) := by decide +kernel
theorem d_X_positionBehind_6 : decode b_X_positionBehind 6 = .ok (.ifCond .le 21, 3) := by decide +kernel
theorem d_X_positionBehind_9 : decode b_X_positionBehind 9 = .ok (.aload_n 0, 1) := by decide +kernel
theorem d_X_positionBehind_10 : decode b_X_positionBehind 10 = .ok (.getfield 40, 3) := by decide +kernel
theorem d_X_positionBehind_13 : decode b_X_positionBehind 13 = .ok (.iload_n 2, 1) := by decide +kernel
theorem d_X_positionBehind_14 : decode b_X_positionBehind 14 = .ok (.iconst 1, 1) := by decide +kernel
theorem d_X_positionBehind_15 : decode b_X_positionBehind 15 = .ok (.isub, 1) := by decide +kernel
theorem d_X_positionBehind_16 : decode b_X_positionBehind 16 = .ok (.iaload, 1) := by decide +kernel
theorem d_X_positionBehind_17 : decode b_X_positionBehind 17 = .ok (.iload_n 1, 1) := by decide +kernel
theorem d_X_positionBehind_18 : decode b_X_positionBehind 18 = .ok (.if_icmp .eq 9, 3) := by decide +kernel
theorem d_X_positionBehind_21 : decode b_X_positionBehind 21 = .ok (.iinc 2 (-1), 3) := by decide +kernel
theorem d_X_positionBehind_24 : decode b_X_positionBehind 24 = .ok (.goto (-19), 3) := by decide +kernel
theorem d_X_positionBehind_27 : decode b_X_positionBehind 27 = .ok (.iload_n 2, 1) := by decide +kernel
theorem d_X_positionBehind_28 : decode b_X_positionBehind 28 = .ok (.ireturn, 1) := by decide +kernel
theorem d_X_isGreater_0 : decode b_X_isGreater 0 = .ok (.aload_n 0, 1) := by decide +kernel
theorem d_X_isGreater_1 : decode b_X_isGreater 1 = .ok (.getfield 25, 3) := by decide +kernel
theorem d_X_isGreater_4 : decode b_X_isGreater 4 = .ok (.iload_n 1, 1) := by decide +kernel
theorem d_X_isGreater_5 : decode b_X_isGreater 5 = .ok (.iaload, 1) := by decide +kernel
theorem d_X_isGreater_6 : decode b_X_isGreater 6 = .ok (.aload_n 0, 1) := by decide +kernel
theorem d_X_isGreater_7 : decode b_X_isGreater 7 = .ok (.getfield 25, 3) := by decide +kernel
theorem d_X_isGreater_10 : decode b_X_isGreater 10 = .ok (.iload_n 2, 1) := by decide +kernel
theorem d_X_isGreater_11 : decode b_X_isGreater 11 = .ok (.iaload, 1) := by decide +kernel
theorem d_X_isGreater_12 : decode b_X_isGreater 12 = .ok (.if_icmp .eq 24, 3) := by decide +kernel
theorem d_X_isGreater_15 : decode b_X_isGreater 15 = .ok (.aload_n 0, 1) := by decide +kernel
theorem d_X_isGreater_16 : decode b_X_isGreater 16 = .ok (.getfield 25, 3) := by decide +kernel
theorem d_X_isGreater_19 : decode b_X_isGreater 19 = .ok (.iload_n 1, 1) := by decide +kernel
theorem d_X_isGreater_20 : decode b_X_isGreater 20 = .ok (.iaload, 1) := by decide +kernel
theorem d_X_isGreater_21 : decode b_X_isGreater 21 = .ok (.aload_n 0, 1) := by decide +kernel
theorem d_X_isGreater_22 : decode b_X_isGreater 22 = .ok (.getfield 25, 3) := by decide +kernel
theorem d_X_isGreater_25 : decode b_X_isGreater 25 = .ok (.iload_n 2, 1) := by decide +kernel
theorem d_X_isGreater_26 : decode b_X_isGreater 26 = .ok (.iaload, 1) := by decide +kernel
theorem d_X_isGreater_27 : decode b_X_isGreater 27 = .ok (.if_icmp .le 7, 3) := by decide +kernel
theorem d_X_isGreater_30 : decode b_X_isGreater 30 = .ok (.iconst 1, 1) := by decide +kernel
theorem d_X_isGreater_31 : decode b_X_isGreater 31 = .ok (.goto 4, 3) := by decide +kernel
theorem d_X_isGreater_34 : decode b_X_isGreater 34 = .ok (.iconst 0, 1) := by decide +kernel
theorem d_X_isGreater_35 : decode b_X_isGreater 35 = .ok (.ireturn, 1) := by decide +kernel
theorem d_X_isGreater_36 : decode b_X_isGreater 36 = .ok (.aload_n 0, 1) := by decide +kernel
theorem d_X_isGreater_37 : decode b_X_isGreater 37 = .ok (.getfield 28, 3) := by decide +kernel
theorem d_X_isGreater_40 : decode b_X_isGreater 40 = .ok (.iload_n 1, 1) := by decide +kernel
theorem d_X_isGreater_41 : decode b_X_isGreater 41 = .ok (.iaload, 1) := by decide +kernel
theorem d_X_isGreater_42 : decode b_X_isGreater 42 = .ok (.aload_n 0, 1) := by decide +kernel
theorem d_X_isGreater_43 : decode b_X_isGreater 43 = .ok (.getfield 28, 3) := by decide +kernel
theorem d_X_isGreater_46 : decode b_X_isGreater 46 = .ok (.iload_n 2, 1) := by decide +kernel
theorem d_X_isGreater_47 : decode b_X_isGreater 47 = .ok (.iaload, 1) := by decide +kernel
theorem d_X_isGreater_48 : decode b_X_isGreater 48 = .ok (.if_icmp .le 7, 3) := by decide +kernel
theorem d_X_isGreater_51 : decode b_X_isGreater 51 = .ok (.iconst 1, 1) := by decide +kernel
theorem d_X_isGreater_52 : decode b_X_isGreater 52 = .ok (.goto 4, 3) := by decide +kernel
theorem d_X_isGreater_55 : decode b_X_isGreater 55 = .ok (.iconst 0, 1) := by decide +kernel
theorem d_X_isGreater_56 : decode b_X_isGreater 56 = .ok (.ireturn, 1) := by decide +kernel
theorem d_X_countHeldOperations_0 : decode b_X_countHeldOperations 0 = .ok (.iconst 0, 1) := by decide +kernel
theorem d_X_countHeldOperations_1 : decode b_X_countHeldOperations 1 = .ok (.istore_n 2, 1) := by decide +kernel
theorem d_X_countHeldOperations_2 : decode b_X_countHeldOperations 2 = .ok (.iconst 0, 1) := by decide +kernel
theorem d_X_countHeldOperations_3 : decode b_X_countHeldOperations 3 = .ok (.istore_n 3, 1) := by decide +kernel
theorem d_X_countHeldOperations_4 : decode b_X_countHeldOperations 4 = .ok (.iload_n 3, 1) := by decide +kernel
theorem d_X_countHeldOperations_5 : decode b_X_countHeldOperations 5 = .ok (.aload_n 0, 1) := by decide +kernel
theorem d_X_countHeldOperations_6 : decode b_X_countHeldOperations 6 = .ok (.getfield 7, 3) := by decide +kernel
theorem d_X_countHeldOperations_9 : decode b_X_countHeldOperations 9 = .ok (.if_icmp .ge 21, 3) := by decide +kernel
theorem d_X_countHeldOperations_12 : decode b_X_countHeldOperations 12 = .ok (.aload_n 0, 1) := by decide +kernel
theorem d_X_countHeldOperations_13 : decode b_X_countHeldOperations 13 = .ok (.iload_n 1, 1) := by decide +kernel
theorem d_X_countHeldOperations_14 : decode b_X_countHeldOperations 14 = .ok (.iload_n 3, 1) := by decide +kernel
theorem d_X_countHeldOperations_15 : decode b_X_countHeldOperations 15 = .ok (.invokevirtual 70, 3) := by decide +kernel
theorem d_X_countHeldOperations_18 : decode b_X_countHeldOperations 18 = .ok (.ifCond .eq 6, 3) := by decide +kernel
theorem d_X_countHeldOperations_21 : decode b_X_countHeldOperations 21 = .ok (.iinc 2 1, 3) := by decide +kernel
theorem d_X_countHeldOperations_24 : decode b_X_countHeldOperations 24 = .ok (.iinc 3 1, 3) := by decide +kernel
theorem d_X_countHeldOperations_27 : decode b_X_countHeldOperations 27 = .ok (.goto (-23), 3) := by decide +kernel
theorem d_X_countHeldOperations_30 : decode b_X_countHeldOperations 30 = .ok (.iload_n 2, 1) := by decide +kernel
theorem d_X_countHeldOperations_31 : decode b_X_countHeldOperations 31 = .ok (.ireturn, 1) := by decide +kernel
theorem d_X_countHeldElements_0 : decode b_X_countHeldElements 0 = .ok (.iconst 0, 1) := by decide +kernel
theorem d_X_countHeldElements_1 : decode b_X_countHeldElements 1 = .ok (.istore_n 2, 1) := by decide +kernel
theorem d_X_countHeldElements_2 : decode b_X_countHeldElements 2 = .ok (.iconst 0, 1) := by decide +kernel
theorem d_X_countHeldElements_3 : decode b_X_countHeldElements 3 = .ok (.istore_n 3, 1) := by decide +kernel
theorem d_X_countHeldElements_4 : decode b_X_countHeldElements 4 = .ok (.iload_n 3, 1) := by decide +kernel
theorem d_X_countHeldElements_5 : decode b_X_countHeldElements 5 = .ok (.aload_n 0, 1) := by decide +kernel
theorem d_X_countHeldElements_6 : decode b_X_countHeldElements 6 = .ok (.getfield 43, 3) := by decide +kernel
theorem d_X_countHeldElements_9 : decode b_X_countHeldElements 9 = .ok (.if_icmp .ge 26, 3) := by decide +kernel
theorem d_X_countHeldElements_12 : decode b_X_countHeldElements 12 = .ok (.aload_n 0, 1) := by decide +kernel
theorem d_X_countHeldElements_13 : decode b_X_countHeldElements 13 = .ok (.iload_n 1, 1) := by decide +kernel
theorem d_X_countHeldElements_14 : decode b_X_countHeldElements 14 = .ok (.aload_n 0, 1) := by decide +kernel
theorem d_X_countHeldElements_15 : decode b_X_countHeldElements 15 = .ok (.getfield 40, 3) := by decide +kernel
theorem d_X_countHeldElements_18 : decode b_X_countHeldElements 18 = .ok (.iload_n 3, 1) := by decide +kernel
theorem d_X_countHeldElements_19 : decode b_X_countHeldElements 19 = .ok (.iaload, 1) := by decide +kernel
theorem d_X_countHeldElements_20 : decode b_X_countHeldElements 20 = .ok (.invokevirtual 70, 3) := by decide +kernel
theorem d_X_countHeldElements_23 : decode b_X_countHeldElements 23 = .ok (.ifCond .eq 6, 3) := by decide +kernel
theorem d_X_countHeldElements_26 : decode b_X_countHeldElements 26 = .ok (.iinc 2 1, 3) := by decide +kernel
theorem d_X_countHeldElements_29 : decode b_X_countHeldElements 29 = .ok (.iinc 3 1, 3) := by decide +kernel
theorem d_X_countHeldElements_32 : decode b_X_countHeldElements 32 = .ok (.goto (-28), 3) := by decide +kernel
theorem d_X_countHeldElements_35 : decode b_X_countHeldElements 35 = .ok (.iload_n 2, 1) := by decide +kernel
theorem d_X_countHeldElements_36 : decode b_X_countHeldElements 36 = .ok (.ireturn, 1) := by decide +kernel
theorem d_X_countSeen_0 : decode b_X_countSeen 0 = .ok (.iconst 0, 1) := by decide +kernel
theorem d_X_countSeen_1 : decode b_X_countSeen 1 = .ok (.istore_n 2, 1) := by decide +kernel
theorem d_X_countSeen_2 : decode b_X_countSeen 2 = .ok (.iconst 0, 1) := by decide +kernel
theorem d_X_countSeen_3 : decode b_X_countSeen 3 = .ok (.istore_n 3, 1) := by decide +kernel
theorem d_X_countSeen_4 : decode b_X_countSeen 4 = .ok (.iload_n 3, 1) := by decide +kernel
theorem d_X_countSeen_5 : decode b_X_countSeen 5 = .ok (.aload_n 0, 1) := by decide +kernel
theorem d_X_countSeen_6 : decode b_X_countSeen 6 = .ok (.getfield 43, 3) := by decide +kernel
theorem d_X_countSeen_9 : decode b_X_countSeen 9 = .ok (.if_icmp .ge 26, 3) := by decide +kernel
theorem d_X_countSeen_12 : decode b_X_countSeen 12 = .ok (.aload_n 0, 1) := by decide +kernel
theorem d_X_countSeen_13 : decode b_X_countSeen 13 = .ok (.iload_n 1, 1) := by decide +kernel
theorem d_X_countSeen_14 : decode b_X_countSeen 14 = .ok (.aload_n 0, 1) := by decide +kernel
theorem d_X_countSeen_15 : decode b_X_countSeen 15 = .ok (.getfield 40, 3) := by decide +kernel
theorem d_X_countSeen_18 : decode b_X_countSeen 18 = .ok (.iload_n 3, 1) := by decide +kernel
theorem d_X_countSeen_19 : decode b_X_countSeen 19 = .ok (.iaload, 1) := by decide +kernel
theorem d_X_countSeen_20 : decode b_X_countSeen 20 = .ok (.invokevirtual 74, 3) := by decide +kernel
theorem d_X_countSeen_23 : decode b_X_countSeen 23 = .ok (.ifCond .eq 6, 3) := by decide +kernel
theorem d_X_countSeen_26 : decode b_X_countSeen 26 = .ok (.iinc 2 1, 3) := by decide +kernel
theorem d_X_countSeen_29 : decode b_X_countSeen 29 = .ok (.iinc 3 1, 3) := by decide +kernel
theorem d_X_countSeen_32 : decode b_X_countSeen 32 = .ok (.goto (-28), 3) := by decide +kernel
theorem d_X_countSeen_35 : decode b_X_countSeen 35 = .ok (.iload_n 2, 1) := by decide +kernel
theorem d_X_countSeen_36 : decode b_X_countSeen 36 = .ok (.ireturn, 1) := by decide +kernel
