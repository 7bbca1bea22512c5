theorem d_M_init_0 : decode b_M_init 0 = .ok (.aload_n 0, 1) := by decide +kernel
theorem d_M_init_1 : decode b_M_init 1 = .ok (.invokespecial 1, 3) := by decide +kernel
theorem d_M_init_4 : decode b_M_init 4 = .ok (.aload_n 0, 1) := by decide +kernel
theorem d_M_init_5 : decode b_M_init 5 = .ok (.sipush 160, 3) := by decide +kernel
theorem d_M_init_8 : decode b_M_init 8 = .ok (.newarray .int, 2) := by decide +kernel
theorem d_M_init_10 : decode b_M_init 10 = .ok (.putfield 9, 3) := by decide +kernel
theorem d_M_init_13 : decode b_M_init 13 = .ok (.aload_n 0, 1) := by decide +kernel
theorem d_M_init_14 : decode b_M_init 14 = .ok (.sipush 160, 3) := by decide +kernel
theorem d_M_init_17 : decode b_M_init 17 = .ok (.newarray .int, 2) := by decide +kernel
theorem d_M_init_19 : decode b_M_init 19 = .ok (.putfield 13, 3) := by decide +kernel
theorem d_M_init_22 : decode b_M_init 22 = .ok (.aload_n 0, 1) := by decide +kernel
theorem d_M_init_23 : decode b_M_init 23 = .ok (.sipush 160, 3) := by decide +kernel
theorem d_M_init_26 : decode b_M_init 26 = .ok (.newarray .int, 2) := by decide +kernel
theorem d_M_init_28 : decode b_M_init 28 = .ok (.putfield 16, 3) := by decide +kernel
theorem d_M_init_31 : decode b_M_init 31 = .ok (.aload_n 0, 1) := by decide +kernel
theorem d_M_init_32 : decode b_M_init 32 = .ok (.sipush 160, 3) := by decide +kernel
theorem d_M_init_35 : decode b_M_init 35 = .ok (.newarray .long, 2) := by decide +kernel
theorem d_M_init_37 : decode b_M_init 37 = .ok (.putfield 19, 3) := by decide +kernel
theorem d_M_init_40 : decode b_M_init 40 = .ok (.aload_n 0, 1) := by decide +kernel
theorem d_M_init_41 : decode b_M_init 41 = .ok (.sipush 160, 3) := by decide +kernel
theorem d_M_init_44 : decode b_M_init 44 = .ok (.newarray .boolean, 2) := by decide +kernel
theorem d_M_init_46 : decode b_M_init 46 = .ok (.putfield 23, 3) := by decide +kernel
theorem d_M_init_49 : decode b_M_init 49 = .ok (.aload_n 0, 1) := by decide +kernel
theorem d_M_init_50 : decode b_M_init 50 = .ok (.sipush 640, 3) := by decide +kernel
theorem d_M_init_53 : decode b_M_init 53 = .ok (.newarray .boolean, 2) := by decide +kernel
theorem d_M_init_55 : decode b_M_init 55 = .ok (.putfield 27, 3) := by decide +kernel
theorem d_M_init_58 : decode b_M_init 58 = .ok (.aload_n 0, 1) := by decide +kernel
theorem d_M_init_59 : decode b_M_init 59 = .ok (.sipush 160, 3) := by decide +kernel
theorem d_M_init_62 : decode b_M_init 62 = .ok (.newarray .int, 2) := by decide +kernel
theorem d_M_init_64 : decode b_M_init 64 = .ok (.putfield 30, 3) := by decide +kernel
theorem d_M_init_67 : decode b_M_init 67 = .ok (.aload_n 0, 1) := by decide +kernel
theorem d_M_init_68 : decode b_M_init 68 = .ok (.sipush 161, 3) := by decide +kernel
theorem d_M_init_71 : decode b_M_init 71 = .ok (.newarray .int, 2) := by decide +kernel
theorem d_M_init_73 : decode b_M_init 73 = .ok (.putfield 33, 3) := by decide +kernel
theorem d_M_init_76 : decode b_M_init 76 = .ok (.aload_n 0, 1) := by decide +kernel
theorem d_M_init_77 : decode b_M_init 77 = .ok (.sipush 160, 3) := by decide +kernel
theorem d_M_init_80 : decode b_M_init 80 = .ok (.newarray .int, 2) := by decide +kernel
theorem d_M_init_82 : decode b_M_init 82 = .ok (.putfield 36, 3) := by decide +kernel
theorem d_M_init_85 : decode b_M_init 85 = .ok (.return_, 1) := by decide +kernel
theorem d_M_thrown_0 : decode b_M_thrown 0 = .ok (.aload_n 0, 1) := by decide +kernel
theorem d_M_thrown_1 : decode b_M_thrown 1 = .ok (.getfield 39, 3) := by decide +kernel
theorem d_M_thrown_4 : decode b_M_thrown 4 = .ok (.ireturn, 1) := by decide +kernel
theorem d_M_in_0 : decode b_M_in 0 = .ok (.lload_n 0, 1) := by decide +kernel
theorem d_M_in_1 : decode b_M_in 1 = .ok (.lload_n 2, 1) := by decide +kernel
theorem d_M_in_2 : decode b_M_in 2 = .ok (.lcmp, 1) := by decide +kernel
theorem d_M_in_3 : decode b_M_in 3 = .ok (.ifCond .lt 14, 3) := by decide +kernel
theorem d_M_in_6 : decode b_M_in 6 = .ok (.lload_n 0, 1) := by decide +kernel
theorem d_M_in_7 : decode b_M_in 7 = .ok (.lload 4, 2) := by decide +kernel
theorem d_M_in_9 : decode b_M_in 9 = .ok (.lcmp, 1) := by decide +kernel
theorem d_M_in_10 : decode b_M_in 10 = .ok (.ifCond .gt 7, 3) := by decide +kernel
theorem d_M_in_13 : decode b_M_in 13 = .ok (.iconst 1, 1) := by decide +kernel
theorem d_M_in_14 : decode b_M_in 14 = .ok (.goto 4, 3) := by decide +kernel
theorem d_M_in_17 : decode b_M_in 17 = .ok (.iconst 0, 1) := by decide +kernel
theorem d_M_in_18 : decode b_M_in 18 = .ok (.ireturn, 1) := by decide +kernel
theorem d_M_fails_0 : decode b_M_fails 0 = .ok (.iload_n 1, 1) := by decide +kernel
theorem d_M_fails_1 : decode b_M_fails 1 = .ok (.ifCond .eq 15, 3) := by decide +kernel
theorem d_M_fails_4 : decode b_M_fails 4 = .ok (.aload_n 0, 1) := by decide +kernel
theorem d_M_fails_5 : decode b_M_fails 5 = .ok (.getfield 39, 3) := by decide +kernel
theorem d_M_fails_8 : decode b_M_fails 8 = .ok (.ifCond .ne 8, 3) := by decide +kernel
theorem d_M_fails_11 : decode b_M_fails 11 = .ok (.aload_n 0, 1) := by decide +kernel
theorem d_M_fails_12 : decode b_M_fails 12 = .ok (.iload_n 2, 1) := by decide +kernel
theorem d_M_fails_13 : decode b_M_fails 13 = .ok (.putfield 39, 3) := by decide +kernel
theorem d_M_fails_16 : decode b_M_fails 16 = .ok (.aload_n 0, 1) := by decide +kernel
theorem d_M_fails_17 : decode b_M_fails 17 = .ok (.getfield 39, 3) := by decide +kernel
theorem d_M_fails_20 : decode b_M_fails 20 = .ok (.ifCond .eq 7, 3) := by decide +kernel
theorem d_M_fails_23 : decode b_M_fails 23 = .ok (.iconst 1, 1) := by decide +kernel
theorem d_M_fails_24 : decode b_M_fails 24 = .ok (.goto 4, 3) := by decide +kernel
theorem d_M_fails_27 : decode b_M_fails 27 = .ok (.iconst 0, 1) := by decide +kernel
theorem d_M_fails_28 : decode b_M_fails 28 = .ok (.ireturn, 1) := by decide +kernel
theorem d_M_isReplica_0 : decode b_M_isReplica 0 = .ok (.iload_n 0, 1) := by decide +kernel
theorem d_M_isReplica_1 : decode b_M_isReplica 1 = .ok (.i2l, 1) := by decide +kernel
theorem d_M_isReplica_2 : decode b_M_isReplica 2 = .ok (.lconst 0, 1) := by decide +kernel
theorem d_M_isReplica_3 : decode b_M_isReplica 3 = .ok (.ldc2_w 43, 3) := by decide +kernel
theorem d_M_isReplica_6 : decode b_M_isReplica 6 = .ok (.invokestatic 45, 3) := by decide +kernel
theorem d_M_isReplica_9 : decode b_M_isReplica 9 = .ok (.ireturn, 1) := by decide +kernel
theorem d_M_isThere_0 : decode b_M_isThere 0 = .ok (.iload_n 1, 1) := by decide +kernel
theorem d_M_isThere_1 : decode b_M_isThere 1 = .ok (.i2l, 1) := by decide +kernel
theorem d_M_isThere_2 : decode b_M_isThere 2 = .ok (.lconst 0, 1) := by decide +kernel
theorem d_M_isThere_3 : decode b_M_isThere 3 = .ok (.aload_n 0, 1) := by decide +kernel
theorem d_M_isThere_4 : decode b_M_isThere 4 = .ok (.getfield 49, 3) := by decide +kernel
theorem d_M_isThere_7 : decode b_M_isThere 7 = .ok (.iconst 1, 1) := by decide +kernel
theorem d_M_isThere_8 : decode b_M_isThere 8 = .ok (.isub, 1) := by decide +kernel
theorem d_M_isThere_9 : decode b_M_isThere 9 = .ok (.i2l, 1) := by decide +kernel
theorem d_M_isThere_10 : decode b_M_isThere 10 = .ok (.invokestatic 45, 3) := by decide +kernel
theorem d_M_isThere_13 : decode b_M_isThere 13 = .ok (.ireturn, 1) := by decide +kernel
theorem d_M_has_0 : decode b_M_has 0 = .ok (.aload_n 0, 1) := by decide +kernel
theorem d_M_has_1 : decode b_M_has 1 = .ok (.getfield 27, 3) := by decide +kernel
theorem d_M_has_4 : decode b_M_has 4 = .ok (.sipush 160, 3) := by decide +kernel
theorem d_M_has_7 : decode b_M_has 7 = .ok (.iload_n 1, 1) := by decide +kernel
theorem d_M_has_8 : decode b_M_has 8 = .ok (.imul, 1) := by decide +kernel
theorem d_M_has_9 : decode b_M_has 9 = .ok (.iload_n 2, 1) := by decide +kernel
theorem d_M_has_10 : decode b_M_has 10 = .ok (.iadd, 1) := by decide +kernel
theorem d_M_has_11 : decode b_M_has 11 = .ok (.baload, 1) := by decide +kernel
theorem d_M_has_12 : decode b_M_has 12 = .ok (.ireturn, 1) := by decide +kernel
theorem d_M_hasElement_0 : decode b_M_hasElement 0 = .ok (.aload_n 0, 1) := by decide +kernel
theorem d_M_hasElement_1 : decode b_M_hasElement 1 = .ok (.iload_n 2, 1) := by decide +kernel
theorem d_M_hasElement_2 : decode b_M_hasElement 2 = .ok (.invokevirtual 52, 3) := by decide +kernel
theorem d_M_hasElement_5 : decode b_M_hasElement 5 = .ok (.ifCond .eq 25, 3) := by decide +kernel
theorem d_M_hasElement_8 : decode b_M_hasElement 8 = .ok (.aload_n 0, 1) := by decide +kernel
theorem d_M_hasElement_9 : decode b_M_hasElement 9 = .ok (.getfield 23, 3) := by decide +kernel
theorem d_M_hasElement_12 : decode b_M_hasElement 12 = .ok (.iload_n 2, 1) := by decide +kernel
theorem d_M_hasElement_13 : decode b_M_hasElement 13 = .ok (.baload, 1) := by decide +kernel
theorem d_M_hasElement_14 : decode b_M_hasElement 14 = .ok (.ifCond .ne 16, 3) := by decide +kernel
theorem d_M_hasElement_17 : decode b_M_hasElement 17 = .ok (.aload_n 0, 1) := by decide +kernel
theorem d_M_hasElement_18 : decode b_M_hasElement 18 = .ok (.iload_n 1, 1) := by decide +kernel
theorem d_M_hasElement_19 : decode b_M_hasElement 19 = .ok (.iload_n 2, 1) := by decide +kernel
theorem d_M_hasElement_20 : decode b_M_hasElement 20 = .ok (.invokevirtual 56, 3) := by decide +kernel
theorem d_M_hasElement_23 : decode b_M_hasElement 23 = .ok (.ifCond .eq 7, 3) := by decide +kernel
theorem d_M_hasElement_26 : decode b_M_hasElement 26 = .ok (.iconst 1, 1) := by decide +kernel
theorem d_M_hasElement_27 : decode b_M_hasElement 27 = .ok (.goto 4, 3) := by decide +kernel
theorem d_M_hasElement_30 : decode b_M_hasElement 30 = .ok (.iconst 0, 1) := by decide +kernel
theorem d_M_hasElement_31 : decode b_M_hasElement 31 = .ok (.ireturn, 1) := by decide +kernel
theorem d_M_greatest_0 : decode b_M_greatest 0 = .ok (.iconst 0, 1) := by decide +kernel
theorem d_M_greatest_1 : decode b_M_greatest 1 = .ok (.istore_n 2, 1) := by decide +kernel
theorem d_M_greatest_2 : decode b_M_greatest 2 = .ok (.iconst 0, 1) := by decide +kernel
theorem d_M_greatest_3 : decode b_M_greatest 3 = .ok (.istore_n 3, 1) := by decide +kernel
theorem d_M_greatest_4 : decode b_M_greatest 4 = .ok (.iload_n 3, 1) := by decide +kernel
theorem d_M_greatest_5 : decode b_M_greatest 5 = .ok (.aload_n 0, 1) := by decide +kernel
theorem d_M_greatest_6 : decode b_M_greatest 6 = .ok (.getfield 49, 3) := by decide +kernel
theorem d_M_greatest_9 : decode b_M_greatest 9 = .ok (.if_icmp .ge 29, 3) := by decide +kernel
theorem d_M_greatest_12 : decode b_M_greatest 12 = .ok (.aload_n 0, 1) := by decide +kernel
theorem d_M_greatest_13 : decode b_M_greatest 13 = .ok (.iload_n 1, 1) := by decide +kernel
theorem d_M_greatest_14 : decode b_M_greatest 14 = .ok (.iload_n 3, 1) := by decide +kernel
theorem d_M_greatest_15 : decode b_M_greatest 15 = .ok (.invokevirtual 56, 3) := by decide +kernel
theorem d_M_greatest_18 : decode b_M_greatest 18 = .ok (.ifCond .eq 14, 3) := by decide +kernel
theorem d_M_greatest_21 : decode b_M_greatest 21 = .ok (.iload_n 2, 1) := by decide +kernel
theorem d_M_greatest_22 : decode b_M_greatest 22 = .ok (.aload_n 0, 1) := by decide +kernel
theorem d_M_greatest_23 : decode b_M_greatest 23 = .ok (.getfield 13, 3) := by decide +kernel
theorem d_M_greatest_26 : decode b_M_greatest 26 = .ok (.iload_n 3, 1) := by decide +kernel
theorem d_M_greatest_27 : decode b_M_greatest 27 = .ok (.iaload, 1) := by decide +kernel
theorem d_M_greatest_28 : decode b_M_greatest 28 = .ok (.invokestatic 60, 3) := by decide +kernel
theorem d_M_greatest_31 : decode b_M_greatest 31 = .ok (.istore_n 2, 1) := by decide +kernel
theorem d_M_greatest_32 : decode b_M_greatest 32 = .ok (.iinc 3 1, 3) := by decide +kernel
theorem d_M_greatest_35 : decode b_M_greatest 35 = .ok (.goto (-31), 3) := by decide +kernel
theorem d_M_greatest_38 : decode b_M_greatest 38 = .ok (.iload_n 2, 1) := by decide +kernel
theorem d_M_greatest_39 : decode b_M_greatest 39 = .ok (.ireturn, 1) := by decide +kernel
theorem d_M_made_0 : decode b_M_made 0 = .ok (.aload_n 0, 1) := by decide +kernel
theorem d_M_made_1 : decode b_M_made 1 = .ok (.getfield 49, 3) := by decide +kernel
theorem d_M_made_4 : decode b_M_made 4 = .ok (.istore 6, 2) := by decide +kernel
theorem d_M_made_6 : decode b_M_made 6 = .ok (.aload_n 0, 1) := by decide +kernel
theorem d_M_made_7 : decode b_M_made 7 = .ok (.getfield 13, 3) := by decide +kernel
theorem d_M_made_10 : decode b_M_made 10 = .ok (.iload 6, 2) := by decide +kernel
theorem d_M_made_12 : decode b_M_made 12 = .ok (.aload_n 0, 1) := by decide +kernel
theorem d_M_made_13 : decode b_M_made 13 = .ok (.iload_n 1, 1) := by decide +kernel
theorem d_M_made_14 : decode b_M_made 14 = .ok (.invokevirtual 66, 3) := by decide +kernel
theorem d_M_made_17 : decode b_M_made 17 = .ok (.iconst 1, 1) := by decide +kernel
theorem d_M_made_18 : decode b_M_made 18 = .ok (.iadd, 1) := by decide +kernel
theorem d_M_made_19 : decode b_M_made 19 = .ok (.iastore, 1) := by decide +kernel
theorem d_M_made_20 : decode b_M_made 20 = .ok (.aload_n 0, 1) := by decide +kernel
theorem d_M_made_21 : decode b_M_made 21 = .ok (.getfield 16, 3) := by decide +kernel
theorem d_M_made_24 : decode b_M_made 24 = .ok (.iload 6, 2) := by decide +kernel
theorem d_M_made_26 : decode b_M_made 26 = .ok (.iload_n 1, 1) := by decide +kernel
theorem d_M_made_27 : decode b_M_made 27 = .ok (.iastore, 1) := by decide +kernel
theorem d_M_made_28 : decode b_M_made 28 = .ok (.aload_n 0, 1) := by decide +kernel
theorem d_M_made_29 : decode b_M_made 29 = .ok (.getfield 9, 3) := by decide +kernel
theorem d_M_made_32 : decode b_M_made 32 = .ok (.iload 6, 2) := by decide +kernel
theorem d_M_made_34 : decode b_M_made 34 = .ok (.iload_n 2, 1) := by decide +kernel
theorem d_M_made_35 : decode b_M_made 35 = .ok (.iastore, 1) := by decide +kernel
theorem d_M_made_36 : decode b_M_made 36 = .ok (.aload_n 0, 1) := by decide +kernel
theorem d_M_made_37 : decode b_M_made 37 = .ok (.getfield 19, 3) := by decide +kernel
theorem d_M_made_40 : decode b_M_made 40 = .ok (.iload 6, 2) := by decide +kernel
theorem d_M_made_42 : decode b_M_made 42 = .ok (.lload_n 3, 1) := by decide +kernel
theorem d_M_made_43 : decode b_M_made 43 = .ok (.lastore, 1) := by decide +kernel
theorem d_M_made_44 : decode b_M_made 44 = .ok (.aload_n 0, 1) := by decide +kernel
theorem d_M_made_45 : decode b_M_made 45 = .ok (.getfield 23, 3) := by decide +kernel
theorem d_M_made_48 : decode b_M_made 48 = .ok (.iload 6, 2) := by decide +kernel
theorem d_M_made_50 : decode b_M_made 50 = .ok (.iload 5, 2) := by decide +kernel
theorem d_M_made_52 : decode b_M_made 52 = .ok (.bastore, 1) := by decide +kernel
theorem d_M_made_53 : decode b_M_made 53 = .ok (.iconst 0, 1) := by decide +kernel
theorem d_M_made_54 : decode b_M_made 54 = .ok (.istore 7, 2) := by decide +kernel
theorem d_M_made_56 : decode b_M_made 56 = .ok (.iload 7, 2) := by decide +kernel
theorem d_M_made_58 : decode b_M_made 58 = .ok (.iconst 4, 1) := by decide +kernel
theorem d_M_made_59 : decode b_M_made 59 = .ok (.if_icmp .ge 34, 3) := by decide +kernel
theorem d_M_made_62 : decode b_M_made 62 = .ok (.aload_n 0, 1) := by decide +kernel
theorem d_M_made_63 : decode b_M_made 63 = .ok (.getfield 27, 3) := by decide +kernel
theorem d_M_made_66 : decode b_M_made 66 = .ok (.sipush 160, 3) := by decide +kernel
theorem d_M_made_69 : decode b_M_made 69 = .ok (.iload 7, 2) := by decide +kernel
theorem d_M_made_71 : decode b_M_made 71 = .ok (.imul, 1) := by decide +kernel
theorem d_M_made_72 : decode b_M_made 72 = .ok (.iload 6, 2) := by decide +kernel
theorem d_M_made_74 : decode b_M_made 74 = .ok (.iadd, 1) := by decide +kernel
theorem d_M_made_75 : decode b_M_made 75 = .ok (.iload 7, 2) := by decide +kernel
theorem d_M_made_77 : decode b_M_made 77 = .ok (.iload_n 1, 1) := by decide +kernel
theorem d_M_made_78 : decode b_M_made 78 = .ok (.if_icmp .ne 7, 3) := by decide +kernel
theorem d_M_made_81 : decode b_M_made 81 = .ok (.iconst 1, 1) := by decide +kernel
theorem d_M_made_82 : decode b_M_made 82 = .ok (.goto 4, 3) := by decide +kernel
theorem d_M_made_85 : decode b_M_made 85 = .ok (.iconst 0, 1) := by decide +kernel
theorem d_M_made_86 : decode b_M_made 86 = .ok (.bastore, 1) := by decide +kernel
theorem d_M_made_87 : decode b_M_made 87 = .ok (.iinc 7 1, 3) := by decide +kernel
theorem d_M_made_90 : decode b_M_made 90 = .ok (.goto (-34), 3) := by decide +kernel
theorem d_M_made_93 : decode b_M_made 93 = .ok (.aload_n 0, 1) := by decide +kernel
theorem d_M_made_94 : decode b_M_made 94 = .ok (.dup, 1) := by decide +kernel
theorem d_M_made_95 : decode b_M_made 95 = .ok (.getfield 49, 3) := by decide +kernel
theorem d_M_made_98 : decode b_M_made 98 = .ok (.iconst 1, 1) := by decide +kernel
theorem d_M_made_99 : decode b_M_made 99 = .ok (.iadd, 1) := by decide +kernel
theorem d_M_made_100 : decode b_M_made 100 = .ok (.putfield 49, 3) := by decide +kernel
theorem d_M_made_103 : decode b_M_made 103 = .ok (.iload 6, 2) := by decide +kernel
theorem d_M_made_105 : decode b_M_made 105 = .ok (.ireturn, 1) := by decide +kernel
theorem d_M_insert_0 : decode b_M_insert 0 = .ok (.aload_n 0, 1) := by decide +kernel
theorem d_M_insert_1 : decode b_M_insert 1 = .ok (.iconst 0, 1) := by decide +kernel
theorem d_M_insert_2 : decode b_M_insert 2 = .ok (.putfield 39, 3) := by decide +kernel
theorem d_M_insert_5 : decode b_M_insert 5 = .ok (.aload_n 0, 1) := by decide +kernel
theorem d_M_insert_6 : decode b_M_insert 6 = .ok (.iload_n 1, 1) := by decide +kernel
theorem d_M_insert_7 : decode b_M_insert 7 = .ok (.invokestatic 70, 3) := by decide +kernel
theorem d_M_insert_10 : decode b_M_insert 10 = .ok (.ifCond .ne 7, 3) := by decide +kernel
theorem d_M_insert_13 : decode b_M_insert 13 = .ok (.iconst 1, 1) := by decide +kernel
theorem d_M_insert_14 : decode b_M_insert 14 = .ok (.goto 4, 3) := by decide +kernel
theorem d_M_insert_17 : decode b_M_insert 17 = .ok (.iconst 0, 1) := by decide +kernel
theorem d_M_insert_18 : decode b_M_insert 18 = .ok (.iconst 1, 1) := by decide +kernel
theorem d_M_insert_19 : decode b_M_insert 19 = .ok (.invokevirtual 73, 3) := by decide +kernel
theorem d_M_insert_22 : decode b_M_insert 22 = .ok (.ifCond .ne 53, 3) := by decide +kernel
theorem d_M_insert_25 : decode b_M_insert 25 = .ok (.aload_n 0, 1) := by decide +kernel
theorem d_M_insert_26 : decode b_M_insert 26 = .ok (.aload_n 0, 1) := by decide +kernel
theorem d_M_insert_27 : decode b_M_insert 27 = .ok (.getfield 49, 3) := by decide +kernel
theorem d_M_insert_30 : decode b_M_insert 30 = .ok (.sipush 160, 3) := by decide +kernel
theorem d_M_insert_33 : decode b_M_insert 33 = .ok (.if_icmp .ne 7, 3) := by decide +kernel
theorem d_M_insert_36 : decode b_M_insert 36 = .ok (.iconst 1, 1) := by decide +kernel
theorem d_M_insert_37 : decode b_M_insert 37 = .ok (.goto 4, 3) := by decide +kernel
theorem d_M_insert_40 : decode b_M_insert 40 = .ok (.iconst 0, 1) := by decide +kernel
theorem d_M_insert_41 : decode b_M_insert 41 = .ok (.iconst 2, 1) := by decide +kernel
theorem d_M_insert_42 : decode b_M_insert 42 = .ok (.invokevirtual 73, 3) := by decide +kernel
theorem d_M_insert_45 : decode b_M_insert 45 = .ok (.ifCond .ne 30, 3) := by decide +kernel
theorem d_M_insert_48 : decode b_M_insert 48 = .ok (.aload_n 0, 1) := by decide +kernel
theorem d_M_insert_49 : decode b_M_insert 49 = .ok (.iload_n 2, 1) := by decide +kernel
theorem d_M_insert_50 : decode b_M_insert 50 = .ok (.iconst (-1), 1) := by decide +kernel
theorem d_M_insert_51 : decode b_M_insert 51 = .ok (.if_icmp .eq 16, 3) := by decide +kernel
theorem d_M_insert_54 : decode b_M_insert 54 = .ok (.aload_n 0, 1) := by decide +kernel
theorem d_M_insert_55 : decode b_M_insert 55 = .ok (.iload_n 1, 1) := by decide +kernel
theorem d_M_insert_56 : decode b_M_insert 56 = .ok (.iload_n 2, 1) := by decide +kernel
theorem d_M_insert_57 : decode b_M_insert 57 = .ok (.invokevirtual 77, 3) := by decide +kernel
theorem d_M_insert_60 : decode b_M_insert 60 = .ok (.ifCond .ne 7, 3) := by decide +kernel
theorem d_M_insert_63 : decode b_M_insert 63 = .ok (.iconst 1, 1) := by decide +kernel
theorem d_M_insert_64 : decode b_M_insert 64 = .ok (.goto 4, 3) := by decide +kernel
theorem d_M_insert_67 : decode b_M_insert 67 = .ok (.iconst 0, 1) := by decide +kernel
theorem d_M_insert_68 : decode b_M_insert 68 = .ok (.iconst 3, 1) := by decide +kernel
theorem d_M_insert_69 : decode b_M_insert 69 = .ok (.invokevirtual 73, 3) := by decide +kernel
theorem d_M_insert_72 : decode b_M_insert 72 = .ok (.ifCond .eq 5, 3) := by decide +kernel
theorem d_M_insert_75 : decode b_M_insert 75 = .ok (.iconst 0, 1) := by decide +kernel
theorem d_M_insert_76 : decode b_M_insert 76 = .ok (.ireturn, 1) := by decide +kernel
theorem d_M_insert_77 : decode b_M_insert 77 = .ok (.aload_n 0, 1) := by decide +kernel
theorem d_M_insert_78 : decode b_M_insert 78 = .ok (.iload_n 1, 1) := by decide +kernel
theorem d_M_insert_79 : decode b_M_insert 79 = .ok (.iload_n 2, 1) := by decide +kernel
theorem d_M_insert_80 : decode b_M_insert 80 = .ok (.lload_n 3, 1) := by decide +kernel
theorem d_M_insert_81 : decode b_M_insert 81 = .ok (.iconst 0, 1) := by decide +kernel
theorem d_M_insert_82 : decode b_M_insert 82 = .ok (.invokevirtual 80, 3) := by decide +kernel
theorem d_M_insert_85 : decode b_M_insert 85 = .ok (.ireturn, 1) := by decide +kernel
theorem d_M_delete_0 : decode b_M_delete 0 = .ok (.aload_n 0, 1) := by decide +kernel
theorem d_M_delete_1 : decode b_M_delete 1 = .ok (.iconst 0, 1) := by decide +kernel
theorem d_M_delete_2 : decode b_M_delete 2 = .ok (.putfield 39, 3) := by decide +kernel
theorem d_M_delete_5 : decode b_M_delete 5 = .ok (.aload_n 0, 1) := by decide +kernel
theorem d_M_delete_6 : decode b_M_delete 6 = .ok (.iload_n 1, 1) := by decide +kernel
theorem d_M_delete_7 : decode b_M_delete 7 = .ok (.invokestatic 70, 3) := by decide +kernel
theorem d_M_delete_10 : decode b_M_delete 10 = .ok (.ifCond .ne 7, 3) := by decide +kernel
theorem d_M_delete_13 : decode b_M_delete 13 = .ok (.iconst 1, 1) := by decide +kernel
theorem d_M_delete_14 : decode b_M_delete 14 = .ok (.goto 4, 3) := by decide +kernel
theorem d_M_delete_17 : decode b_M_delete 17 = .ok (.iconst 0, 1) := by decide +kernel
theorem d_M_delete_18 : decode b_M_delete 18 = .ok (.iconst 1, 1) := by decide +kernel
theorem d_M_delete_19 : decode b_M_delete 19 = .ok (.invokevirtual 73, 3) := by decide +kernel
theorem d_M_delete_22 : decode b_M_delete 22 = .ok (.ifCond .ne 48, 3) := by decide +kernel
theorem d_M_delete_25 : decode b_M_delete 25 = .ok (.aload_n 0, 1) := by decide +kernel
theorem d_M_delete_26 : decode b_M_delete 26 = .ok (.aload_n 0, 1) := by decide +kernel
theorem d_M_delete_27 : decode b_M_delete 27 = .ok (.getfield 49, 3) := by decide +kernel
theorem d_M_delete_30 : decode b_M_delete 30 = .ok (.sipush 160, 3) := by decide +kernel
theorem d_M_delete_33 : decode b_M_delete 33 = .ok (.if_icmp .ne 7, 3) := by decide +kernel
theorem d_M_delete_36 : decode b_M_delete 36 = .ok (.iconst 1, 1) := by decide +kernel
theorem d_M_delete_37 : decode b_M_delete 37 = .ok (.goto 4, 3) := by decide +kernel
theorem d_M_delete_40 : decode b_M_delete 40 = .ok (.iconst 0, 1) := by decide +kernel
theorem d_M_delete_41 : decode b_M_delete 41 = .ok (.iconst 2, 1) := by decide +kernel
theorem d_M_delete_42 : decode b_M_delete 42 = .ok (.invokevirtual 73, 3) := by decide +kernel
theorem d_M_delete_45 : decode b_M_delete 45 = .ok (.ifCond .ne 25, 3) := by decide +kernel
theorem d_M_delete_48 : decode b_M_delete 48 = .ok (.aload_n 0, 1) := by decide +kernel
theorem d_M_delete_49 : decode b_M_delete 49 = .ok (.aload_n 0, 1) := by decide +kernel
theorem d_M_delete_50 : decode b_M_delete 50 = .ok (.iload_n 1, 1) := by decide +kernel
theorem d_M_delete_51 : decode b_M_delete 51 = .ok (.iload_n 2, 1) := by decide +kernel
theorem d_M_delete_52 : decode b_M_delete 52 = .ok (.invokevirtual 77, 3) := by decide +kernel
theorem d_M_delete_55 : decode b_M_delete 55 = .ok (.ifCond .ne 7, 3) := by decide +kernel
theorem d_M_delete_58 : decode b_M_delete 58 = .ok (.iconst 1, 1) := by decide +kernel
theorem d_M_delete_59 : decode b_M_delete 59 = .ok (.goto 4, 3) := by decide +kernel
theorem d_M_delete_62 : decode b_M_delete 62 = .ok (.iconst 0, 1) := by decide +kernel
theorem d_M_delete_63 : decode b_M_delete 63 = .ok (.iconst 3, 1) := by decide +kernel
theorem d_M_delete_64 : decode b_M_delete 64 = .ok (.invokevirtual 73, 3) := by decide +kernel
theorem d_M_delete_67 : decode b_M_delete 67 = .ok (.ifCond .eq 5, 3) := by decide +kernel
theorem d_M_delete_70 : decode b_M_delete 70 = .ok (.iconst 0, 1) := by decide +kernel
theorem d_M_delete_71 : decode b_M_delete 71 = .ok (.ireturn, 1) := by decide +kernel
theorem d_M_delete_72 : decode b_M_delete 72 = .ok (.aload_n 0, 1) := by decide +kernel
theorem d_M_delete_73 : decode b_M_delete 73 = .ok (.iload_n 1, 1) := by decide +kernel
theorem d_M_delete_74 : decode b_M_delete 74 = .ok (.iload_n 2, 1) := by decide +kernel
theorem d_M_delete_75 : decode b_M_delete 75 = .ok (.lconst 0, 1) := by decide +kernel
theorem d_M_delete_76 : decode b_M_delete 76 = .ok (.iconst 1, 1) := by decide +kernel
theorem d_M_delete_77 : decode b_M_delete 77 = .ok (.invokevirtual 80, 3) := by decide +kernel
theorem d_M_delete_80 : decode b_M_delete 80 = .ok (.ireturn, 1) := by decide +kernel
theorem d_M_give_0 : decode b_M_give 0 = .ok (.aload_n 0, 1) := by decide +kernel
theorem d_M_give_1 : decode b_M_give 1 = .ok (.iconst 0, 1) := by decide +kernel
theorem d_M_give_2 : decode b_M_give 2 = .ok (.putfield 39, 3) := by decide +kernel
theorem d_M_give_5 : decode b_M_give 5 = .ok (.aload_n 0, 1) := by decide +kernel
theorem d_M_give_6 : decode b_M_give 6 = .ok (.iload_n 1, 1) := by decide +kernel
theorem d_M_give_7 : decode b_M_give 7 = .ok (.invokestatic 70, 3) := by decide +kernel
theorem d_M_give_10 : decode b_M_give 10 = .ok (.ifCond .ne 7, 3) := by decide +kernel
theorem d_M_give_13 : decode b_M_give 13 = .ok (.iconst 1, 1) := by decide +kernel
theorem d_M_give_14 : decode b_M_give 14 = .ok (.goto 4, 3) := by decide +kernel
theorem d_M_give_17 : decode b_M_give 17 = .ok (.iconst 0, 1) := by decide +kernel
theorem d_M_give_18 : decode b_M_give 18 = .ok (.iconst 1, 1) := by decide +kernel
theorem d_M_give_19 : decode b_M_give 19 = .ok (.invokevirtual 73, 3) := by decide +kernel
theorem d_M_give_22 : decode b_M_give 22 = .ok (.ifCond .ne 69, 3) := by decide +kernel
theorem d_M_give_25 : decode b_M_give 25 = .ok (.aload_n 0, 1) := by decide +kernel
theorem d_M_give_26 : decode b_M_give 26 = .ok (.aload_n 0, 1) := by decide +kernel
theorem d_M_give_27 : decode b_M_give 27 = .ok (.iload_n 2, 1) := by decide +kernel
theorem d_M_give_28 : decode b_M_give 28 = .ok (.invokevirtual 52, 3) := by decide +kernel
theorem d_M_give_31 : decode b_M_give 31 = .ok (.ifCond .ne 7, 3) := by decide +kernel
theorem d_M_give_34 : decode b_M_give 34 = .ok (.iconst 1, 1) := by decide +kernel
theorem d_M_give_35 : decode b_M_give 35 = .ok (.goto 4, 3) := by decide +kernel
theorem d_M_give_38 : decode b_M_give 38 = .ok (.iconst 0, 1) := by decide +kernel
theorem d_M_give_39 : decode b_M_give 39 = .ok (.iconst 2, 1) := by decide +kernel
theorem d_M_give_40 : decode b_M_give 40 = .ok (.invokevirtual 73, 3) := by decide +kernel
theorem d_M_give_43 : decode b_M_give 43 = .ok (.ifCond .ne 48, 3) := by decide +kernel
theorem d_M_give_46 : decode b_M_give 46 = .ok (.aload_n 0, 1) := by decide +kernel
theorem d_M_give_47 : decode b_M_give 47 = .ok (.aload_n 0, 1) := by decide +kernel
theorem d_M_give_48 : decode b_M_give 48 = .ok (.getfield 9, 3) := by decide +kernel
theorem d_M_give_51 : decode b_M_give 51 = .ok (.iload_n 2, 1) := by decide +kernel
theorem d_M_give_52 : decode b_M_give 52 = .ok (.iaload, 1) := by decide +kernel
theorem d_M_give_53 : decode b_M_give 53 = .ok (.ifCond .ge 12, 3) := by decide +kernel
theorem d_M_give_56 : decode b_M_give 56 = .ok (.aload_n 0, 1) := by decide +kernel
theorem d_M_give_57 : decode b_M_give 57 = .ok (.getfield 23, 3) := by decide +kernel
theorem d_M_give_60 : decode b_M_give 60 = .ok (.iload_n 2, 1) := by decide +kernel
theorem d_M_give_61 : decode b_M_give 61 = .ok (.baload, 1) := by decide +kernel
theorem d_M_give_62 : decode b_M_give 62 = .ok (.ifCond .eq 21, 3) := by decide +kernel
theorem d_M_give_65 : decode b_M_give 65 = .ok (.aload_n 0, 1) := by decide +kernel
theorem d_M_give_66 : decode b_M_give 66 = .ok (.iload_n 1, 1) := by decide +kernel
theorem d_M_give_67 : decode b_M_give 67 = .ok (.aload_n 0, 1) := by decide +kernel
theorem d_M_give_68 : decode b_M_give 68 = .ok (.getfield 9, 3) := by decide +kernel
theorem d_M_give_71 : decode b_M_give 71 = .ok (.iload_n 2, 1) := by decide +kernel
theorem d_M_give_72 : decode b_M_give 72 = .ok (.iaload, 1) := by decide +kernel
theorem d_M_give_73 : decode b_M_give 73 = .ok (.invokevirtual 77, 3) := by decide +kernel
theorem d_M_give_76 : decode b_M_give 76 = .ok (.ifCond .ne 7, 3) := by decide +kernel
theorem d_M_give_79 : decode b_M_give 79 = .ok (.iconst 1, 1) := by decide +kernel
theorem d_M_give_80 : decode b_M_give 80 = .ok (.goto 4, 3) := by decide +kernel
theorem d_M_give_83 : decode b_M_give 83 = .ok (.iconst 0, 1) := by decide +kernel
theorem d_M_give_84 : decode b_M_give 84 = .ok (.iconst 3, 1) := by decide +kernel
theorem d_M_give_85 : decode b_M_give 85 = .ok (.invokevirtual 73, 3) := by decide +kernel
theorem d_M_give_88 : decode b_M_give 88 = .ok (.ifCond .eq 4, 3) := by decide +kernel
theorem d_M_give_91 : decode b_M_give 91 = .ok (.return_, 1) := by decide +kernel
theorem d_M_give_92 : decode b_M_give 92 = .ok (.aload_n 0, 1) := by decide +kernel
theorem d_M_give_93 : decode b_M_give 93 = .ok (.getfield 27, 3) := by decide +kernel
theorem d_M_give_96 : decode b_M_give 96 = .ok (.sipush 160, 3) := by decide +kernel
theorem d_M_give_99 : decode b_M_give 99 = .ok (.iload_n 1, 1) := by decide +kernel
theorem d_M_give_100 : decode b_M_give 100 = .ok (.imul, 1) := by decide +kernel
theorem d_M_give_101 : decode b_M_give 101 = .ok (.iload_n 2, 1) := by decide +kernel
theorem d_M_give_102 : decode b_M_give 102 = .ok (.iadd, 1) := by decide +kernel
theorem d_M_give_103 : decode b_M_give 103 = .ok (.iconst 1, 1) := by decide +kernel
theorem d_M_give_104 : decode b_M_give 104 = .ok (.bastore, 1) := by decide +kernel
theorem d_M_give_105 : decode b_M_give 105 = .ok (.return_, 1) := by decide +kernel
theorem d_M_tell_0 : decode b_M_tell 0 = .ok (.aload_n 0, 1) := by decide +kernel
theorem d_M_tell_1 : decode b_M_tell 1 = .ok (.iconst 0, 1) := by decide +kernel
theorem d_M_tell_2 : decode b_M_tell 2 = .ok (.putfield 39, 3) := by decide +kernel
theorem d_M_tell_5 : decode b_M_tell 5 = .ok (.aload_n 0, 1) := by decide +kernel
theorem d_M_tell_6 : decode b_M_tell 6 = .ok (.iload_n 1, 1) := by decide +kernel
theorem d_M_tell_7 : decode b_M_tell 7 = .ok (.invokestatic 70, 3) := by decide +kernel
theorem d_M_tell_10 : decode b_M_tell 10 = .ok (.ifCond .eq 10, 3) := by decide +kernel
theorem d_M_tell_13 : decode b_M_tell 13 = .ok (.iload_n 2, 1) := by decide +kernel
theorem d_M_tell_14 : decode b_M_tell 14 = .ok (.invokestatic 70, 3) := by decide +kernel
theorem d_M_tell_17 : decode b_M_tell 17 = .ok (.ifCond .ne 7, 3) := by decide +kernel
theorem d_M_tell_20 : decode b_M_tell 20 = .ok (.iconst 1, 1) := by decide +kernel
theorem d_M_tell_21 : decode b_M_tell 21 = .ok (.goto 4, 3) := by decide +kernel
theorem d_M_tell_24 : decode b_M_tell 24 = .ok (.iconst 0, 1) := by decide +kernel
theorem d_M_tell_25 : decode b_M_tell 25 = .ok (.iconst 1, 1) := by decide +kernel
theorem d_M_tell_26 : decode b_M_tell 26 = .ok (.invokevirtual 73, 3) := by decide +kernel
theorem d_M_tell_29 : decode b_M_tell 29 = .ok (.ifCond .eq 5, 3) := by decide +kernel
theorem d_M_tell_32 : decode b_M_tell 32 = .ok (.iconst 0, 1) := by decide +kernel
theorem d_M_tell_33 : decode b_M_tell 33 = .ok (.ireturn, 1) := by decide +kernel
theorem d_M_tell_34 : decode b_M_tell 34 = .ok (.iconst 0, 1) := by decide +kernel
theorem d_M_tell_35 : decode b_M_tell 35 = .ok (.istore_n 3, 1) := by decide +kernel
theorem d_M_tell_36 : decode b_M_tell 36 = .ok (.iconst 0, 1) := by decide +kernel
theorem d_M_tell_37 : decode b_M_tell 37 = .ok (.istore 4, 2) := by decide +kernel
theorem d_M_tell_39 : decode b_M_tell 39 = .ok (.iload 4, 2) := by decide +kernel
theorem d_M_tell_41 : decode b_M_tell 41 = .ok (.aload_n 0, 1) := by decide +kernel
theorem d_M_tell_42 : decode b_M_tell 42 = .ok (.getfield 49, 3) := by decide +kernel
theorem d_M_tell_45 : decode b_M_tell 45 = .ok (.if_icmp .ge 49, 3) := by decide +kernel
theorem d_M_tell_48 : decode b_M_tell 48 = .ok (.aload_n 0, 1) := by decide +kernel
theorem d_M_tell_49 : decode b_M_tell 49 = .ok (.iload_n 2, 1) := by decide +kernel
theorem d_M_tell_50 : decode b_M_tell 50 = .ok (.iload 4, 2) := by decide +kernel
theorem d_M_tell_52 : decode b_M_tell 52 = .ok (.invokevirtual 56, 3) := by decide +kernel
theorem d_M_tell_55 : decode b_M_tell 55 = .ok (.ifCond .eq 33, 3) := by decide +kernel
theorem d_M_tell_58 : decode b_M_tell 58 = .ok (.aload_n 0, 1) := by decide +kernel
theorem d_M_tell_59 : decode b_M_tell 59 = .ok (.iload_n 1, 1) := by decide +kernel
theorem d_M_tell_60 : decode b_M_tell 60 = .ok (.iload 4, 2) := by decide +kernel
theorem d_M_tell_62 : decode b_M_tell 62 = .ok (.invokevirtual 56, 3) := by decide +kernel
theorem d_M_tell_65 : decode b_M_tell 65 = .ok (.ifCond .eq 6, 3) := by decide +kernel
theorem d_M_tell_68 : decode b_M_tell 68 = .ok (.goto 20, 3) := by decide +kernel
theorem d_M_tell_71 : decode b_M_tell 71 = .ok (.aload_n 0, 1) := by decide +kernel
theorem d_M_tell_72 : decode b_M_tell 72 = .ok (.getfield 27, 3) := by decide +kernel
theorem d_M_tell_75 : decode b_M_tell 75 = .ok (.sipush 160, 3) := by decide +kernel
theorem d_M_tell_78 : decode b_M_tell 78 = .ok (.iload_n 1, 1) := by decide +kernel
theorem d_M_tell_79 : decode b_M_tell 79 = .ok (.imul, 1) := by decide +kernel
theorem d_M_tell_80 : decode b_M_tell 80 = .ok (.iload 4, 2) := by decide +kernel
theorem d_M_tell_82 : decode b_M_tell 82 = .ok (.iadd, 1) := by decide +kernel
theorem d_M_tell_83 : decode b_M_tell 83 = .ok (.iconst 1, 1) := by decide +kernel
theorem d_M_tell_84 : decode b_M_tell 84 = .ok (.bastore, 1) := by decide +kernel
theorem d_M_tell_85 : decode b_M_tell 85 = .ok (.iinc 3 1, 3) := by decide +kernel
theorem d_M_tell_88 : decode b_M_tell 88 = .ok (.iinc 4 1, 3) := by decide +kernel
theorem d_M_tell_91 : decode b_M_tell 91 = .ok (.goto (-52), 3) := by decide +kernel
theorem d_M_tell_94 : decode b_M_tell 94 = .ok (.iload_n 3, 1) := by decide +kernel
theorem d_M_tell_95 : decode b_M_tell 95 = .ok (.ireturn, 1) := by decide +kernel
theorem d_M_holds_0 : decode b_M_holds 0 = .ok (.aload_n 0, 1) := by decide +kernel
theorem d_M_holds_1 : decode b_M_holds 1 = .ok (.iconst 0, 1) := by decide +kernel
theorem d_M_holds_2 : decode b_M_holds 2 = .ok (.putfield 39, 3) := by decide +kernel
theorem d_M_holds_5 : decode b_M_holds 5 = .ok (.aload_n 0, 1) := by decide +kernel
theorem d_M_holds_6 : decode b_M_holds 6 = .ok (.iload_n 1, 1) := by decide +kernel
theorem d_M_holds_7 : decode b_M_holds 7 = .ok (.invokestatic 70, 3) := by decide +kernel
theorem d_M_holds_10 : decode b_M_holds 10 = .ok (.ifCond .ne 7, 3) := by decide +kernel
theorem d_M_holds_13 : decode b_M_holds 13 = .ok (.iconst 1, 1) := by decide +kernel
theorem d_M_holds_14 : decode b_M_holds 14 = .ok (.goto 4, 3) := by decide +kernel
theorem d_M_holds_17 : decode b_M_holds 17 = .ok (.iconst 0, 1) := by decide +kernel
theorem d_M_holds_18 : decode b_M_holds 18 = .ok (.iconst 1, 1) := by decide +kernel
theorem d_M_holds_19 : decode b_M_holds 19 = .ok (.invokevirtual 73, 3) := by decide +kernel
theorem d_M_holds_22 : decode b_M_holds 22 = .ok (.ifCond .ne 37, 3) := by decide +kernel
theorem d_M_holds_25 : decode b_M_holds 25 = .ok (.aload_n 0, 1) := by decide +kernel
theorem d_M_holds_26 : decode b_M_holds 26 = .ok (.aload_n 0, 1) := by decide +kernel
theorem d_M_holds_27 : decode b_M_holds 27 = .ok (.iload_n 2, 1) := by decide +kernel
theorem d_M_holds_28 : decode b_M_holds 28 = .ok (.invokevirtual 52, 3) := by decide +kernel
theorem d_M_holds_31 : decode b_M_holds 31 = .ok (.ifCond .ne 7, 3) := by decide +kernel
theorem d_M_holds_34 : decode b_M_holds 34 = .ok (.iconst 1, 1) := by decide +kernel
theorem d_M_holds_35 : decode b_M_holds 35 = .ok (.goto 4, 3) := by decide +kernel
theorem d_M_holds_38 : decode b_M_holds 38 = .ok (.iconst 0, 1) := by decide +kernel
theorem d_M_holds_39 : decode b_M_holds 39 = .ok (.iconst 2, 1) := by decide +kernel
theorem d_M_holds_40 : decode b_M_holds 40 = .ok (.invokevirtual 73, 3) := by decide +kernel
theorem d_M_holds_43 : decode b_M_holds 43 = .ok (.ifCond .ne 16, 3) := by decide +kernel
theorem d_M_holds_46 : decode b_M_holds 46 = .ok (.aload_n 0, 1) := by decide +kernel
theorem d_M_holds_47 : decode b_M_holds 47 = .ok (.iload_n 1, 1) := by decide +kernel
theorem d_M_holds_48 : decode b_M_holds 48 = .ok (.iload_n 2, 1) := by decide +kernel
theorem d_M_holds_49 : decode b_M_holds 49 = .ok (.invokevirtual 56, 3) := by decide +kernel
theorem d_M_holds_52 : decode b_M_holds 52 = .ok (.ifCond .eq 7, 3) := by decide +kernel
theorem d_M_holds_55 : decode b_M_holds 55 = .ok (.iconst 1, 1) := by decide +kernel
theorem d_M_holds_56 : decode b_M_holds 56 = .ok (.goto 4, 3) := by decide +kernel
theorem d_M_holds_59 : decode b_M_holds 59 = .ok (.iconst 0, 1) := by decide +kernel
theorem d_M_holds_60 : decode b_M_holds 60 = .ok (.ireturn, 1) := by decide +kernel
theorem d_M_isLess_0 : decode b_M_isLess 0 = .ok (.aload_n 0, 1) := by decide +kernel
theorem d_M_isLess_1 : decode b_M_isLess 1 = .ok (.getfield 13, 3) := by decide +kernel
theorem d_M_isLess_4 : decode b_M_isLess 4 = .ok (.iload_n 1, 1) := by decide +kernel
theorem d_M_isLess_5 : decode b_M_isLess 5 = .ok (.iaload, 1) := by decide +kernel
theorem d_M_isLess_6 : decode b_M_isLess 6 = .ok (.aload_n 0, 1) := by decide +kernel
theorem d_M_isLess_7 : decode b_M_isLess 7 = .ok (.getfield 13, 3) := by decide +kernel
theorem d_M_isLess_10 : decode b_M_isLess 10 = .ok (.iload_n 2, 1) := by decide +kernel
theorem d_M_isLess_11 : decode b_M_isLess 11 = .ok (.iaload, 1) := by decide +kernel
theorem d_M_isLess_12 : decode b_M_isLess 12 = .ok (.if_icmp .eq 26, 3) := by decide +kernel
theorem d_M_isLess_15 : decode b_M_isLess 15 = .ok (.aload_n 0, 1) := by decide +kernel
theorem d_M_isLess_16 : decode b_M_isLess 16 = .ok (.getfield 13, 3) := by decide +kernel
theorem d_M_isLess_19 : decode b_M_isLess 19 = .ok (.iload_n 1, 1) := by decide +kernel
theorem d_M_isLess_20 : decode b_M_isLess 20 = .ok (.iaload, 1) := by decide +kernel
theorem d_M_isLess_21 : decode b_M_isLess 21 = .ok (.aload_n 0, 1) := by decide +kernel
theorem d_M_isLess_22 : decode b_M_isLess 22 = .ok (.getfield 13, 3) := by decide +kernel
theorem d_M_isLess_25 : decode b_M_isLess 25 = .ok (.iload_n 2, 1) := by decide +kernel
theorem d_M_isLess_26 : decode b_M_isLess 26 = .ok (.iaload, 1) := by decide +kernel
theorem d_M_isLess_27 : decode b_M_isLess 27 = .ok (.if_icmp .ge 7, 3) := by decide +kernel
theorem d_M_isLess_30 : decode b_M_isLess 30 = .ok (.iconst 1, 1) := by decide +kernel
theorem d_M_isLess_31 : decode b_M_isLess 31 = .ok (.goto 27, 3) := by decide +kernel
theorem d_M_isLess_34 : decode b_M_isLess 34 = .ok (.iconst 0, 1) := by decide +kernel
theorem d_M_isLess_35 : decode b_M_isLess 35 = .ok (.goto 23, 3) := by decide +kernel
theorem d_M_isLess_38 : decode b_M_isLess 38 = .ok (.aload_n 0, 1) := by decide +kernel
theorem d_M_isLess_39 : decode b_M_isLess 39 = .ok (.getfield 16, 3) := by decide +kernel
theorem d_M_isLess_42 : decode b_M_isLess 42 = .ok (.iload_n 1, 1) := by decide +kernel
theorem d_M_isLess_43 : decode b_M_isLess 43 = .ok (.iaload, 1) := by decide +kernel
theorem d_M_isLess_44 : decode b_M_isLess 44 = .ok (.aload_n 0, 1) := by decide +kernel
theorem d_M_isLess_45 : decode b_M_isLess 45 = .ok (.getfield 16, 3) := by decide +kernel
theorem d_M_isLess_48 : decode b_M_isLess 48 = .ok (.iload_n 2, 1) := by decide +kernel
theorem d_M_isLess_49 : decode b_M_isLess 49 = .ok (.iaload, 1) := by decide +kernel
theorem d_M_isLess_50 : decode b_M_isLess 50 = .ok (.if_icmp .ge 7, 3) := by decide +kernel
theorem d_M_isLess_53 : decode b_M_isLess 53 = .ok (.iconst 1, 1) := by decide +kernel
theorem d_M_isLess_54 : decode b_M_isLess 54 = .ok (.goto 4, 3) := by decide +kernel
theorem d_M_isLess_57 : decode b_M_isLess 57 = .ok (.iconst 0, 1) := by decide +kernel
theorem d_M_isLess_58 : decode b_M_isLess 58 = .ok (.ireturn, 1) := by decide +kernel
theorem d_M_next_0 : decode b_M_next 0 = .ok (.iconst (-1), 1) := by decide +kernel
theorem d_M_next_1 : decode b_M_next 1 = .ok (.istore 4, 2) := by decide +kernel
theorem d_M_next_3 : decode b_M_next 3 = .ok (.iconst 0, 1) := by decide +kernel
theorem d_M_next_4 : decode b_M_next 4 = .ok (.istore 5, 2) := by decide +kernel
theorem d_M_next_6 : decode b_M_next 6 = .ok (.iload 5, 2) := by decide +kernel
theorem d_M_next_8 : decode b_M_next 8 = .ok (.aload_n 0, 1) := by decide +kernel
theorem d_M_next_9 : decode b_M_next 9 = .ok (.getfield 49, 3) := by decide +kernel
theorem d_M_next_12 : decode b_M_next 12 = .ok (.if_icmp .ge 77, 3) := by decide +kernel
theorem d_M_next_15 : decode b_M_next 15 = .ok (.aload_n 0, 1) := by decide +kernel
theorem d_M_next_16 : decode b_M_next 16 = .ok (.getfield 23, 3) := by decide +kernel
theorem d_M_next_19 : decode b_M_next 19 = .ok (.iload 5, 2) := by decide +kernel
theorem d_M_next_21 : decode b_M_next 21 = .ok (.baload, 1) := by decide +kernel
theorem d_M_next_22 : decode b_M_next 22 = .ok (.ifCond .ne 61, 3) := by decide +kernel
theorem d_M_next_25 : decode b_M_next 25 = .ok (.aload_n 0, 1) := by decide +kernel
theorem d_M_next_26 : decode b_M_next 26 = .ok (.iload_n 1, 1) := by decide +kernel
theorem d_M_next_27 : decode b_M_next 27 = .ok (.iload 5, 2) := by decide +kernel
theorem d_M_next_29 : decode b_M_next 29 = .ok (.invokevirtual 56, 3) := by decide +kernel
theorem d_M_next_32 : decode b_M_next 32 = .ok (.ifCond .eq 51, 3) := by decide +kernel
theorem d_M_next_35 : decode b_M_next 35 = .ok (.aload_n 0, 1) := by decide +kernel
theorem d_M_next_36 : decode b_M_next 36 = .ok (.getfield 9, 3) := by decide +kernel
theorem d_M_next_39 : decode b_M_next 39 = .ok (.iload 5, 2) := by decide +kernel
theorem d_M_next_41 : decode b_M_next 41 = .ok (.iaload, 1) := by decide +kernel
theorem d_M_next_42 : decode b_M_next 42 = .ok (.iload_n 2, 1) := by decide +kernel
theorem d_M_next_43 : decode b_M_next 43 = .ok (.if_icmp .ne 40, 3) := by decide +kernel
theorem d_M_next_46 : decode b_M_next 46 = .ok (.iload_n 3, 1) := by decide +kernel
theorem d_M_next_47 : decode b_M_next 47 = .ok (.ifCond .lt 16, 3) := by decide +kernel
theorem d_M_next_50 : decode b_M_next 50 = .ok (.aload_n 0, 1) := by decide +kernel
theorem d_M_next_51 : decode b_M_next 51 = .ok (.iload_n 3, 1) := by decide +kernel
theorem d_M_next_52 : decode b_M_next 52 = .ok (.iload 5, 2) := by decide +kernel
theorem d_M_next_54 : decode b_M_next 54 = .ok (.invokevirtual 84, 3) := by decide +kernel
theorem d_M_next_57 : decode b_M_next 57 = .ok (.ifCond .ne 6, 3) := by decide +kernel
theorem d_M_next_60 : decode b_M_next 60 = .ok (.goto 23, 3) := by decide +kernel
theorem d_M_next_63 : decode b_M_next 63 = .ok (.iload 4, 2) := by decide +kernel
theorem d_M_next_65 : decode b_M_next 65 = .ok (.ifCond .lt 14, 3) := by decide +kernel
theorem d_M_next_68 : decode b_M_next 68 = .ok (.aload_n 0, 1) := by decide +kernel
theorem d_M_next_69 : decode b_M_next 69 = .ok (.iload 5, 2) := by decide +kernel
theorem d_M_next_71 : decode b_M_next 71 = .ok (.iload 4, 2) := by decide +kernel
theorem d_M_next_73 : decode b_M_next 73 = .ok (.invokevirtual 84, 3) := by decide +kernel
theorem d_M_next_76 : decode b_M_next 76 = .ok (.ifCond .eq 7, 3) := by decide +kernel
theorem d_M_next_79 : decode b_M_next 79 = .ok (.iload 5, 2) := by decide +kernel
theorem d_M_next_81 : decode b_M_next 81 = .ok (.istore 4, 2) := by decide +kernel
theorem d_M_next_83 : decode b_M_next 83 = .ok (.iinc 5 1, 3) := by decide +kernel
theorem d_M_next_86 : decode b_M_next 86 = .ok (.goto (-80), 3) := by decide +kernel
theorem d_M_next_89 : decode b_M_next 89 = .ok (.iload 4, 2) := by decide +kernel
theorem d_M_next_91 : decode b_M_next 91 = .ok (.ireturn, 1) := by decide +kernel
theorem d_M_look_0 : decode b_M_look 0 = .ok (.aload_n 0, 1) := by decide +kernel
theorem d_M_look_1 : decode b_M_look 1 = .ok (.iconst 0, 1) := by decide +kernel
theorem d_M_look_2 : decode b_M_look 2 = .ok (.putfield 87, 3) := by decide +kernel
theorem d_M_look_5 : decode b_M_look 5 = .ok (.iconst 0, 1) := by decide +kernel
theorem d_M_look_6 : decode b_M_look 6 = .ok (.istore_n 2, 1) := by decide +kernel
theorem d_M_look_7 : decode b_M_look 7 = .ok (.aload_n 0, 1) := by decide +kernel
theorem d_M_look_8 : decode b_M_look 8 = .ok (.iload_n 1, 1) := by decide +kernel
theorem d_M_look_9 : decode b_M_look 9 = .ok (.iconst (-1), 1) := by decide +kernel
theorem d_M_look_10 : decode b_M_look 10 = .ok (.iconst (-1), 1) := by decide +kernel
theorem d_M_look_11 : decode b_M_look 11 = .ok (.invokevirtual 90, 3) := by decide +kernel
theorem d_M_look_14 : decode b_M_look 14 = .ok (.istore_n 3, 1) := by decide +kernel
theorem d_M_look_15 : decode b_M_look 15 = .ok (.iload_n 3, 1) := by decide +kernel
theorem d_M_look_16 : decode b_M_look 16 = .ok (.ifCond .lt 24, 3) := by decide +kernel
theorem d_M_look_19 : decode b_M_look 19 = .ok (.aload_n 0, 1) := by decide +kernel
theorem d_M_look_20 : decode b_M_look 20 = .ok (.getfield 33, 3) := by decide +kernel
theorem d_M_look_23 : decode b_M_look 23 = .ok (.iload_n 2, 1) := by decide +kernel
theorem d_M_look_24 : decode b_M_look 24 = .ok (.iinc 2 1, 3) := by decide +kernel
theorem d_M_look_27 : decode b_M_look 27 = .ok (.iload_n 3, 1) := by decide +kernel
theorem d_M_look_28 : decode b_M_look 28 = .ok (.iastore, 1) := by decide +kernel
theorem d_M_look_29 : decode b_M_look 29 = .ok (.aload_n 0, 1) := by decide +kernel
theorem d_M_look_30 : decode b_M_look 30 = .ok (.iload_n 1, 1) := by decide +kernel
theorem d_M_look_31 : decode b_M_look 31 = .ok (.iconst (-1), 1) := by decide +kernel
theorem d_M_look_32 : decode b_M_look 32 = .ok (.iload_n 3, 1) := by decide +kernel
theorem d_M_look_33 : decode b_M_look 33 = .ok (.invokevirtual 90, 3) := by decide +kernel
theorem d_M_look_36 : decode b_M_look 36 = .ok (.istore_n 3, 1) := by decide +kernel
theorem d_M_look_37 : decode b_M_look 37 = .ok (.goto (-22), 3) := by decide +kernel
theorem d_M_look_40 : decode b_M_look 40 = .ok (.iload_n 2, 1) := by decide +kernel
theorem d_M_look_41 : decode b_M_look 41 = .ok (.ifCond .le 71, 3) := by decide +kernel
theorem d_M_look_44 : decode b_M_look 44 = .ok (.aload_n 0, 1) := by decide +kernel
theorem d_M_look_45 : decode b_M_look 45 = .ok (.getfield 33, 3) := by decide +kernel
theorem d_M_look_48 : decode b_M_look 48 = .ok (.iinc 2 (-1), 3) := by decide +kernel
theorem d_M_look_51 : decode b_M_look 51 = .ok (.iload_n 2, 1) := by decide +kernel
theorem d_M_look_52 : decode b_M_look 52 = .ok (.iaload, 1) := by decide +kernel
theorem d_M_look_53 : decode b_M_look 53 = .ok (.istore_n 3, 1) := by decide +kernel
theorem d_M_look_54 : decode b_M_look 54 = .ok (.aload_n 0, 1) := by decide +kernel
theorem d_M_look_55 : decode b_M_look 55 = .ok (.getfield 30, 3) := by decide +kernel
theorem d_M_look_58 : decode b_M_look 58 = .ok (.aload_n 0, 1) := by decide +kernel
theorem d_M_look_59 : decode b_M_look 59 = .ok (.dup, 1) := by decide +kernel
theorem d_M_look_60 : decode b_M_look 60 = .ok (.getfield 87, 3) := by decide +kernel
theorem d_M_look_63 : decode b_M_look 63 = .ok (.dup_x1, 1) := by decide +kernel
theorem d_M_look_64 : decode b_M_look 64 = .ok (.iconst 1, 1) := by decide +kernel
theorem d_M_look_65 : decode b_M_look 65 = .ok (.iadd, 1) := by decide +kernel
theorem d_M_look_66 : decode b_M_look 66 = .ok (.putfield 87, 3) := by decide +kernel
theorem d_M_look_69 : decode b_M_look 69 = .ok (.iload_n 3, 1) := by decide +kernel
theorem d_M_look_70 : decode b_M_look 70 = .ok (.iastore, 1) := by decide +kernel
theorem d_M_look_71 : decode b_M_look 71 = .ok (.aload_n 0, 1) := by decide +kernel
theorem d_M_look_72 : decode b_M_look 72 = .ok (.iload_n 1, 1) := by decide +kernel
theorem d_M_look_73 : decode b_M_look 73 = .ok (.iload_n 3, 1) := by decide +kernel
theorem d_M_look_74 : decode b_M_look 74 = .ok (.iconst (-1), 1) := by decide +kernel
theorem d_M_look_75 : decode b_M_look 75 = .ok (.invokevirtual 90, 3) := by decide +kernel
theorem d_M_look_78 : decode b_M_look 78 = .ok (.istore 4, 2) := by decide +kernel
theorem d_M_look_80 : decode b_M_look 80 = .ok (.iload 4, 2) := by decide +kernel
theorem d_M_look_82 : decode b_M_look 82 = .ok (.ifCond .lt 27, 3) := by decide +kernel
theorem d_M_look_85 : decode b_M_look 85 = .ok (.aload_n 0, 1) := by decide +kernel
theorem d_M_look_86 : decode b_M_look 86 = .ok (.getfield 33, 3) := by decide +kernel
theorem d_M_look_89 : decode b_M_look 89 = .ok (.iload_n 2, 1) := by decide +kernel
theorem d_M_look_90 : decode b_M_look 90 = .ok (.iinc 2 1, 3) := by decide +kernel
theorem d_M_look_93 : decode b_M_look 93 = .ok (.iload 4, 2) := by decide +kernel
theorem d_M_look_95 : decode b_M_look 95 = .ok (.iastore, 1) := by decide +kernel
theorem d_M_look_96 : decode b_M_look 96 = .ok (.aload_n 0, 1) := by decide +kernel
theorem d_M_look_97 : decode b_M_look 97 = .ok (.iload_n 1, 1) := by decide +kernel
theorem d_M_look_98 : decode b_M_look 98 = .ok (.iload_n 3, 1) := by decide +kernel
theorem d_M_look_99 : decode b_M_look 99 = .ok (.iload 4, 2) := by decide +kernel
theorem d_M_look_101 : decode b_M_look 101 = .ok (.invokevirtual 90, 3) := by decide +kernel
theorem d_M_look_104 : decode b_M_look 104 = .ok (.istore 4, 2) := by decide +kernel
theorem d_M_look_106 : decode b_M_look 106 = .ok (.goto (-26), 3) := by decide +kernel
theorem d_M_look_109 : decode b_M_look 109 = .ok (.goto (-69), 3) := by decide +kernel
theorem d_M_look_112 : decode b_M_look 112 = .ok (.return_, 1) := by decide +kernel
theorem d_M_isSeen_0 : decode b_M_isSeen 0 = .ok (.iconst 0, 1) := by decide +kernel
theorem d_M_isSeen_1 : decode b_M_isSeen 1 = .ok (.istore_n 3, 1) := by decide +kernel
theorem d_M_isSeen_2 : decode b_M_isSeen 2 = .ok (.iload_n 3, 1) := by decide +kernel
theorem d_M_isSeen_3 : decode b_M_isSeen 3 = .ok (.aload_n 0, 1) := by decide +kernel
theorem d_M_isSeen_4 : decode b_M_isSeen 4 = .ok (.getfield 49, 3) := by decide +kernel
theorem d_M_isSeen_7 : decode b_M_isSeen 7 = .ok (.if_icmp .ge 39, 3) := by decide +kernel
theorem d_M_isSeen_10 : decode b_M_isSeen 10 = .ok (.aload_n 0, 1) := by decide +kernel
theorem d_M_isSeen_11 : decode b_M_isSeen 11 = .ok (.getfield 23, 3) := by decide +kernel
theorem d_M_isSeen_14 : decode b_M_isSeen 14 = .ok (.iload_n 3, 1) := by decide +kernel
theorem d_M_isSeen_15 : decode b_M_isSeen 15 = .ok (.baload, 1) := by decide +kernel
theorem d_M_isSeen_16 : decode b_M_isSeen 16 = .ok (.ifCond .eq 24, 3) := by decide +kernel
theorem d_M_isSeen_19 : decode b_M_isSeen 19 = .ok (.aload_n 0, 1) := by decide +kernel
theorem d_M_isSeen_20 : decode b_M_isSeen 20 = .ok (.getfield 9, 3) := by decide +kernel
theorem d_M_isSeen_23 : decode b_M_isSeen 23 = .ok (.iload_n 3, 1) := by decide +kernel
theorem d_M_isSeen_24 : decode b_M_isSeen 24 = .ok (.iaload, 1) := by decide +kernel
theorem d_M_isSeen_25 : decode b_M_isSeen 25 = .ok (.iload_n 2, 1) := by decide +kernel
theorem d_M_isSeen_26 : decode b_M_isSeen 26 = .ok (.if_icmp .ne 14, 3) := by decide +kernel
theorem d_M_isSeen_29 : decode b_M_isSeen 29 = .ok (.aload_n 0, 1) := by decide +kernel
theorem d_M_isSeen_30 : decode b_M_isSeen 30 = .ok (.iload_n 1, 1) := by decide +kernel
theorem d_M_isSeen_31 : decode b_M_isSeen 31 = .ok (.iload_n 3, 1) := by decide +kernel
theorem d_M_isSeen_32 : decode b_M_isSeen 32 = .ok (.invokevirtual 56, 3) := by decide +kernel
theorem d_M_isSeen_35 : decode b_M_isSeen 35 = .ok (.ifCond .eq 5, 3) := by decide +kernel
theorem d_M_isSeen_38 : decode b_M_isSeen 38 = .ok (.iconst 0, 1) := by decide +kernel
theorem d_M_isSeen_39 : decode b_M_isSeen 39 = .ok (.ireturn, 1) := by decide +kernel
theorem d_M_isSeen_40 : decode b_M_isSeen 40 = .ok (.iinc 3 1, 3) := by decide +kernel
theorem d_M_isSeen_43 : decode b_M_isSeen 43 = .ok (.goto (-41), 3) := by decide +kernel
theorem d_M_isSeen_46 : decode b_M_isSeen 46 = .ok (.iconst 1, 1) := by decide +kernel
theorem d_M_isSeen_47 : decode b_M_isSeen 47 = .ok (.ireturn, 1) := by decide +kernel
theorem d_M_lookSeen_0 : decode b_M_lookSeen 0 = .ok (.aload_n 0, 1) := by decide +kernel
theorem d_M_lookSeen_1 : decode b_M_lookSeen 1 = .ok (.iload_n 1, 1) := by decide +kernel
theorem d_M_lookSeen_2 : decode b_M_lookSeen 2 = .ok (.invokevirtual 94, 3) := by decide +kernel
theorem d_M_lookSeen_5 : decode b_M_lookSeen 5 = .ok (.iconst 0, 1) := by decide +kernel
theorem d_M_lookSeen_6 : decode b_M_lookSeen 6 = .ok (.istore_n 2, 1) := by decide +kernel
theorem d_M_lookSeen_7 : decode b_M_lookSeen 7 = .ok (.iconst 0, 1) := by decide +kernel
theorem d_M_lookSeen_8 : decode b_M_lookSeen 8 = .ok (.istore_n 3, 1) := by decide +kernel
theorem d_M_lookSeen_9 : decode b_M_lookSeen 9 = .ok (.iload_n 3, 1) := by decide +kernel
theorem d_M_lookSeen_10 : decode b_M_lookSeen 10 = .ok (.aload_n 0, 1) := by decide +kernel
theorem d_M_lookSeen_11 : decode b_M_lookSeen 11 = .ok (.getfield 87, 3) := by decide +kernel
theorem d_M_lookSeen_14 : decode b_M_lookSeen 14 = .ok (.if_icmp .ge 38, 3) := by decide +kernel
theorem d_M_lookSeen_17 : decode b_M_lookSeen 17 = .ok (.aload_n 0, 1) := by decide +kernel
theorem d_M_lookSeen_18 : decode b_M_lookSeen 18 = .ok (.iload_n 1, 1) := by decide +kernel
theorem d_M_lookSeen_19 : decode b_M_lookSeen 19 = .ok (.aload_n 0, 1) := by decide +kernel
theorem d_M_lookSeen_20 : decode b_M_lookSeen 20 = .ok (.getfield 30, 3) := by decide +kernel
theorem d_M_lookSeen_23 : decode b_M_lookSeen 23 = .ok (.iload_n 3, 1) := by decide +kernel
theorem d_M_lookSeen_24 : decode b_M_lookSeen 24 = .ok (.iaload, 1) := by decide +kernel
theorem d_M_lookSeen_25 : decode b_M_lookSeen 25 = .ok (.invokevirtual 98, 3) := by decide +kernel
theorem d_M_lookSeen_28 : decode b_M_lookSeen 28 = .ok (.ifCond .eq 18, 3) := by decide +kernel
theorem d_M_lookSeen_31 : decode b_M_lookSeen 31 = .ok (.aload_n 0, 1) := by decide +kernel
theorem d_M_lookSeen_32 : decode b_M_lookSeen 32 = .ok (.getfield 30, 3) := by decide +kernel
theorem d_M_lookSeen_35 : decode b_M_lookSeen 35 = .ok (.iload_n 2, 1) := by decide +kernel
theorem d_M_lookSeen_36 : decode b_M_lookSeen 36 = .ok (.iinc 2 1, 3) := by decide +kernel
theorem d_M_lookSeen_39 : decode b_M_lookSeen 39 = .ok (.aload_n 0, 1) := by decide +kernel
theorem d_M_lookSeen_40 : decode b_M_lookSeen 40 = .ok (.getfield 30, 3) := by decide +kernel
theorem d_M_lookSeen_43 : decode b_M_lookSeen 43 = .ok (.iload_n 3, 1) := by decide +kernel
theorem d_M_lookSeen_44 : decode b_M_lookSeen 44 = .ok (.iaload, 1) := by decide +kernel
theorem d_M_lookSeen_45 : decode b_M_lookSeen 45 = .ok (.iastore, 1) := by decide +kernel
theorem d_M_lookSeen_46 : decode b_M_lookSeen 46 = .ok (.iinc 3 1, 3) := by decide +kernel
theorem d_M_lookSeen_49 : decode b_M_lookSeen 49 = .ok (.goto (-40), 3) := by decide +kernel
theorem d_M_lookSeen_52 : decode b_M_lookSeen 52 = .ok (.aload_n 0, 1) := by decide +kernel
theorem d_M_lookSeen_53 : decode b_M_lookSeen 53 = .ok (.iload_n 2, 1) := by decide +kernel
theorem d_M_lookSeen_54 : decode b_M_lookSeen 54 = .ok (.putfield 87, 3) := by decide +kernel
theorem d_M_lookSeen_57 : decode b_M_lookSeen 57 = .ok (.return_, 1) := by decide +kernel
theorem d_M_at_0 : decode b_M_at 0 = .ok (.aload_n 0, 1) := by decide +kernel
theorem d_M_at_1 : decode b_M_at 1 = .ok (.iconst 0, 1) := by decide +kernel
theorem d_M_at_2 : decode b_M_at 2 = .ok (.putfield 39, 3) := by decide +kernel
theorem d_M_at_5 : decode b_M_at 5 = .ok (.aload_n 0, 1) := by decide +kernel
theorem d_M_at_6 : decode b_M_at 6 = .ok (.iload_n 1, 1) := by decide +kernel
theorem d_M_at_7 : decode b_M_at 7 = .ok (.invokestatic 70, 3) := by decide +kernel
theorem d_M_at_10 : decode b_M_at 10 = .ok (.ifCond .ne 7, 3) := by decide +kernel
theorem d_M_at_13 : decode b_M_at 13 = .ok (.iconst 1, 1) := by decide +kernel
theorem d_M_at_14 : decode b_M_at 14 = .ok (.goto 4, 3) := by decide +kernel
theorem d_M_at_17 : decode b_M_at 17 = .ok (.iconst 0, 1) := by decide +kernel
theorem d_M_at_18 : decode b_M_at 18 = .ok (.iconst 1, 1) := by decide +kernel
theorem d_M_at_19 : decode b_M_at 19 = .ok (.invokevirtual 73, 3) := by decide +kernel
theorem d_M_at_22 : decode b_M_at 22 = .ok (.ifCond .eq 5, 3) := by decide +kernel
theorem d_M_at_25 : decode b_M_at 25 = .ok (.iconst 0, 1) := by decide +kernel
theorem d_M_at_26 : decode b_M_at 26 = .ok (.ireturn, 1) := by decide +kernel
theorem d_M_at_27 : decode b_M_at 27 = .ok (.aload_n 0, 1) := by decide +kernel
theorem d_M_at_28 : decode b_M_at 28 = .ok (.iload_n 1, 1) := by decide +kernel
theorem d_M_at_29 : decode b_M_at 29 = .ok (.invokevirtual 101, 3) := by decide +kernel
theorem d_M_at_32 : decode b_M_at 32 = .ok (.iload_n 2, 1) := by decide +kernel
theorem d_M_at_33 : decode b_M_at 33 = .ok (.i2l, 1) := by decide +kernel
theorem d_M_at_34 : decode b_M_at 34 = .ok (.lconst 0, 1) := by decide +kernel
theorem d_M_at_35 : decode b_M_at 35 = .ok (.aload_n 0, 1) := by decide +kernel
theorem d_M_at_36 : decode b_M_at 36 = .ok (.getfield 87, 3) := by decide +kernel
theorem d_M_at_39 : decode b_M_at 39 = .ok (.iconst 1, 1) := by decide +kernel
theorem d_M_at_40 : decode b_M_at 40 = .ok (.isub, 1) := by decide +kernel
theorem d_M_at_41 : decode b_M_at 41 = .ok (.i2l, 1) := by decide +kernel
theorem d_M_at_42 : decode b_M_at 42 = .ok (.invokestatic 45, 3) := by decide +kernel
theorem d_M_at_45 : decode b_M_at 45 = .ok (.ifCond .eq 12, 3) := by decide +kernel
theorem d_M_at_48 : decode b_M_at 48 = .ok (.aload_n 0, 1) := by decide +kernel
theorem d_M_at_49 : decode b_M_at 49 = .ok (.getfield 30, 3) := by decide +kernel
theorem d_M_at_52 : decode b_M_at 52 = .ok (.iload_n 2, 1) := by decide +kernel
theorem d_M_at_53 : decode b_M_at 53 = .ok (.iaload, 1) := by decide +kernel
theorem d_M_at_54 : decode b_M_at 54 = .ok (.goto 4, 3) := by decide +kernel
theorem d_M_at_57 : decode b_M_at 57 = .ok (.iconst (-1), 1) := by decide +kernel
theorem d_M_at_58 : decode b_M_at 58 = .ok (.ireturn, 1) := by decide +kernel
theorem d_M_place_0 : decode b_M_place 0 = .ok (.aload_n 0, 1) := by decide +kernel
theorem d_M_place_1 : decode b_M_place 1 = .ok (.iconst 0, 1) := by decide +kernel
theorem d_M_place_2 : decode b_M_place 2 = .ok (.putfield 39, 3) := by decide +kernel
theorem d_M_place_5 : decode b_M_place 5 = .ok (.aload_n 0, 1) := by decide +kernel
theorem d_M_place_6 : decode b_M_place 6 = .ok (.iload_n 1, 1) := by decide +kernel
theorem d_M_place_7 : decode b_M_place 7 = .ok (.invokestatic 70, 3) := by decide +kernel
theorem d_M_place_10 : decode b_M_place 10 = .ok (.ifCond .ne 7, 3) := by decide +kernel
theorem d_M_place_13 : decode b_M_place 13 = .ok (.iconst 1, 1) := by decide +kernel
theorem d_M_place_14 : decode b_M_place 14 = .ok (.goto 4, 3) := by decide +kernel
theorem d_M_place_17 : decode b_M_place 17 = .ok (.iconst 0, 1) := by decide +kernel
theorem d_M_place_18 : decode b_M_place 18 = .ok (.iconst 1, 1) := by decide +kernel
theorem d_M_place_19 : decode b_M_place 19 = .ok (.invokevirtual 73, 3) := by decide +kernel
theorem d_M_place_22 : decode b_M_place 22 = .ok (.ifCond .ne 46, 3) := by decide +kernel
theorem d_M_place_25 : decode b_M_place 25 = .ok (.aload_n 0, 1) := by decide +kernel
theorem d_M_place_26 : decode b_M_place 26 = .ok (.aload_n 0, 1) := by decide +kernel
theorem d_M_place_27 : decode b_M_place 27 = .ok (.iload_n 2, 1) := by decide +kernel
theorem d_M_place_28 : decode b_M_place 28 = .ok (.invokevirtual 52, 3) := by decide +kernel
theorem d_M_place_31 : decode b_M_place 31 = .ok (.ifCond .ne 7, 3) := by decide +kernel
theorem d_M_place_34 : decode b_M_place 34 = .ok (.iconst 1, 1) := by decide +kernel
theorem d_M_place_35 : decode b_M_place 35 = .ok (.goto 4, 3) := by decide +kernel
theorem d_M_place_38 : decode b_M_place 38 = .ok (.iconst 0, 1) := by decide +kernel
theorem d_M_place_39 : decode b_M_place 39 = .ok (.iconst 2, 1) := by decide +kernel
theorem d_M_place_40 : decode b_M_place 40 = .ok (.invokevirtual 73, 3) := by decide +kernel
theorem d_M_place_43 : decode b_M_place 43 = .ok (.ifCond .ne 25, 3) := by decide +kernel
theorem d_M_place_46 : decode b_M_place 46 = .ok (.aload_n 0, 1) := by decide +kernel
theorem d_M_place_47 : decode b_M_place 47 = .ok (.aload_n 0, 1) := by decide +kernel
theorem d_M_place_48 : decode b_M_place 48 = .ok (.iload_n 1, 1) := by decide +kernel
theorem d_M_place_49 : decode b_M_place 49 = .ok (.iload_n 2, 1) := by decide +kernel
theorem d_M_place_50 : decode b_M_place 50 = .ok (.invokevirtual 77, 3) := by decide +kernel
theorem d_M_place_53 : decode b_M_place 53 = .ok (.ifCond .ne 7, 3) := by decide +kernel
theorem d_M_place_56 : decode b_M_place 56 = .ok (.iconst 1, 1) := by decide +kernel
theorem d_M_place_57 : decode b_M_place 57 = .ok (.goto 4, 3) := by decide +kernel
theorem d_M_place_60 : decode b_M_place 60 = .ok (.iconst 0, 1) := by decide +kernel
theorem d_M_place_61 : decode b_M_place 61 = .ok (.iconst 3, 1) := by decide +kernel
theorem d_M_place_62 : decode b_M_place 62 = .ok (.invokevirtual 73, 3) := by decide +kernel
theorem d_M_place_65 : decode b_M_place 65 = .ok (.ifCond .eq 5, 3) := by decide +kernel
theorem d_M_place_68 : decode b_M_place 68 = .ok (.iconst 0, 1) := by decide +kernel
theorem d_M_place_69 : decode b_M_place 69 = .ok (.ireturn, 1) := by decide +kernel
theorem d_M_place_70 : decode b_M_place 70 = .ok (.aload_n 0, 1) := by decide +kernel
theorem d_M_place_71 : decode b_M_place 71 = .ok (.iload_n 1, 1) := by decide +kernel
theorem d_M_place_72 : decode b_M_place 72 = .ok (.invokevirtual 94, 3) := by decide +kernel
theorem d_M_place_75 : decode b_M_place 75 = .ok (.iconst 0, 1) := by decide +kernel
theorem d_M_place_76 : decode b_M_place 76 = .ok (.istore_n 3, 1) := by decide +kernel
theorem d_M_place_77 : decode b_M_place 77 = .ok (.iload_n 3, 1) := by decide +kernel
theorem d_M_place_78 : decode b_M_place 78 = .ok (.aload_n 0, 1) := by decide +kernel
theorem d_M_place_79 : decode b_M_place 79 = .ok (.getfield 87, 3) := by decide +kernel
theorem d_M_place_82 : decode b_M_place 82 = .ok (.if_icmp .ge 21, 3) := by decide +kernel
theorem d_M_place_85 : decode b_M_place 85 = .ok (.aload_n 0, 1) := by decide +kernel
theorem d_M_place_86 : decode b_M_place 86 = .ok (.getfield 30, 3) := by decide +kernel
theorem d_M_place_89 : decode b_M_place 89 = .ok (.iload_n 3, 1) := by decide +kernel
theorem d_M_place_90 : decode b_M_place 90 = .ok (.iaload, 1) := by decide +kernel
theorem d_M_place_91 : decode b_M_place 91 = .ok (.iload_n 2, 1) := by decide +kernel
theorem d_M_place_92 : decode b_M_place 92 = .ok (.if_icmp .ne 5, 3) := by decide +kernel
theorem d_M_place_95 : decode b_M_place 95 = .ok (.iload_n 3, 1) := by decide +kernel
theorem d_M_place_96 : decode b_M_place 96 = .ok (.ireturn, 1) := by decide +kernel
theorem d_M_place_97 : decode b_M_place 97 = .ok (.iinc 3 1, 3) := by decide +kernel
theorem d_M_place_100 : decode b_M_place 100 = .ok (.goto (-23), 3) := by decide +kernel
theorem d_M_place_103 : decode b_M_place 103 = .ok (.iconst (-1), 1) := by decide +kernel
theorem d_M_place_104 : decode b_M_place 104 = .ok (.ireturn, 1) := by decide +kernel
theorem d_M_value_0 : decode b_M_value 0 = .ok (.aload_n 0, 1) := by decide +kernel
theorem d_M_value_1 : decode b_M_value 1 = .ok (.iconst 0, 1) := by decide +kernel
theorem d_M_value_2 : decode b_M_value 2 = .ok (.putfield 39, 3) := by decide +kernel
theorem d_M_value_5 : decode b_M_value 5 = .ok (.aload_n 0, 1) := by decide +kernel
theorem d_M_value_6 : decode b_M_value 6 = .ok (.aload_n 0, 1) := by decide +kernel
theorem d_M_value_7 : decode b_M_value 7 = .ok (.iload_n 1, 1) := by decide +kernel
theorem d_M_value_8 : decode b_M_value 8 = .ok (.invokevirtual 52, 3) := by decide +kernel
theorem d_M_value_11 : decode b_M_value 11 = .ok (.ifCond .eq 12, 3) := by decide +kernel
theorem d_M_value_14 : decode b_M_value 14 = .ok (.aload_n 0, 1) := by decide +kernel
theorem d_M_value_15 : decode b_M_value 15 = .ok (.getfield 23, 3) := by decide +kernel
theorem d_M_value_18 : decode b_M_value 18 = .ok (.iload_n 1, 1) := by decide +kernel
theorem d_M_value_19 : decode b_M_value 19 = .ok (.baload, 1) := by decide +kernel
theorem d_M_value_20 : decode b_M_value 20 = .ok (.ifCond .eq 7, 3) := by decide +kernel
theorem d_M_value_23 : decode b_M_value 23 = .ok (.iconst 1, 1) := by decide +kernel
theorem d_M_value_24 : decode b_M_value 24 = .ok (.goto 4, 3) := by decide +kernel
theorem d_M_value_27 : decode b_M_value 27 = .ok (.iconst 0, 1) := by decide +kernel
theorem d_M_value_28 : decode b_M_value 28 = .ok (.iconst 1, 1) := by decide +kernel
theorem d_M_value_29 : decode b_M_value 29 = .ok (.invokevirtual 73, 3) := by decide +kernel
theorem d_M_value_32 : decode b_M_value 32 = .ok (.ifCond .eq 7, 3) := by decide +kernel
theorem d_M_value_35 : decode b_M_value 35 = .ok (.lconst 0, 1) := by decide +kernel
theorem d_M_value_36 : decode b_M_value 36 = .ok (.goto 9, 3) := by decide +kernel
theorem d_M_value_39 : decode b_M_value 39 = .ok (.aload_n 0, 1) := by decide +kernel
theorem d_M_value_40 : decode b_M_value 40 = .ok (.getfield 19, 3) := by decide +kernel
theorem d_M_value_43 : decode b_M_value 43 = .ok (.iload_n 1, 1) := by decide +kernel
theorem d_M_value_44 : decode b_M_value 44 = .ok (.laload, 1) := by decide +kernel
theorem d_M_value_45 : decode b_M_value 45 = .ok (.lreturn, 1) := by decide +kernel
theorem d_M_stamp_0 : decode b_M_stamp 0 = .ok (.aload_n 0, 1) := by decide +kernel
theorem d_M_stamp_1 : decode b_M_stamp 1 = .ok (.iconst 0, 1) := by decide +kernel
theorem d_M_stamp_2 : decode b_M_stamp 2 = .ok (.putfield 39, 3) := by decide +kernel
theorem d_M_stamp_5 : decode b_M_stamp 5 = .ok (.aload_n 0, 1) := by decide +kernel
theorem d_M_stamp_6 : decode b_M_stamp 6 = .ok (.aload_n 0, 1) := by decide +kernel
theorem d_M_stamp_7 : decode b_M_stamp 7 = .ok (.iload_n 1, 1) := by decide +kernel
theorem d_M_stamp_8 : decode b_M_stamp 8 = .ok (.invokevirtual 52, 3) := by decide +kernel
theorem d_M_stamp_11 : decode b_M_stamp 11 = .ok (.ifCond .ne 7, 3) := by decide +kernel
theorem d_M_stamp_14 : decode b_M_stamp 14 = .ok (.iconst 1, 1) := by decide +kernel
theorem d_M_stamp_15 : decode b_M_stamp 15 = .ok (.goto 4, 3) := by decide +kernel
theorem d_M_stamp_18 : decode b_M_stamp 18 = .ok (.iconst 0, 1) := by decide +kernel
theorem d_M_stamp_19 : decode b_M_stamp 19 = .ok (.iconst 1, 1) := by decide +kernel
theorem d_M_stamp_20 : decode b_M_stamp 20 = .ok (.invokevirtual 73, 3) := by decide +kernel
theorem d_M_stamp_23 : decode b_M_stamp 23 = .ok (.ifCond .eq 7, 3) := by decide +kernel
theorem d_M_stamp_26 : decode b_M_stamp 26 = .ok (.iconst 0, 1) := by decide +kernel
theorem d_M_stamp_27 : decode b_M_stamp 27 = .ok (.goto 9, 3) := by decide +kernel
theorem d_M_stamp_30 : decode b_M_stamp 30 = .ok (.aload_n 0, 1) := by decide +kernel
theorem d_M_stamp_31 : decode b_M_stamp 31 = .ok (.getfield 13, 3) := by decide +kernel
theorem d_M_stamp_34 : decode b_M_stamp 34 = .ok (.iload_n 1, 1) := by decide +kernel
theorem d_M_stamp_35 : decode b_M_stamp 35 = .ok (.iaload, 1) := by decide +kernel
theorem d_M_stamp_36 : decode b_M_stamp 36 = .ok (.ireturn, 1) := by decide +kernel
theorem d_M_count_0 : decode b_M_count 0 = .ok (.aload_n 0, 1) := by decide +kernel
theorem d_M_count_1 : decode b_M_count 1 = .ok (.iconst 0, 1) := by decide +kernel
theorem d_M_count_2 : decode b_M_count 2 = .ok (.putfield 39, 3) := by decide +kernel
theorem d_M_count_5 : decode b_M_count 5 = .ok (.aload_n 0, 1) := by decide +kernel
theorem d_M_count_6 : decode b_M_count 6 = .ok (.iload_n 1, 1) := by decide +kernel
theorem d_M_count_7 : decode b_M_count 7 = .ok (.invokestatic 70, 3) := by decide +kernel
theorem d_M_count_10 : decode b_M_count 10 = .ok (.ifCond .eq 15, 3) := by decide +kernel
theorem d_M_count_13 : decode b_M_count 13 = .ok (.iload_n 2, 1) := by decide +kernel
theorem d_M_count_14 : decode b_M_count 14 = .ok (.i2l, 1) := by decide +kernel
theorem d_M_count_15 : decode b_M_count 15 = .ok (.lconst 0, 1) := by decide +kernel
theorem d_M_count_16 : decode b_M_count 16 = .ok (.ldc2_w 43, 3) := by decide +kernel
theorem d_M_count_19 : decode b_M_count 19 = .ok (.invokestatic 45, 3) := by decide +kernel
theorem d_M_count_22 : decode b_M_count 22 = .ok (.ifCond .ne 7, 3) := by decide +kernel
theorem d_M_count_25 : decode b_M_count 25 = .ok (.iconst 1, 1) := by decide +kernel
theorem d_M_count_26 : decode b_M_count 26 = .ok (.goto 4, 3) := by decide +kernel
theorem d_M_count_29 : decode b_M_count 29 = .ok (.iconst 0, 1) := by decide +kernel
theorem d_M_count_30 : decode b_M_count 30 = .ok (.iconst 1, 1) := by decide +kernel
theorem d_M_count_31 : decode b_M_count 31 = .ok (.invokevirtual 73, 3) := by decide +kernel
theorem d_M_count_34 : decode b_M_count 34 = .ok (.ifCond .eq 5, 3) := by decide +kernel
theorem d_M_count_37 : decode b_M_count 37 = .ok (.iconst 0, 1) := by decide +kernel
theorem d_M_count_38 : decode b_M_count 38 = .ok (.ireturn, 1) := by decide +kernel
theorem d_M_count_39 : decode b_M_count 39 = .ok (.iload_n 2, 1) := by decide +kernel
theorem d_M_count_40 : decode b_M_count 40 = .ok (.iconst 3, 1) := by decide +kernel
theorem d_M_count_41 : decode b_M_count 41 = .ok (.if_icmp .ne 9, 3) := by decide +kernel
theorem d_M_count_44 : decode b_M_count 44 = .ok (.aload_n 0, 1) := by decide +kernel
theorem d_M_count_45 : decode b_M_count 45 = .ok (.iload_n 1, 1) := by decide +kernel
theorem d_M_count_46 : decode b_M_count 46 = .ok (.invokevirtual 66, 3) := by decide +kernel
theorem d_M_count_49 : decode b_M_count 49 = .ok (.ireturn, 1) := by decide +kernel
theorem d_M_count_50 : decode b_M_count 50 = .ok (.iload_n 2, 1) := by decide +kernel
theorem d_M_count_51 : decode b_M_count 51 = .ok (.iconst 2, 1) := by decide +kernel
theorem d_M_count_52 : decode b_M_count 52 = .ok (.if_icmp .ne 13, 3) := by decide +kernel
theorem d_M_count_55 : decode b_M_count 55 = .ok (.aload_n 0, 1) := by decide +kernel
theorem d_M_count_56 : decode b_M_count 56 = .ok (.iload_n 1, 1) := by decide +kernel
theorem d_M_count_57 : decode b_M_count 57 = .ok (.invokevirtual 101, 3) := by decide +kernel
theorem d_M_count_60 : decode b_M_count 60 = .ok (.aload_n 0, 1) := by decide +kernel
theorem d_M_count_61 : decode b_M_count 61 = .ok (.getfield 87, 3) := by decide +kernel
theorem d_M_count_64 : decode b_M_count 64 = .ok (.ireturn, 1) := by decide +kernel
theorem d_M_count_65 : decode b_M_count 65 = .ok (.iconst 0, 1) := by decide +kernel
theorem d_M_count_66 : decode b_M_count 66 = .ok (.istore_n 3, 1) := by decide +kernel
theorem d_M_count_67 : decode b_M_count 67 = .ok (.iconst 0, 1) := by decide +kernel
theorem d_M_count_68 : decode b_M_count 68 = .ok (.istore 4, 2) := by decide +kernel
theorem d_M_count_70 : decode b_M_count 70 = .ok (.iload 4, 2) := by decide +kernel
theorem d_M_count_72 : decode b_M_count 72 = .ok (.aload_n 0, 1) := by decide +kernel
theorem d_M_count_73 : decode b_M_count 73 = .ok (.getfield 49, 3) := by decide +kernel
theorem d_M_count_76 : decode b_M_count 76 = .ok (.if_icmp .ge 36, 3) := by decide +kernel
theorem d_M_count_79 : decode b_M_count 79 = .ok (.aload_n 0, 1) := by decide +kernel
theorem d_M_count_80 : decode b_M_count 80 = .ok (.iload_n 1, 1) := by decide +kernel
theorem d_M_count_81 : decode b_M_count 81 = .ok (.iload 4, 2) := by decide +kernel
theorem d_M_count_83 : decode b_M_count 83 = .ok (.invokevirtual 56, 3) := by decide +kernel
theorem d_M_count_86 : decode b_M_count 86 = .ok (.ifCond .eq 20, 3) := by decide +kernel
theorem d_M_count_89 : decode b_M_count 89 = .ok (.iload_n 2, 1) := by decide +kernel
theorem d_M_count_90 : decode b_M_count 90 = .ok (.ifCond .eq 13, 3) := by decide +kernel
theorem d_M_count_93 : decode b_M_count 93 = .ok (.aload_n 0, 1) := by decide +kernel
theorem d_M_count_94 : decode b_M_count 94 = .ok (.getfield 23, 3) := by decide +kernel
theorem d_M_count_97 : decode b_M_count 97 = .ok (.iload 4, 2) := by decide +kernel
theorem d_M_count_99 : decode b_M_count 99 = .ok (.baload, 1) := by decide +kernel
theorem d_M_count_100 : decode b_M_count 100 = .ok (.ifCond .ne 6, 3) := by decide +kernel
theorem d_M_count_103 : decode b_M_count 103 = .ok (.iinc 3 1, 3) := by decide +kernel
theorem d_M_count_106 : decode b_M_count 106 = .ok (.iinc 4 1, 3) := by decide +kernel
theorem d_M_count_109 : decode b_M_count 109 = .ok (.goto (-39), 3) := by decide +kernel
theorem d_M_count_112 : decode b_M_count 112 = .ok (.iload_n 3, 1) := by decide +kernel
theorem d_M_count_113 : decode b_M_count 113 = .ok (.ireturn, 1) := by decide +kernel
theorem d_M_same_0 : decode b_M_same 0 = .ok (.aload_n 0, 1) := by decide +kernel
theorem d_M_same_1 : decode b_M_same 1 = .ok (.iconst 0, 1) := by decide +kernel
theorem d_M_same_2 : decode b_M_same 2 = .ok (.putfield 39, 3) := by decide +kernel
theorem d_M_same_5 : decode b_M_same 5 = .ok (.aload_n 0, 1) := by decide +kernel
theorem d_M_same_6 : decode b_M_same 6 = .ok (.iload_n 1, 1) := by decide +kernel
theorem d_M_same_7 : decode b_M_same 7 = .ok (.invokestatic 70, 3) := by decide +kernel
theorem d_M_same_10 : decode b_M_same 10 = .ok (.ifCond .eq 10, 3) := by decide +kernel
theorem d_M_same_13 : decode b_M_same 13 = .ok (.iload_n 2, 1) := by decide +kernel
theorem d_M_same_14 : decode b_M_same 14 = .ok (.invokestatic 70, 3) := by decide +kernel
theorem d_M_same_17 : decode b_M_same 17 = .ok (.ifCond .ne 7, 3) := by decide +kernel
theorem d_M_same_20 : decode b_M_same 20 = .ok (.iconst 1, 1) := by decide +kernel
theorem d_M_same_21 : decode b_M_same 21 = .ok (.goto 4, 3) := by decide +kernel
theorem d_M_same_24 : decode b_M_same 24 = .ok (.iconst 0, 1) := by decide +kernel
theorem d_M_same_25 : decode b_M_same 25 = .ok (.iconst 1, 1) := by decide +kernel
theorem d_M_same_26 : decode b_M_same 26 = .ok (.invokevirtual 73, 3) := by decide +kernel
theorem d_M_same_29 : decode b_M_same 29 = .ok (.ifCond .eq 5, 3) := by decide +kernel
theorem d_M_same_32 : decode b_M_same 32 = .ok (.iconst 0, 1) := by decide +kernel
theorem d_M_same_33 : decode b_M_same 33 = .ok (.ireturn, 1) := by decide +kernel
theorem d_M_same_34 : decode b_M_same 34 = .ok (.aload_n 0, 1) := by decide +kernel
theorem d_M_same_35 : decode b_M_same 35 = .ok (.iload_n 1, 1) := by decide +kernel
theorem d_M_same_36 : decode b_M_same 36 = .ok (.invokevirtual 101, 3) := by decide +kernel
theorem d_M_same_39 : decode b_M_same 39 = .ok (.aload_n 0, 1) := by decide +kernel
theorem d_M_same_40 : decode b_M_same 40 = .ok (.getfield 87, 3) := by decide +kernel
theorem d_M_same_43 : decode b_M_same 43 = .ok (.istore_n 3, 1) := by decide +kernel
theorem d_M_same_44 : decode b_M_same 44 = .ok (.iconst 0, 1) := by decide +kernel
theorem d_M_same_45 : decode b_M_same 45 = .ok (.istore 4, 2) := by decide +kernel
theorem d_M_same_47 : decode b_M_same 47 = .ok (.iload 4, 2) := by decide +kernel
theorem d_M_same_49 : decode b_M_same 49 = .ok (.iload_n 3, 1) := by decide +kernel
theorem d_M_same_50 : decode b_M_same 50 = .ok (.if_icmp .ge 23, 3) := by decide +kernel
theorem d_M_same_53 : decode b_M_same 53 = .ok (.aload_n 0, 1) := by decide +kernel
theorem d_M_same_54 : decode b_M_same 54 = .ok (.getfield 36, 3) := by decide +kernel
theorem d_M_same_57 : decode b_M_same 57 = .ok (.iload 4, 2) := by decide +kernel
theorem d_M_same_59 : decode b_M_same 59 = .ok (.aload_n 0, 1) := by decide +kernel
theorem d_M_same_60 : decode b_M_same 60 = .ok (.getfield 30, 3) := by decide +kernel
theorem d_M_same_63 : decode b_M_same 63 = .ok (.iload 4, 2) := by decide +kernel
theorem d_M_same_65 : decode b_M_same 65 = .ok (.iaload, 1) := by decide +kernel
theorem d_M_same_66 : decode b_M_same 66 = .ok (.iastore, 1) := by decide +kernel
theorem d_M_same_67 : decode b_M_same 67 = .ok (.iinc 4 1, 3) := by decide +kernel
theorem d_M_same_70 : decode b_M_same 70 = .ok (.goto (-23), 3) := by decide +kernel
theorem d_M_same_73 : decode b_M_same 73 = .ok (.aload_n 0, 1) := by decide +kernel
theorem d_M_same_74 : decode b_M_same 74 = .ok (.iload_n 2, 1) := by decide +kernel
theorem d_M_same_75 : decode b_M_same 75 = .ok (.invokevirtual 101, 3) := by decide +kernel
theorem d_M_same_78 : decode b_M_same 78 = .ok (.iload_n 3, 1) := by decide +kernel
theorem d_M_same_79 : decode b_M_same 79 = .ok (.aload_n 0, 1) := by decide +kernel
theorem d_M_same_80 : decode b_M_same 80 = .ok (.getfield 87, 3) := by decide +kernel
theorem d_M_same_83 : decode b_M_same 83 = .ok (.if_icmp .eq 5, 3) := by decide +kernel
theorem d_M_same_86 : decode b_M_same 86 = .ok (.iconst 0, 1) := by decide +kernel
theorem d_M_same_87 : decode b_M_same 87 = .ok (.ireturn, 1) := by decide +kernel
theorem d_M_same_88 : decode b_M_same 88 = .ok (.iconst 0, 1) := by decide +kernel
theorem d_M_same_89 : decode b_M_same 89 = .ok (.istore 4, 2) := by decide +kernel
theorem d_M_same_91 : decode b_M_same 91 = .ok (.iload 4, 2) := by decide +kernel
theorem d_M_same_93 : decode b_M_same 93 = .ok (.iload_n 3, 1) := by decide +kernel
theorem d_M_same_94 : decode b_M_same 94 = .ok (.if_icmp .ge 28, 3) := by decide +kernel
theorem d_M_same_97 : decode b_M_same 97 = .ok (.aload_n 0, 1) := by decide +kernel
theorem d_M_same_98 : decode b_M_same 98 = .ok (.getfield 36, 3) := by decide +kernel
theorem d_M_same_101 : decode b_M_same 101 = .ok (.iload 4, 2) := by decide +kernel
theorem d_M_same_103 : decode b_M_same 103 = .ok (.iaload, 1) := by decide +kernel
theorem d_M_same_104 : decode b_M_same 104 = .ok (.aload_n 0, 1) := by decide +kernel
theorem d_M_same_105 : decode b_M_same 105 = .ok (.getfield 30, 3) := by decide +kernel
theorem d_M_same_108 : decode b_M_same 108 = .ok (.iload 4, 2) := by decide +kernel
theorem d_M_same_110 : decode b_M_same 110 = .ok (.iaload, 1) := by decide +kernel
theorem d_M_same_111 : decode b_M_same 111 = .ok (.if_icmp .eq 5, 3) := by decide +kernel
theorem d_M_same_114 : decode b_M_same 114 = .ok (.iconst 0, 1) := by decide +kernel
theorem d_M_same_115 : decode b_M_same 115 = .ok (.ireturn, 1) := by decide +kernel
theorem d_M_same_116 : decode b_M_same 116 = .ok (.iinc 4 1, 3) := by decide +kernel
theorem d_M_same_119 : decode b_M_same 119 = .ok (.goto (-28), 3) := by decide +kernel
theorem d_M_same_122 : decode b_M_same 122 = .ok (.iconst 1, 1) := by decide +kernel
theorem d_M_same_123 : decode b_M_same 123 = .ok (.ireturn, 1) := by decide +kernel
