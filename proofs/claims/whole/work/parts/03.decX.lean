theorem dX0_init_0 : decode cX0_init 0 = .ok (.aload_n 0, 1) := by decide +kernel
theorem dX0_init_1 : decode cX0_init 1 = .ok (.iload_n 1, 1) := by decide +kernel
theorem dX0_init_2 : decode cX0_init 2 = .ok (.iload_n 2, 1) := by decide +kernel
theorem dX0_init_3 : decode cX0_init 3 = .ok (.iload_n 3, 1) := by decide +kernel
theorem dX0_init_4 : decode cX0_init 4 = .ok (.iload 4, 2) := by decide +kernel
theorem dX0_init_6 : decode cX0_init 6 = .ok (.aload 5, 2) := by decide +kernel
theorem dX0_init_8 : decode cX0_init 8 = .ok (.invokespecial 1, 3) := by decide +kernel
theorem dX0_init_11 : decode cX0_init 11 = .ok (.return_, 1) := by decide +kernel
theorem dX0_turns_0 : decode cX0_turns 0 = .ok (.iconst 3, 1) := by decide +kernel
theorem dX0_turns_1 : decode cX0_turns 1 = .ok (.ireturn, 1) := by decide +kernel
theorem dX0_calls_0 : decode cX0_calls 0 = .ok (.aload_n 0, 1) := by decide +kernel
theorem dX0_calls_1 : decode cX0_calls 1 = .ok (.bipush 60, 2) := by decide +kernel
theorem dX0_calls_3 : decode cX0_calls 3 = .ok (.invokevirtual 7, 3) := by decide +kernel
theorem dX0_calls_6 : decode cX0_calls 6 = .ok (.aload_n 0, 1) := by decide +kernel
theorem dX0_calls_7 : decode cX0_calls 7 = .ok (.iload_n 1, 1) := by decide +kernel
theorem dX0_calls_8 : decode cX0_calls 8 = .ok (.invokespecial 13, 3) := by decide +kernel
theorem dX0_calls_11 : decode cX0_calls 11 = .ok (.iconst 2, 1) := by decide +kernel
theorem dX0_calls_12 : decode cX0_calls 12 = .ok (.imul, 1) := by decide +kernel
theorem dX0_calls_13 : decode cX0_calls 13 = .ok (.ireturn, 1) := by decide +kernel
theorem dX1_init_0 : decode cX1_init 0 = .ok (.aload_n 0, 1) := by decide +kernel
theorem dX1_init_1 : decode cX1_init 1 = .ok (.iload_n 1, 1) := by decide +kernel
theorem dX1_init_2 : decode cX1_init 2 = .ok (.iload_n 2, 1) := by decide +kernel
theorem dX1_init_3 : decode cX1_init 3 = .ok (.iload_n 3, 1) := by decide +kernel
theorem dX1_init_4 : decode cX1_init 4 = .ok (.iload 4, 2) := by decide +kernel
theorem dX1_init_6 : decode cX1_init 6 = .ok (.aload 5, 2) := by decide +kernel
theorem dX1_init_8 : decode cX1_init 8 = .ok (.invokespecial 1, 3) := by decide +kernel
theorem dX1_init_11 : decode cX1_init 11 = .ok (.return_, 1) := by decide +kernel
theorem dX1_more_0 : decode cX1_more 0 = .ok (.iconst 1, 1) := by decide +kernel
theorem dX1_more_1 : decode cX1_more 1 = .ok (.ireturn, 1) := by decide +kernel
theorem dX1_move_0 : decode cX1_move 0 = .ok (.aload_n 1, 1) := by decide +kernel
theorem dX1_move_1 : decode cX1_move 1 = .ok (.aload_n 0, 1) := by decide +kernel
theorem dX1_move_2 : decode cX1_move 2 = .ok (.invokevirtual 7, 3) := by decide +kernel
theorem dX1_move_5 : decode cX1_move 5 = .ok (.invokevirtual 13, 3) := by decide +kernel
theorem dX1_move_8 : decode cX1_move 8 = .ok (.ireturn, 1) := by decide +kernel
theorem dX1_saying_0 : decode cX1_saying 0 = .ok (.aload_n 0, 1) := by decide +kernel
theorem dX1_saying_1 : decode cX1_saying 1 = .ok (.invokevirtual 7, 3) := by decide +kernel
theorem dX1_saying_4 : decode cX1_saying 4 = .ok (.ifCond .ge 13, 3) := by decide +kernel
theorem dX1_saying_7 : decode cX1_saying 7 = .ok (.bipush 10, 2) := by decide +kernel
theorem dX1_saying_9 : decode cX1_saying 9 = .ok (.aload_n 0, 1) := by decide +kernel
theorem dX1_saying_10 : decode cX1_saying 10 = .ok (.invokevirtual 7, 3) := by decide +kernel
theorem dX1_saying_13 : decode cX1_saying 13 = .ok (.iadd, 1) := by decide +kernel
theorem dX1_saying_14 : decode cX1_saying 14 = .ok (.goto 7, 3) := by decide +kernel
theorem dX1_saying_17 : decode cX1_saying 17 = .ok (.aload_n 0, 1) := by decide +kernel
theorem dX1_saying_18 : decode cX1_saying 18 = .ok (.invokevirtual 7, 3) := by decide +kernel
theorem dX1_saying_21 : decode cX1_saying 21 = .ok (.ireturn, 1) := by decide +kernel
theorem dX1_calls_0 : decode cX1_calls 0 = .ok (.aload_n 0, 1) := by decide +kernel
theorem dX1_calls_1 : decode cX1_calls 1 = .ok (.bipush 20, 2) := by decide +kernel
theorem dX1_calls_3 : decode cX1_calls 3 = .ok (.invokevirtual 19, 3) := by decide +kernel
theorem dX1_calls_6 : decode cX1_calls 6 = .ok (.aload_n 0, 1) := by decide +kernel
theorem dX1_calls_7 : decode cX1_calls 7 = .ok (.iload_n 1, 1) := by decide +kernel
theorem dX1_calls_8 : decode cX1_calls 8 = .ok (.invokespecial 23, 3) := by decide +kernel
theorem dX1_calls_11 : decode cX1_calls 11 = .ok (.aload_n 0, 1) := by decide +kernel
theorem dX1_calls_12 : decode cX1_calls 12 = .ok (.getfield 27, 3) := by decide +kernel
theorem dX1_calls_15 : decode cX1_calls 15 = .ok (.iadd, 1) := by decide +kernel
theorem dX1_calls_16 : decode cX1_calls 16 = .ok (.ireturn, 1) := by decide +kernel
theorem dX2_init_0 : decode cX2_init 0 = .ok (.aload_n 0, 1) := by decide +kernel
theorem dX2_init_1 : decode cX2_init 1 = .ok (.invokespecial 1, 3) := by decide +kernel
theorem dX2_init_4 : decode cX2_init 4 = .ok (.aload_n 0, 1) := by decide +kernel
theorem dX2_init_5 : decode cX2_init 5 = .ok (.sipush 320, 3) := by decide +kernel
theorem dX2_init_8 : decode cX2_init 8 = .ok (.newarray .long, 2) := by decide +kernel
theorem dX2_init_10 : decode cX2_init 10 = .ok (.putfield 9, 3) := by decide +kernel
theorem dX2_init_13 : decode cX2_init 13 = .ok (.aload_n 0, 1) := by decide +kernel
theorem dX2_init_14 : decode cX2_init 14 = .ok (.sipush 320, 3) := by decide +kernel
theorem dX2_init_17 : decode cX2_init 17 = .ok (.newarray .long, 2) := by decide +kernel
theorem dX2_init_19 : decode cX2_init 19 = .ok (.putfield 13, 3) := by decide +kernel
theorem dX2_init_22 : decode cX2_init 22 = .ok (.aload_n 0, 1) := by decide +kernel
theorem dX2_init_23 : decode cX2_init 23 = .ok (.sipush 320, 3) := by decide +kernel
theorem dX2_init_26 : decode cX2_init 26 = .ok (.newarray .int, 2) := by decide +kernel
theorem dX2_init_28 : decode cX2_init 28 = .ok (.putfield 16, 3) := by decide +kernel
theorem dX2_init_31 : decode cX2_init 31 = .ok (.aload_n 0, 1) := by decide +kernel
theorem dX2_init_32 : decode cX2_init 32 = .ok (.sipush 1024, 3) := by decide +kernel
theorem dX2_init_35 : decode cX2_init 35 = .ok (.newarray .int, 2) := by decide +kernel
theorem dX2_init_37 : decode cX2_init 37 = .ok (.putfield 20, 3) := by decide +kernel
theorem dX2_init_40 : decode cX2_init 40 = .ok (.return_, 1) := by decide +kernel
theorem dX2_clear_0 : decode cX2_clear 0 = .ok (.aload_n 0, 1) := by decide +kernel
theorem dX2_clear_1 : decode cX2_clear 1 = .ok (.getfield 20, 3) := by decide +kernel
theorem dX2_clear_4 : decode cX2_clear 4 = .ok (.iconst 0, 1) := by decide +kernel
theorem dX2_clear_5 : decode cX2_clear 5 = .ok (.invokestatic 23, 3) := by decide +kernel
theorem dX2_clear_8 : decode cX2_clear 8 = .ok (.aload_n 0, 1) := by decide +kernel
theorem dX2_clear_9 : decode cX2_clear 9 = .ok (.iconst 0, 1) := by decide +kernel
theorem dX2_clear_10 : decode cX2_clear 10 = .ok (.putfield 29, 3) := by decide +kernel
theorem dX2_clear_13 : decode cX2_clear 13 = .ok (.aload_n 0, 1) := by decide +kernel
theorem dX2_clear_14 : decode cX2_clear 14 = .ok (.iconst 0, 1) := by decide +kernel
theorem dX2_clear_15 : decode cX2_clear 15 = .ok (.putfield 33, 3) := by decide +kernel
theorem dX2_clear_18 : decode cX2_clear 18 = .ok (.return_, 1) := by decide +kernel
theorem dX2_begin_0 : decode cX2_begin 0 = .ok (.aload_n 0, 1) := by decide +kernel
theorem dX2_begin_1 : decode cX2_begin 1 = .ok (.invokevirtual 37, 3) := by decide +kernel
theorem dX2_begin_4 : decode cX2_begin 4 = .ok (.aload_n 0, 1) := by decide +kernel
theorem dX2_begin_5 : decode cX2_begin 5 = .ok (.aload_n 1, 1) := by decide +kernel
theorem dX2_begin_6 : decode cX2_begin 6 = .ok (.getfield 40, 3) := by decide +kernel
theorem dX2_begin_9 : decode cX2_begin 9 = .ok (.aload_n 1, 1) := by decide +kernel
theorem dX2_begin_10 : decode cX2_begin 10 = .ok (.getfield 46, 3) := by decide +kernel
theorem dX2_begin_13 : decode cX2_begin 13 = .ok (.iconst 1, 1) := by decide +kernel
theorem dX2_begin_14 : decode cX2_begin 14 = .ok (.invokevirtual 49, 3) := by decide +kernel
theorem dX2_begin_17 : decode cX2_begin 17 = .ok (.return_, 1) := by decide +kernel
theorem dX2_addStepped_0 : decode cX2_addStepped 0 = .ok (.iconst 0, 1) := by decide +kernel
theorem dX2_addStepped_1 : decode cX2_addStepped 1 = .ok (.istore 5, 2) := by decide +kernel
theorem dX2_addStepped_3 : decode cX2_addStepped 3 = .ok (.iload 5, 2) := by decide +kernel
theorem dX2_addStepped_5 : decode cX2_addStepped 5 = .ok (.aload_n 1, 1) := by decide +kernel
theorem dX2_addStepped_6 : decode cX2_addStepped 6 = .ok (.getfield 29, 3) := by decide +kernel
theorem dX2_addStepped_9 : decode cX2_addStepped 9 = .ok (.if_icmp .ge 91, 3) := by decide +kernel
theorem dX2_addStepped_12 : decode cX2_addStepped 12 = .ok (.iload 5, 2) := by decide +kernel
theorem dX2_addStepped_14 : decode cX2_addStepped 14 = .ok (.sipush 320, 3) := by decide +kernel
theorem dX2_addStepped_17 : decode cX2_addStepped 17 = .ok (.if_icmp .ge 83, 3) := by decide +kernel
theorem dX2_addStepped_20 : decode cX2_addStepped 20 = .ok (.iload_n 2, 1) := by decide +kernel
theorem dX2_addStepped_21 : decode cX2_addStepped 21 = .ok (.aload_n 1, 1) := by decide +kernel
theorem dX2_addStepped_22 : decode cX2_addStepped 22 = .ok (.getfield 9, 3) := by decide +kernel
theorem dX2_addStepped_25 : decode cX2_addStepped 25 = .ok (.iload 5, 2) := by decide +kernel
theorem dX2_addStepped_27 : decode cX2_addStepped 27 = .ok (.laload, 1) := by decide +kernel
theorem dX2_addStepped_28 : decode cX2_addStepped 28 = .ok (.aload_n 1, 1) := by decide +kernel
theorem dX2_addStepped_29 : decode cX2_addStepped 29 = .ok (.getfield 13, 3) := by decide +kernel
theorem dX2_addStepped_32 : decode cX2_addStepped 32 = .ok (.iload 5, 2) := by decide +kernel
theorem dX2_addStepped_34 : decode cX2_addStepped 34 = .ok (.laload, 1) := by decide +kernel
theorem dX2_addStepped_35 : decode cX2_addStepped 35 = .ok (.invokestatic 53, 3) := by decide +kernel
theorem dX2_addStepped_38 : decode cX2_addStepped 38 = .ok (.lstore 6, 2) := by decide +kernel
theorem dX2_addStepped_40 : decode cX2_addStepped 40 = .ok (.iload_n 2, 1) := by decide +kernel
theorem dX2_addStepped_41 : decode cX2_addStepped 41 = .ok (.aload_n 1, 1) := by decide +kernel
theorem dX2_addStepped_42 : decode cX2_addStepped 42 = .ok (.getfield 9, 3) := by decide +kernel
theorem dX2_addStepped_45 : decode cX2_addStepped 45 = .ok (.iload 5, 2) := by decide +kernel
theorem dX2_addStepped_47 : decode cX2_addStepped 47 = .ok (.laload, 1) := by decide +kernel
theorem dX2_addStepped_48 : decode cX2_addStepped 48 = .ok (.aload_n 1, 1) := by decide +kernel
theorem dX2_addStepped_49 : decode cX2_addStepped 49 = .ok (.getfield 13, 3) := by decide +kernel
theorem dX2_addStepped_52 : decode cX2_addStepped 52 = .ok (.iload 5, 2) := by decide +kernel
theorem dX2_addStepped_54 : decode cX2_addStepped 54 = .ok (.laload, 1) := by decide +kernel
theorem dX2_addStepped_55 : decode cX2_addStepped 55 = .ok (.invokestatic 59, 3) := by decide +kernel
theorem dX2_addStepped_58 : decode cX2_addStepped 58 = .ok (.lstore 8, 2) := by decide +kernel
theorem dX2_addStepped_60 : decode cX2_addStepped 60 = .ok (.lload 6, 2) := by decide +kernel
theorem dX2_addStepped_62 : decode cX2_addStepped 62 = .ok (.lload 8, 2) := by decide +kernel
theorem dX2_addStepped_64 : decode cX2_addStepped 64 = .ok (.lload_n 3, 1) := by decide +kernel
theorem dX2_addStepped_65 : decode cX2_addStepped 65 = .ok (.invokestatic 62, 3) := by decide +kernel
theorem dX2_addStepped_68 : decode cX2_addStepped 68 = .ok (.ifCond .eq 11, 3) := by decide +kernel
theorem dX2_addStepped_71 : decode cX2_addStepped 71 = .ok (.aload_n 0, 1) := by decide +kernel
theorem dX2_addStepped_72 : decode cX2_addStepped 72 = .ok (.iconst 1, 1) := by decide +kernel
theorem dX2_addStepped_73 : decode cX2_addStepped 73 = .ok (.putfield 33, 3) := by decide +kernel
theorem dX2_addStepped_76 : decode cX2_addStepped 76 = .ok (.goto 18, 3) := by decide +kernel
theorem dX2_addStepped_79 : decode cX2_addStepped 79 = .ok (.aload_n 0, 1) := by decide +kernel
theorem dX2_addStepped_80 : decode cX2_addStepped 80 = .ok (.lload 6, 2) := by decide +kernel
theorem dX2_addStepped_82 : decode cX2_addStepped 82 = .ok (.lload 8, 2) := by decide +kernel
theorem dX2_addStepped_84 : decode cX2_addStepped 84 = .ok (.aload_n 1, 1) := by decide +kernel
theorem dX2_addStepped_85 : decode cX2_addStepped 85 = .ok (.getfield 16, 3) := by decide +kernel
theorem dX2_addStepped_88 : decode cX2_addStepped 88 = .ok (.iload 5, 2) := by decide +kernel
theorem dX2_addStepped_90 : decode cX2_addStepped 90 = .ok (.iaload, 1) := by decide +kernel
theorem dX2_addStepped_91 : decode cX2_addStepped 91 = .ok (.invokevirtual 49, 3) := by decide +kernel
theorem dX2_addStepped_94 : decode cX2_addStepped 94 = .ok (.iinc 5 1, 3) := by decide +kernel
theorem dX2_addStepped_97 : decode cX2_addStepped 97 = .ok (.goto (-94), 3) := by decide +kernel
theorem dX2_addStepped_100 : decode cX2_addStepped 100 = .ok (.return_, 1) := by decide +kernel
theorem dX2_add_0 : decode cX2_add 0 = .ok (.aload_n 0, 1) := by decide +kernel
theorem dX2_add_1 : decode cX2_add 1 = .ok (.lload_n 1, 1) := by decide +kernel
theorem dX2_add_2 : decode cX2_add 2 = .ok (.lload_n 3, 1) := by decide +kernel
theorem dX2_add_3 : decode cX2_add 3 = .ok (.invokevirtual 66, 3) := by decide +kernel
theorem dX2_add_6 : decode cX2_add 6 = .ok (.istore 6, 2) := by decide +kernel
theorem dX2_add_8 : decode cX2_add 8 = .ok (.aload_n 0, 1) := by decide +kernel
theorem dX2_add_9 : decode cX2_add 9 = .ok (.getfield 20, 3) := by decide +kernel
theorem dX2_add_12 : decode cX2_add 12 = .ok (.iload 6, 2) := by decide +kernel
theorem dX2_add_14 : decode cX2_add 14 = .ok (.iaload, 1) := by decide +kernel
theorem dX2_add_15 : decode cX2_add 15 = .ok (.iconst 1, 1) := by decide +kernel
theorem dX2_add_16 : decode cX2_add 16 = .ok (.isub, 1) := by decide +kernel
theorem dX2_add_17 : decode cX2_add 17 = .ok (.istore 7, 2) := by decide +kernel
theorem dX2_add_19 : decode cX2_add 19 = .ok (.iload 7, 2) := by decide +kernel
theorem dX2_add_21 : decode cX2_add 21 = .ok (.ifCond .lt 27, 3) := by decide +kernel
theorem dX2_add_24 : decode cX2_add 24 = .ok (.iload 7, 2) := by decide +kernel
theorem dX2_add_26 : decode cX2_add 26 = .ok (.aload_n 0, 1) := by decide +kernel
theorem dX2_add_27 : decode cX2_add 27 = .ok (.getfield 29, 3) := by decide +kernel
theorem dX2_add_30 : decode cX2_add 30 = .ok (.if_icmp .ge 18, 3) := by decide +kernel
theorem dX2_add_33 : decode cX2_add 33 = .ok (.aload_n 0, 1) := by decide +kernel
theorem dX2_add_34 : decode cX2_add 34 = .ok (.getfield 16, 3) := by decide +kernel
theorem dX2_add_37 : decode cX2_add 37 = .ok (.iload 7, 2) := by decide +kernel
theorem dX2_add_39 : decode cX2_add 39 = .ok (.dup2, 1) := by decide +kernel
theorem dX2_add_40 : decode cX2_add 40 = .ok (.iaload, 1) := by decide +kernel
theorem dX2_add_41 : decode cX2_add 41 = .ok (.iload 5, 2) := by decide +kernel
theorem dX2_add_43 : decode cX2_add 43 = .ok (.iadd, 1) := by decide +kernel
theorem dX2_add_44 : decode cX2_add 44 = .ok (.iastore, 1) := by decide +kernel
theorem dX2_add_45 : decode cX2_add 45 = .ok (.goto 65, 3) := by decide +kernel
theorem dX2_add_48 : decode cX2_add 48 = .ok (.aload_n 0, 1) := by decide +kernel
theorem dX2_add_49 : decode cX2_add 49 = .ok (.getfield 29, 3) := by decide +kernel
theorem dX2_add_52 : decode cX2_add 52 = .ok (.sipush 320, 3) := by decide +kernel
theorem dX2_add_55 : decode cX2_add 55 = .ok (.if_icmp .ge 55, 3) := by decide +kernel
theorem dX2_add_58 : decode cX2_add 58 = .ok (.aload_n 0, 1) := by decide +kernel
theorem dX2_add_59 : decode cX2_add 59 = .ok (.getfield 9, 3) := by decide +kernel
theorem dX2_add_62 : decode cX2_add 62 = .ok (.aload_n 0, 1) := by decide +kernel
theorem dX2_add_63 : decode cX2_add 63 = .ok (.getfield 29, 3) := by decide +kernel
theorem dX2_add_66 : decode cX2_add 66 = .ok (.lload_n 1, 1) := by decide +kernel
theorem dX2_add_67 : decode cX2_add 67 = .ok (.lastore, 1) := by decide +kernel
theorem dX2_add_68 : decode cX2_add 68 = .ok (.aload_n 0, 1) := by decide +kernel
theorem dX2_add_69 : decode cX2_add 69 = .ok (.getfield 13, 3) := by decide +kernel
theorem dX2_add_72 : decode cX2_add 72 = .ok (.aload_n 0, 1) := by decide +kernel
theorem dX2_add_73 : decode cX2_add 73 = .ok (.getfield 29, 3) := by decide +kernel
theorem dX2_add_76 : decode cX2_add 76 = .ok (.lload_n 3, 1) := by decide +kernel
theorem dX2_add_77 : decode cX2_add 77 = .ok (.lastore, 1) := by decide +kernel
theorem dX2_add_78 : decode cX2_add 78 = .ok (.aload_n 0, 1) := by decide +kernel
theorem dX2_add_79 : decode cX2_add 79 = .ok (.getfield 16, 3) := by decide +kernel
theorem dX2_add_82 : decode cX2_add 82 = .ok (.aload_n 0, 1) := by decide +kernel
theorem dX2_add_83 : decode cX2_add 83 = .ok (.getfield 29, 3) := by decide +kernel
theorem dX2_add_86 : decode cX2_add 86 = .ok (.iload 5, 2) := by decide +kernel
theorem dX2_add_88 : decode cX2_add 88 = .ok (.iastore, 1) := by decide +kernel
theorem dX2_add_89 : decode cX2_add 89 = .ok (.aload_n 0, 1) := by decide +kernel
theorem dX2_add_90 : decode cX2_add 90 = .ok (.dup, 1) := by decide +kernel
theorem dX2_add_91 : decode cX2_add 91 = .ok (.getfield 29, 3) := by decide +kernel
theorem dX2_add_94 : decode cX2_add 94 = .ok (.iconst 1, 1) := by decide +kernel
theorem dX2_add_95 : decode cX2_add 95 = .ok (.iadd, 1) := by decide +kernel
theorem dX2_add_96 : decode cX2_add 96 = .ok (.putfield 29, 3) := by decide +kernel
theorem dX2_add_99 : decode cX2_add 99 = .ok (.aload_n 0, 1) := by decide +kernel
theorem dX2_add_100 : decode cX2_add 100 = .ok (.getfield 20, 3) := by decide +kernel
theorem dX2_add_103 : decode cX2_add 103 = .ok (.iload 6, 2) := by decide +kernel
theorem dX2_add_105 : decode cX2_add 105 = .ok (.aload_n 0, 1) := by decide +kernel
theorem dX2_add_106 : decode cX2_add 106 = .ok (.getfield 29, 3) := by decide +kernel
theorem dX2_add_109 : decode cX2_add 109 = .ok (.iastore, 1) := by decide +kernel
theorem dX2_add_110 : decode cX2_add 110 = .ok (.return_, 1) := by decide +kernel
theorem dX2_slotOf_0 : decode cX2_slotOf 0 = .ok (.lload_n 1, 1) := by decide +kernel
theorem dX2_slotOf_1 : decode cX2_slotOf 1 = .ok (.ldc2_w 70, 3) := by decide +kernel
theorem dX2_slotOf_4 : decode cX2_slotOf 4 = .ok (.lmul, 1) := by decide +kernel
theorem dX2_slotOf_5 : decode cX2_slotOf 5 = .ok (.lload_n 3, 1) := by decide +kernel
theorem dX2_slotOf_6 : decode cX2_slotOf 6 = .ok (.ladd, 1) := by decide +kernel
theorem dX2_slotOf_7 : decode cX2_slotOf 7 = .ok (.ldc2_w 72, 3) := by decide +kernel
theorem dX2_slotOf_10 : decode cX2_slotOf 10 = .ok (.lmul, 1) := by decide +kernel
theorem dX2_slotOf_11 : decode cX2_slotOf 11 = .ok (.bipush 54, 2) := by decide +kernel
theorem dX2_slotOf_13 : decode cX2_slotOf 13 = .ok (.lushr, 1) := by decide +kernel
theorem dX2_slotOf_14 : decode cX2_slotOf 14 = .ok (.l2i, 1) := by decide +kernel
theorem dX2_slotOf_15 : decode cX2_slotOf 15 = .ok (.sipush 1023, 3) := by decide +kernel
theorem dX2_slotOf_18 : decode cX2_slotOf 18 = .ok (.iand, 1) := by decide +kernel
theorem dX2_slotOf_19 : decode cX2_slotOf 19 = .ok (.istore 5, 2) := by decide +kernel
theorem dX2_slotOf_21 : decode cX2_slotOf 21 = .ok (.iconst 0, 1) := by decide +kernel
theorem dX2_slotOf_22 : decode cX2_slotOf 22 = .ok (.istore 6, 2) := by decide +kernel
theorem dX2_slotOf_24 : decode cX2_slotOf 24 = .ok (.iload 6, 2) := by decide +kernel
theorem dX2_slotOf_26 : decode cX2_slotOf 26 = .ok (.sipush 1024, 3) := by decide +kernel
theorem dX2_slotOf_29 : decode cX2_slotOf 29 = .ok (.if_icmp .ge 70, 3) := by decide +kernel
theorem dX2_slotOf_32 : decode cX2_slotOf 32 = .ok (.aload_n 0, 1) := by decide +kernel
theorem dX2_slotOf_33 : decode cX2_slotOf 33 = .ok (.getfield 20, 3) := by decide +kernel
theorem dX2_slotOf_36 : decode cX2_slotOf 36 = .ok (.iload 5, 2) := by decide +kernel
theorem dX2_slotOf_38 : decode cX2_slotOf 38 = .ok (.iaload, 1) := by decide +kernel
theorem dX2_slotOf_39 : decode cX2_slotOf 39 = .ok (.iconst 1, 1) := by decide +kernel
theorem dX2_slotOf_40 : decode cX2_slotOf 40 = .ok (.isub, 1) := by decide +kernel
theorem dX2_slotOf_41 : decode cX2_slotOf 41 = .ok (.istore 7, 2) := by decide +kernel
theorem dX2_slotOf_43 : decode cX2_slotOf 43 = .ok (.iload 7, 2) := by decide +kernel
theorem dX2_slotOf_45 : decode cX2_slotOf 45 = .ok (.ifCond .lt 35, 3) := by decide +kernel
theorem dX2_slotOf_48 : decode cX2_slotOf 48 = .ok (.iload 7, 2) := by decide +kernel
theorem dX2_slotOf_50 : decode cX2_slotOf 50 = .ok (.sipush 320, 3) := by decide +kernel
theorem dX2_slotOf_53 : decode cX2_slotOf 53 = .ok (.if_icmp .ge 27, 3) := by decide +kernel
theorem dX2_slotOf_56 : decode cX2_slotOf 56 = .ok (.aload_n 0, 1) := by decide +kernel
theorem dX2_slotOf_57 : decode cX2_slotOf 57 = .ok (.getfield 9, 3) := by decide +kernel
theorem dX2_slotOf_60 : decode cX2_slotOf 60 = .ok (.iload 7, 2) := by decide +kernel
theorem dX2_slotOf_62 : decode cX2_slotOf 62 = .ok (.laload, 1) := by decide +kernel
theorem dX2_slotOf_63 : decode cX2_slotOf 63 = .ok (.lload_n 1, 1) := by decide +kernel
theorem dX2_slotOf_64 : decode cX2_slotOf 64 = .ok (.lcmp, 1) := by decide +kernel
theorem dX2_slotOf_65 : decode cX2_slotOf 65 = .ok (.ifCond .ne 18, 3) := by decide +kernel
theorem dX2_slotOf_68 : decode cX2_slotOf 68 = .ok (.aload_n 0, 1) := by decide +kernel
theorem dX2_slotOf_69 : decode cX2_slotOf 69 = .ok (.getfield 13, 3) := by decide +kernel
theorem dX2_slotOf_72 : decode cX2_slotOf 72 = .ok (.iload 7, 2) := by decide +kernel
theorem dX2_slotOf_74 : decode cX2_slotOf 74 = .ok (.laload, 1) := by decide +kernel
theorem dX2_slotOf_75 : decode cX2_slotOf 75 = .ok (.lload_n 3, 1) := by decide +kernel
theorem dX2_slotOf_76 : decode cX2_slotOf 76 = .ok (.lcmp, 1) := by decide +kernel
theorem dX2_slotOf_77 : decode cX2_slotOf 77 = .ok (.ifCond .ne 6, 3) := by decide +kernel
theorem dX2_slotOf_80 : decode cX2_slotOf 80 = .ok (.iload 5, 2) := by decide +kernel
theorem dX2_slotOf_82 : decode cX2_slotOf 82 = .ok (.ireturn, 1) := by decide +kernel
theorem dX2_slotOf_83 : decode cX2_slotOf 83 = .ok (.iload 5, 2) := by decide +kernel
theorem dX2_slotOf_85 : decode cX2_slotOf 85 = .ok (.iconst 1, 1) := by decide +kernel
theorem dX2_slotOf_86 : decode cX2_slotOf 86 = .ok (.iadd, 1) := by decide +kernel
theorem dX2_slotOf_87 : decode cX2_slotOf 87 = .ok (.sipush 1023, 3) := by decide +kernel
theorem dX2_slotOf_90 : decode cX2_slotOf 90 = .ok (.iand, 1) := by decide +kernel
theorem dX2_slotOf_91 : decode cX2_slotOf 91 = .ok (.istore 5, 2) := by decide +kernel
theorem dX2_slotOf_93 : decode cX2_slotOf 93 = .ok (.iinc 6 1, 3) := by decide +kernel
theorem dX2_slotOf_96 : decode cX2_slotOf 96 = .ok (.goto (-72), 3) := by decide +kernel
theorem dX2_slotOf_99 : decode cX2_slotOf 99 = .ok (.iload 5, 2) := by decide +kernel
theorem dX2_slotOf_101 : decode cX2_slotOf 101 = .ok (.ireturn, 1) := by decide +kernel
theorem dX2_allRows_0 : decode cX2_allRows 0 = .ok (.iconst 0, 1) := by decide +kernel
theorem dX2_allRows_1 : decode cX2_allRows 1 = .ok (.istore_n 1, 1) := by decide +kernel
theorem dX2_allRows_2 : decode cX2_allRows 2 = .ok (.iconst 0, 1) := by decide +kernel
theorem dX2_allRows_3 : decode cX2_allRows 3 = .ok (.istore_n 2, 1) := by decide +kernel
theorem dX2_allRows_4 : decode cX2_allRows 4 = .ok (.iload_n 2, 1) := by decide +kernel
theorem dX2_allRows_5 : decode cX2_allRows 5 = .ok (.aload_n 0, 1) := by decide +kernel
theorem dX2_allRows_6 : decode cX2_allRows 6 = .ok (.getfield 29, 3) := by decide +kernel
theorem dX2_allRows_9 : decode cX2_allRows 9 = .ok (.if_icmp .ge 25, 3) := by decide +kernel
theorem dX2_allRows_12 : decode cX2_allRows 12 = .ok (.iload_n 2, 1) := by decide +kernel
theorem dX2_allRows_13 : decode cX2_allRows 13 = .ok (.sipush 320, 3) := by decide +kernel
theorem dX2_allRows_16 : decode cX2_allRows 16 = .ok (.if_icmp .ge 18, 3) := by decide +kernel
theorem dX2_allRows_19 : decode cX2_allRows 19 = .ok (.iload_n 1, 1) := by decide +kernel
theorem dX2_allRows_20 : decode cX2_allRows 20 = .ok (.aload_n 0, 1) := by decide +kernel
theorem dX2_allRows_21 : decode cX2_allRows 21 = .ok (.getfield 16, 3) := by decide +kernel
theorem dX2_allRows_24 : decode cX2_allRows 24 = .ok (.iload_n 2, 1) := by decide +kernel
theorem dX2_allRows_25 : decode cX2_allRows 25 = .ok (.iaload, 1) := by decide +kernel
theorem dX2_allRows_26 : decode cX2_allRows 26 = .ok (.iadd, 1) := by decide +kernel
theorem dX2_allRows_27 : decode cX2_allRows 27 = .ok (.istore_n 1, 1) := by decide +kernel
theorem dX2_allRows_28 : decode cX2_allRows 28 = .ok (.iinc 2 1, 3) := by decide +kernel
theorem dX2_allRows_31 : decode cX2_allRows 31 = .ok (.goto (-27), 3) := by decide +kernel
theorem dX2_allRows_34 : decode cX2_allRows 34 = .ok (.iload_n 1, 1) := by decide +kernel
theorem dX2_allRows_35 : decode cX2_allRows 35 = .ok (.ireturn, 1) := by decide +kernel
theorem dX2_rowsTo_0 : decode cX2_rowsTo 0 = .ok (.aload_n 0, 1) := by decide +kernel
theorem dX2_rowsTo_1 : decode cX2_rowsTo 1 = .ok (.getfield 20, 3) := by decide +kernel
theorem dX2_rowsTo_4 : decode cX2_rowsTo 4 = .ok (.aload_n 0, 1) := by decide +kernel
theorem dX2_rowsTo_5 : decode cX2_rowsTo 5 = .ok (.lload_n 1, 1) := by decide +kernel
theorem dX2_rowsTo_6 : decode cX2_rowsTo 6 = .ok (.lload_n 3, 1) := by decide +kernel
theorem dX2_rowsTo_7 : decode cX2_rowsTo 7 = .ok (.invokevirtual 66, 3) := by decide +kernel
theorem dX2_rowsTo_10 : decode cX2_rowsTo 10 = .ok (.iaload, 1) := by decide +kernel
theorem dX2_rowsTo_11 : decode cX2_rowsTo 11 = .ok (.iconst 1, 1) := by decide +kernel
theorem dX2_rowsTo_12 : decode cX2_rowsTo 12 = .ok (.isub, 1) := by decide +kernel
theorem dX2_rowsTo_13 : decode cX2_rowsTo 13 = .ok (.istore 5, 2) := by decide +kernel
theorem dX2_rowsTo_15 : decode cX2_rowsTo 15 = .ok (.iload 5, 2) := by decide +kernel
theorem dX2_rowsTo_17 : decode cX2_rowsTo 17 = .ok (.ifCond .lt 22, 3) := by decide +kernel
theorem dX2_rowsTo_20 : decode cX2_rowsTo 20 = .ok (.iload 5, 2) := by decide +kernel
theorem dX2_rowsTo_22 : decode cX2_rowsTo 22 = .ok (.aload_n 0, 1) := by decide +kernel
theorem dX2_rowsTo_23 : decode cX2_rowsTo 23 = .ok (.getfield 29, 3) := by decide +kernel
theorem dX2_rowsTo_26 : decode cX2_rowsTo 26 = .ok (.if_icmp .ge 13, 3) := by decide +kernel
theorem dX2_rowsTo_29 : decode cX2_rowsTo 29 = .ok (.aload_n 0, 1) := by decide +kernel
theorem dX2_rowsTo_30 : decode cX2_rowsTo 30 = .ok (.getfield 16, 3) := by decide +kernel
theorem dX2_rowsTo_33 : decode cX2_rowsTo 33 = .ok (.iload 5, 2) := by decide +kernel
theorem dX2_rowsTo_35 : decode cX2_rowsTo 35 = .ok (.iaload, 1) := by decide +kernel
theorem dX2_rowsTo_36 : decode cX2_rowsTo 36 = .ok (.goto 4, 3) := by decide +kernel
theorem dX2_rowsTo_39 : decode cX2_rowsTo 39 = .ok (.iconst 0, 1) := by decide +kernel
theorem dX2_rowsTo_40 : decode cX2_rowsTo 40 = .ok (.ireturn, 1) := by decide +kernel
theorem dX2_outermost_0 : decode cX2_outermost 0 = .ok (.iconst 0, 1) := by decide +kernel
theorem dX2_outermost_1 : decode cX2_outermost 1 = .ok (.istore_n 2, 1) := by decide +kernel
theorem dX2_outermost_2 : decode cX2_outermost 2 = .ok (.iconst 1, 1) := by decide +kernel
theorem dX2_outermost_3 : decode cX2_outermost 3 = .ok (.istore_n 3, 1) := by decide +kernel
theorem dX2_outermost_4 : decode cX2_outermost 4 = .ok (.iload_n 3, 1) := by decide +kernel
theorem dX2_outermost_5 : decode cX2_outermost 5 = .ok (.aload_n 0, 1) := by decide +kernel
theorem dX2_outermost_6 : decode cX2_outermost 6 = .ok (.getfield 29, 3) := by decide +kernel
theorem dX2_outermost_9 : decode cX2_outermost 9 = .ok (.if_icmp .ge 50, 3) := by decide +kernel
theorem dX2_outermost_12 : decode cX2_outermost 12 = .ok (.iload_n 3, 1) := by decide +kernel
theorem dX2_outermost_13 : decode cX2_outermost 13 = .ok (.sipush 320, 3) := by decide +kernel
theorem dX2_outermost_16 : decode cX2_outermost 16 = .ok (.if_icmp .ge 43, 3) := by decide +kernel
theorem dX2_outermost_19 : decode cX2_outermost 19 = .ok (.iload_n 1, 1) := by decide +kernel
theorem dX2_outermost_20 : decode cX2_outermost 20 = .ok (.aload_n 0, 1) := by decide +kernel
theorem dX2_outermost_21 : decode cX2_outermost 21 = .ok (.getfield 9, 3) := by decide +kernel
theorem dX2_outermost_24 : decode cX2_outermost 24 = .ok (.iload_n 3, 1) := by decide +kernel
theorem dX2_outermost_25 : decode cX2_outermost 25 = .ok (.laload, 1) := by decide +kernel
theorem dX2_outermost_26 : decode cX2_outermost 26 = .ok (.aload_n 0, 1) := by decide +kernel
theorem dX2_outermost_27 : decode cX2_outermost 27 = .ok (.getfield 13, 3) := by decide +kernel
theorem dX2_outermost_30 : decode cX2_outermost 30 = .ok (.iload_n 3, 1) := by decide +kernel
theorem dX2_outermost_31 : decode cX2_outermost 31 = .ok (.laload, 1) := by decide +kernel
theorem dX2_outermost_32 : decode cX2_outermost 32 = .ok (.aload_n 0, 1) := by decide +kernel
theorem dX2_outermost_33 : decode cX2_outermost 33 = .ok (.getfield 9, 3) := by decide +kernel
theorem dX2_outermost_36 : decode cX2_outermost 36 = .ok (.iload_n 2, 1) := by decide +kernel
theorem dX2_outermost_37 : decode cX2_outermost 37 = .ok (.laload, 1) := by decide +kernel
theorem dX2_outermost_38 : decode cX2_outermost 38 = .ok (.aload_n 0, 1) := by decide +kernel
theorem dX2_outermost_39 : decode cX2_outermost 39 = .ok (.getfield 13, 3) := by decide +kernel
theorem dX2_outermost_42 : decode cX2_outermost 42 = .ok (.iload_n 2, 1) := by decide +kernel
theorem dX2_outermost_43 : decode cX2_outermost 43 = .ok (.laload, 1) := by decide +kernel
theorem dX2_outermost_44 : decode cX2_outermost 44 = .ok (.invokestatic 74, 3) := by decide +kernel
theorem dX2_outermost_47 : decode cX2_outermost 47 = .ok (.imul, 1) := by decide +kernel
theorem dX2_outermost_48 : decode cX2_outermost 48 = .ok (.ifCond .le 5, 3) := by decide +kernel
theorem dX2_outermost_51 : decode cX2_outermost 51 = .ok (.iload_n 3, 1) := by decide +kernel
theorem dX2_outermost_52 : decode cX2_outermost 52 = .ok (.istore_n 2, 1) := by decide +kernel
theorem dX2_outermost_53 : decode cX2_outermost 53 = .ok (.iinc 3 1, 3) := by decide +kernel
theorem dX2_outermost_56 : decode cX2_outermost 56 = .ok (.goto (-52), 3) := by decide +kernel
theorem dX2_outermost_59 : decode cX2_outermost 59 = .ok (.iload_n 2, 1) := by decide +kernel
theorem dX2_outermost_60 : decode cX2_outermost 60 = .ok (.ireturn, 1) := by decide +kernel
theorem dX3_init_0 : decode cX3_init 0 = .ok (.aload_n 0, 1) := by decide +kernel
theorem dX3_init_1 : decode cX3_init 1 = .ok (.invokespecial 1, 3) := by decide +kernel
theorem dX3_init_4 : decode cX3_init 4 = .ok (.aload_n 0, 1) := by decide +kernel
theorem dX3_init_5 : decode cX3_init 5 = .ok (.iload_n 1, 1) := by decide +kernel
theorem dX3_init_6 : decode cX3_init 6 = .ok (.putfield 7, 3) := by decide +kernel
theorem dX3_init_9 : decode cX3_init 9 = .ok (.aload_n 0, 1) := by decide +kernel
theorem dX3_init_10 : decode cX3_init 10 = .ok (.iload_n 2, 1) := by decide +kernel
theorem dX3_init_11 : decode cX3_init 11 = .ok (.putfield 13, 3) := by decide +kernel
theorem dX3_init_14 : decode cX3_init 14 = .ok (.aload_n 0, 1) := by decide +kernel
theorem dX3_init_15 : decode cX3_init 15 = .ok (.iload_n 3, 1) := by decide +kernel
theorem dX3_init_16 : decode cX3_init 16 = .ok (.putfield 16, 3) := by decide +kernel
theorem dX3_init_19 : decode cX3_init 19 = .ok (.aload_n 0, 1) := by decide +kernel
theorem dX3_init_20 : decode cX3_init 20 = .ok (.iload 4, 2) := by decide +kernel
theorem dX3_init_22 : decode cX3_init 22 = .ok (.putfield 19, 3) := by decide +kernel
theorem dX3_init_25 : decode cX3_init 25 = .ok (.aload_n 0, 1) := by decide +kernel
theorem dX3_init_26 : decode cX3_init 26 = .ok (.aload 5, 2) := by decide +kernel
theorem dX3_init_28 : decode cX3_init 28 = .ok (.putfield 22, 3) := by decide +kernel
theorem dX3_init_31 : decode cX3_init 31 = .ok (.return_, 1) := by decide +kernel
theorem dX3_move_0 : decode cX3_move 0 = .ok (.iconst 1, 1) := by decide +kernel
theorem dX3_move_1 : decode cX3_move 1 = .ok (.ireturn, 1) := by decide +kernel
theorem dX3_saying_0 : decode cX3_saying 0 = .ok (.aload_n 0, 1) := by decide +kernel
theorem dX3_saying_1 : decode cX3_saying 1 = .ok (.getfield 19, 3) := by decide +kernel
theorem dX3_saying_4 : decode cX3_saying 4 = .ok (.ireturn, 1) := by decide +kernel
theorem dX3_ran_0 : decode cX3_ran 0 = .ok (.aload_n 0, 1) := by decide +kernel
theorem dX3_ran_1 : decode cX3_ran 1 = .ok (.getfield 22, 3) := by decide +kernel
theorem dX3_ran_4 : decode cX3_ran 4 = .ok (.iconst 0, 1) := by decide +kernel
theorem dX3_ran_5 : decode cX3_ran 5 = .ok (.dup2, 1) := by decide +kernel
theorem dX3_ran_6 : decode cX3_ran 6 = .ok (.iaload, 1) := by decide +kernel
theorem dX3_ran_7 : decode cX3_ran 7 = .ok (.iconst 1, 1) := by decide +kernel
theorem dX3_ran_8 : decode cX3_ran 8 = .ok (.iadd, 1) := by decide +kernel
theorem dX3_ran_9 : decode cX3_ran 9 = .ok (.iastore, 1) := by decide +kernel
theorem dX3_ran_10 : decode cX3_ran 10 = .ok (.aload_n 0, 1) := by decide +kernel
theorem dX3_ran_11 : decode cX3_ran 11 = .ok (.getfield 22, 3) := by decide +kernel
theorem dX3_ran_14 : decode cX3_ran 14 = .ok (.iconst 0, 1) := by decide +kernel
theorem dX3_ran_15 : decode cX3_ran 15 = .ok (.iaload, 1) := by decide +kernel
theorem dX3_ran_16 : decode cX3_ran 16 = .ok (.ifCond .le 29, 3) := by decide +kernel
theorem dX3_ran_19 : decode cX3_ran 19 = .ok (.aload_n 0, 1) := by decide +kernel
theorem dX3_ran_20 : decode cX3_ran 20 = .ok (.getfield 22, 3) := by decide +kernel
theorem dX3_ran_23 : decode cX3_ran 23 = .ok (.iconst 0, 1) := by decide +kernel
theorem dX3_ran_24 : decode cX3_ran 24 = .ok (.iaload, 1) := by decide +kernel
theorem dX3_ran_25 : decode cX3_ran 25 = .ok (.aload_n 0, 1) := by decide +kernel
theorem dX3_ran_26 : decode cX3_ran 26 = .ok (.getfield 22, 3) := by decide +kernel
theorem dX3_ran_29 : decode cX3_ran 29 = .ok (.arraylength, 1) := by decide +kernel
theorem dX3_ran_30 : decode cX3_ran 30 = .ok (.if_icmp .ge 15, 3) := by decide +kernel
theorem dX3_ran_33 : decode cX3_ran 33 = .ok (.aload_n 0, 1) := by decide +kernel
theorem dX3_ran_34 : decode cX3_ran 34 = .ok (.getfield 22, 3) := by decide +kernel
theorem dX3_ran_37 : decode cX3_ran 37 = .ok (.aload_n 0, 1) := by decide +kernel
theorem dX3_ran_38 : decode cX3_ran 38 = .ok (.getfield 22, 3) := by decide +kernel
theorem dX3_ran_41 : decode cX3_ran 41 = .ok (.iconst 0, 1) := by decide +kernel
theorem dX3_ran_42 : decode cX3_ran 42 = .ok (.iaload, 1) := by decide +kernel
theorem dX3_ran_43 : decode cX3_ran 43 = .ok (.iload_n 1, 1) := by decide +kernel
theorem dX3_ran_44 : decode cX3_ran 44 = .ok (.iastore, 1) := by decide +kernel
theorem dX3_ran_45 : decode cX3_ran 45 = .ok (.return_, 1) := by decide +kernel
theorem dX3_calls_0 : decode cX3_calls 0 = .ok (.aload_n 0, 1) := by decide +kernel
theorem dX3_calls_1 : decode cX3_calls 1 = .ok (.bipush 10, 2) := by decide +kernel
theorem dX3_calls_3 : decode cX3_calls 3 = .ok (.invokevirtual 26, 3) := by decide +kernel
theorem dX3_calls_6 : decode cX3_calls 6 = .ok (.iload_n 1, 1) := by decide +kernel
theorem dX3_calls_7 : decode cX3_calls 7 = .ok (.aload_n 0, 1) := by decide +kernel
theorem dX3_calls_8 : decode cX3_calls 8 = .ok (.getfield 13, 3) := by decide +kernel
theorem dX3_calls_11 : decode cX3_calls 11 = .ok (.iadd, 1) := by decide +kernel
theorem dX3_calls_12 : decode cX3_calls 12 = .ok (.ireturn, 1) := by decide +kernel
theorem dX3_steps_0 : decode cX3_steps 0 = .ok (.aload_n 0, 1) := by decide +kernel
theorem dX3_steps_1 : decode cX3_steps 1 = .ok (.bipush 11, 2) := by decide +kernel
theorem dX3_steps_3 : decode cX3_steps 3 = .ok (.invokevirtual 26, 3) := by decide +kernel
theorem dX3_steps_6 : decode cX3_steps 6 = .ok (.aload_n 0, 1) := by decide +kernel
theorem dX3_steps_7 : decode cX3_steps 7 = .ok (.iload_n 1, 1) := by decide +kernel
theorem dX3_steps_8 : decode cX3_steps 8 = .ok (.invokevirtual 30, 3) := by decide +kernel
theorem dX3_steps_11 : decode cX3_steps 11 = .ok (.iconst 2, 1) := by decide +kernel
theorem dX3_steps_12 : decode cX3_steps 12 = .ok (.imul, 1) := by decide +kernel
theorem dX3_steps_13 : decode cX3_steps 13 = .ok (.ireturn, 1) := by decide +kernel
theorem dX3_knots_0 : decode cX3_knots 0 = .ok (.aload_n 0, 1) := by decide +kernel
theorem dX3_knots_1 : decode cX3_knots 1 = .ok (.bipush 12, 2) := by decide +kernel
theorem dX3_knots_3 : decode cX3_knots 3 = .ok (.invokevirtual 26, 3) := by decide +kernel
theorem dX3_knots_6 : decode cX3_knots 6 = .ok (.aload_n 0, 1) := by decide +kernel
theorem dX3_knots_7 : decode cX3_knots 7 = .ok (.iload_n 1, 1) := by decide +kernel
theorem dX3_knots_8 : decode cX3_knots 8 = .ok (.invokevirtual 34, 3) := by decide +kernel
theorem dX3_knots_11 : decode cX3_knots 11 = .ok (.aload_n 0, 1) := by decide +kernel
theorem dX3_knots_12 : decode cX3_knots 12 = .ok (.iload_n 1, 1) := by decide +kernel
theorem dX3_knots_13 : decode cX3_knots 13 = .ok (.aload_n 0, 1) := by decide +kernel
theorem dX3_knots_14 : decode cX3_knots 14 = .ok (.getfield 16, 3) := by decide +kernel
theorem dX3_knots_17 : decode cX3_knots 17 = .ok (.isub, 1) := by decide +kernel
theorem dX3_knots_18 : decode cX3_knots 18 = .ok (.invokevirtual 30, 3) := by decide +kernel
theorem dX3_knots_21 : decode cX3_knots 21 = .ok (.ixor, 1) := by decide +kernel
theorem dX3_knots_22 : decode cX3_knots 22 = .ok (.ireturn, 1) := by decide +kernel
theorem dX4_init_0 : decode cX4_init 0 = .ok (.aload_n 0, 1) := by decide +kernel
theorem dX4_init_1 : decode cX4_init 1 = .ok (.invokespecial 3, 3) := by decide +kernel
theorem dX4_init_4 : decode cX4_init 4 = .ok (.aload_n 0, 1) := by decide +kernel
theorem dX4_init_5 : decode cX4_init 5 = .ok (.iconst 4, 1) := by decide +kernel
theorem dX4_init_6 : decode cX4_init 6 = .ok (.newarray .int, 2) := by decide +kernel
theorem dX4_init_8 : decode cX4_init 8 = .ok (.dup, 1) := by decide +kernel
theorem dX4_init_9 : decode cX4_init 9 = .ok (.iconst 0, 1) := by decide +kernel
theorem dX4_init_10 : decode cX4_init 10 = .ok (.iconst 0, 1) := by decide +kernel
theorem dX4_init_11 : decode cX4_init 11 = .ok (.iastore, 1) := by decide +kernel
theorem dX4_init_12 : decode cX4_init 12 = .ok (.dup, 1) := by decide +kernel
theorem dX4_init_13 : decode cX4_init 13 = .ok (.iconst 1, 1) := by decide +kernel
theorem dX4_init_14 : decode cX4_init 14 = .ok (.iconst 1, 1) := by decide +kernel
theorem dX4_init_15 : decode cX4_init 15 = .ok (.iastore, 1) := by decide +kernel
theorem dX4_init_16 : decode cX4_init 16 = .ok (.dup, 1) := by decide +kernel
theorem dX4_init_17 : decode cX4_init 17 = .ok (.iconst 2, 1) := by decide +kernel
theorem dX4_init_18 : decode cX4_init 18 = .ok (.iconst 2, 1) := by decide +kernel
theorem dX4_init_19 : decode cX4_init 19 = .ok (.iastore, 1) := by decide +kernel
theorem dX4_init_20 : decode cX4_init 20 = .ok (.dup, 1) := by decide +kernel
theorem dX4_init_21 : decode cX4_init 21 = .ok (.iconst 3, 1) := by decide +kernel
theorem dX4_init_22 : decode cX4_init 22 = .ok (.iconst 3, 1) := by decide +kernel
theorem dX4_init_23 : decode cX4_init 23 = .ok (.iastore, 1) := by decide +kernel
theorem dX4_init_24 : decode cX4_init 24 = .ok (.putfield 9, 3) := by decide +kernel
theorem dX4_init_27 : decode cX4_init 27 = .ok (.aload_n 0, 1) := by decide +kernel
theorem dX4_init_28 : decode cX4_init 28 = .ok (.lconst 1, 1) := by decide +kernel
theorem dX4_init_29 : decode cX4_init 29 = .ok (.putfield 15, 3) := by decide +kernel
theorem dX4_init_32 : decode cX4_init 32 = .ok (.aload_n 0, 1) := by decide +kernel
theorem dX4_init_33 : decode cX4_init 33 = .ok (.iconst 1, 1) := by decide +kernel
theorem dX4_init_34 : decode cX4_init 34 = .ok (.putfield 19, 3) := by decide +kernel
theorem dX4_init_37 : decode cX4_init 37 = .ok (.return_, 1) := by decide +kernel
theorem dX4_takeFrom_0 : decode cX4_takeFrom 0 = .ok (.aload_n 1, 1) := by decide +kernel
theorem dX4_takeFrom_1 : decode cX4_takeFrom 1 = .ok (.getfield 9, 3) := by decide +kernel
theorem dX4_takeFrom_4 : decode cX4_takeFrom 4 = .ok (.iconst 0, 1) := by decide +kernel
theorem dX4_takeFrom_5 : decode cX4_takeFrom 5 = .ok (.aload_n 0, 1) := by decide +kernel
theorem dX4_takeFrom_6 : decode cX4_takeFrom 6 = .ok (.getfield 9, 3) := by decide +kernel
theorem dX4_takeFrom_9 : decode cX4_takeFrom 9 = .ok (.iconst 0, 1) := by decide +kernel
theorem dX4_takeFrom_10 : decode cX4_takeFrom 10 = .ok (.aload_n 0, 1) := by decide +kernel
theorem dX4_takeFrom_11 : decode cX4_takeFrom 11 = .ok (.getfield 9, 3) := by decide +kernel
theorem dX4_takeFrom_14 : decode cX4_takeFrom 14 = .ok (.arraylength, 1) := by decide +kernel
theorem dX4_takeFrom_15 : decode cX4_takeFrom 15 = .ok (.invokestatic 23, 3) := by decide +kernel
theorem dX4_takeFrom_18 : decode cX4_takeFrom 18 = .ok (.aload_n 0, 1) := by decide +kernel
theorem dX4_takeFrom_19 : decode cX4_takeFrom 19 = .ok (.aload_n 1, 1) := by decide +kernel
theorem dX4_takeFrom_20 : decode cX4_takeFrom 20 = .ok (.getfield 29, 3) := by decide +kernel
theorem dX4_takeFrom_23 : decode cX4_takeFrom 23 = .ok (.putfield 29, 3) := by decide +kernel
theorem dX4_takeFrom_26 : decode cX4_takeFrom 26 = .ok (.aload_n 0, 1) := by decide +kernel
theorem dX4_takeFrom_27 : decode cX4_takeFrom 27 = .ok (.aload_n 1, 1) := by decide +kernel
theorem dX4_takeFrom_28 : decode cX4_takeFrom 28 = .ok (.getfield 15, 3) := by decide +kernel
theorem dX4_takeFrom_31 : decode cX4_takeFrom 31 = .ok (.putfield 15, 3) := by decide +kernel
theorem dX4_takeFrom_34 : decode cX4_takeFrom 34 = .ok (.aload_n 0, 1) := by decide +kernel
theorem dX4_takeFrom_35 : decode cX4_takeFrom 35 = .ok (.aload_n 1, 1) := by decide +kernel
theorem dX4_takeFrom_36 : decode cX4_takeFrom 36 = .ok (.getfield 32, 3) := by decide +kernel
theorem dX4_takeFrom_39 : decode cX4_takeFrom 39 = .ok (.putfield 32, 3) := by decide +kernel
theorem dX4_takeFrom_42 : decode cX4_takeFrom 42 = .ok (.aload_n 0, 1) := by decide +kernel
theorem dX4_takeFrom_43 : decode cX4_takeFrom 43 = .ok (.aload_n 1, 1) := by decide +kernel
theorem dX4_takeFrom_44 : decode cX4_takeFrom 44 = .ok (.getfield 35, 3) := by decide +kernel
theorem dX4_takeFrom_47 : decode cX4_takeFrom 47 = .ok (.putfield 35, 3) := by decide +kernel
theorem dX4_takeFrom_50 : decode cX4_takeFrom 50 = .ok (.aload_n 0, 1) := by decide +kernel
theorem dX4_takeFrom_51 : decode cX4_takeFrom 51 = .ok (.aload_n 1, 1) := by decide +kernel
theorem dX4_takeFrom_52 : decode cX4_takeFrom 52 = .ok (.getfield 38, 3) := by decide +kernel
theorem dX4_takeFrom_55 : decode cX4_takeFrom 55 = .ok (.putfield 38, 3) := by decide +kernel
theorem dX4_takeFrom_58 : decode cX4_takeFrom 58 = .ok (.aload_n 0, 1) := by decide +kernel
theorem dX4_takeFrom_59 : decode cX4_takeFrom 59 = .ok (.aload_n 1, 1) := by decide +kernel
theorem dX4_takeFrom_60 : decode cX4_takeFrom 60 = .ok (.getfield 19, 3) := by decide +kernel
theorem dX4_takeFrom_63 : decode cX4_takeFrom 63 = .ok (.putfield 19, 3) := by decide +kernel
theorem dX4_takeFrom_66 : decode cX4_takeFrom 66 = .ok (.return_, 1) := by decide +kernel
theorem dX4_become_0 : decode cX4_become 0 = .ok (.aload_n 0, 1) := by decide +kernel
theorem dX4_become_1 : decode cX4_become 1 = .ok (.lload_n 1, 1) := by decide +kernel
theorem dX4_become_2 : decode cX4_become 2 = .ok (.putfield 29, 3) := by decide +kernel
theorem dX4_become_5 : decode cX4_become 5 = .ok (.aload_n 0, 1) := by decide +kernel
theorem dX4_become_6 : decode cX4_become 6 = .ok (.lload_n 3, 1) := by decide +kernel
theorem dX4_become_7 : decode cX4_become 7 = .ok (.putfield 15, 3) := by decide +kernel
theorem dX4_become_10 : decode cX4_become 10 = .ok (.return_, 1) := by decide +kernel
theorem dX4_becomeEither_0 : decode cX4_becomeEither 0 = .ok (.lload_n 3, 1) := by decide +kernel
theorem dX4_becomeEither_1 : decode cX4_becomeEither 1 = .ok (.lconst 0, 1) := by decide +kernel
theorem dX4_becomeEither_2 : decode cX4_becomeEither 2 = .ok (.lcmp, 1) := by decide +kernel
theorem dX4_becomeEither_3 : decode cX4_becomeEither 3 = .ok (.ifCond .lt 15, 3) := by decide +kernel
theorem dX4_becomeEither_6 : decode cX4_becomeEither 6 = .ok (.lload_n 3, 1) := by decide +kernel
theorem dX4_becomeEither_7 : decode cX4_becomeEither 7 = .ok (.lconst 0, 1) := by decide +kernel
theorem dX4_becomeEither_8 : decode cX4_becomeEither 8 = .ok (.lcmp, 1) := by decide +kernel
theorem dX4_becomeEither_9 : decode cX4_becomeEither 9 = .ok (.ifCond .ne 13, 3) := by decide +kernel
theorem dX4_becomeEither_12 : decode cX4_becomeEither 12 = .ok (.lload_n 1, 1) := by decide +kernel
theorem dX4_becomeEither_13 : decode cX4_becomeEither 13 = .ok (.lconst 0, 1) := by decide +kernel
theorem dX4_becomeEither_14 : decode cX4_becomeEither 14 = .ok (.lcmp, 1) := by decide +kernel
theorem dX4_becomeEither_15 : decode cX4_becomeEither 15 = .ok (.ifCond .ge 7, 3) := by decide +kernel
theorem dX4_becomeEither_18 : decode cX4_becomeEither 18 = .ok (.iconst 1, 1) := by decide +kernel
theorem dX4_becomeEither_19 : decode cX4_becomeEither 19 = .ok (.goto 4, 3) := by decide +kernel
theorem dX4_becomeEither_22 : decode cX4_becomeEither 22 = .ok (.iconst 0, 1) := by decide +kernel
theorem dX4_becomeEither_23 : decode cX4_becomeEither 23 = .ok (.istore 5, 2) := by decide +kernel
theorem dX4_becomeEither_25 : decode cX4_becomeEither 25 = .ok (.aload_n 0, 1) := by decide +kernel
theorem dX4_becomeEither_26 : decode cX4_becomeEither 26 = .ok (.iload 5, 2) := by decide +kernel
theorem dX4_becomeEither_28 : decode cX4_becomeEither 28 = .ok (.ifCond .eq 8, 3) := by decide +kernel
theorem dX4_becomeEither_31 : decode cX4_becomeEither 31 = .ok (.lload_n 1, 1) := by decide +kernel
theorem dX4_becomeEither_32 : decode cX4_becomeEither 32 = .ok (.lneg, 1) := by decide +kernel
theorem dX4_becomeEither_33 : decode cX4_becomeEither 33 = .ok (.goto 4, 3) := by decide +kernel
theorem dX4_becomeEither_36 : decode cX4_becomeEither 36 = .ok (.lload_n 1, 1) := by decide +kernel
theorem dX4_becomeEither_37 : decode cX4_becomeEither 37 = .ok (.iload 5, 2) := by decide +kernel
theorem dX4_becomeEither_39 : decode cX4_becomeEither 39 = .ok (.ifCond .eq 8, 3) := by decide +kernel
theorem dX4_becomeEither_42 : decode cX4_becomeEither 42 = .ok (.lload_n 3, 1) := by decide +kernel
theorem dX4_becomeEither_43 : decode cX4_becomeEither 43 = .ok (.lneg, 1) := by decide +kernel
theorem dX4_becomeEither_44 : decode cX4_becomeEither 44 = .ok (.goto 4, 3) := by decide +kernel
theorem dX4_becomeEither_47 : decode cX4_becomeEither 47 = .ok (.lload_n 3, 1) := by decide +kernel
theorem dX4_becomeEither_48 : decode cX4_becomeEither 48 = .ok (.invokevirtual 41, 3) := by decide +kernel
theorem dX4_becomeEither_51 : decode cX4_becomeEither 51 = .ok (.return_, 1) := by decide +kernel
theorem dX4_standsLike_0 : decode cX4_standsLike 0 = .ok (.iconst 1, 1) := by decide +kernel
theorem dX4_standsLike_1 : decode cX4_standsLike 1 = .ok (.istore_n 2, 1) := by decide +kernel
theorem dX4_standsLike_2 : decode cX4_standsLike 2 = .ok (.iconst 0, 1) := by decide +kernel
theorem dX4_standsLike_3 : decode cX4_standsLike 3 = .ok (.istore_n 3, 1) := by decide +kernel
theorem dX4_standsLike_4 : decode cX4_standsLike 4 = .ok (.iload_n 3, 1) := by decide +kernel
theorem dX4_standsLike_5 : decode cX4_standsLike 5 = .ok (.aload_n 0, 1) := by decide +kernel
theorem dX4_standsLike_6 : decode cX4_standsLike 6 = .ok (.getfield 9, 3) := by decide +kernel
theorem dX4_standsLike_9 : decode cX4_standsLike 9 = .ok (.arraylength, 1) := by decide +kernel
theorem dX4_standsLike_10 : decode cX4_standsLike 10 = .ok (.if_icmp .ge 43, 3) := by decide +kernel
theorem dX4_standsLike_13 : decode cX4_standsLike 13 = .ok (.iload_n 3, 1) := by decide +kernel
theorem dX4_standsLike_14 : decode cX4_standsLike 14 = .ok (.aload_n 1, 1) := by decide +kernel
theorem dX4_standsLike_15 : decode cX4_standsLike 15 = .ok (.getfield 9, 3) := by decide +kernel
theorem dX4_standsLike_18 : decode cX4_standsLike 18 = .ok (.arraylength, 1) := by decide +kernel
theorem dX4_standsLike_19 : decode cX4_standsLike 19 = .ok (.if_icmp .ge 34, 3) := by decide +kernel
theorem dX4_standsLike_22 : decode cX4_standsLike 22 = .ok (.iload_n 2, 1) := by decide +kernel
theorem dX4_standsLike_23 : decode cX4_standsLike 23 = .ok (.ifCond .eq 22, 3) := by decide +kernel
theorem dX4_standsLike_26 : decode cX4_standsLike 26 = .ok (.aload_n 0, 1) := by decide +kernel
theorem dX4_standsLike_27 : decode cX4_standsLike 27 = .ok (.getfield 9, 3) := by decide +kernel
theorem dX4_standsLike_30 : decode cX4_standsLike 30 = .ok (.iload_n 3, 1) := by decide +kernel
theorem dX4_standsLike_31 : decode cX4_standsLike 31 = .ok (.iaload, 1) := by decide +kernel
theorem dX4_standsLike_32 : decode cX4_standsLike 32 = .ok (.aload_n 1, 1) := by decide +kernel
theorem dX4_standsLike_33 : decode cX4_standsLike 33 = .ok (.getfield 9, 3) := by decide +kernel
theorem dX4_standsLike_36 : decode cX4_standsLike 36 = .ok (.iload_n 3, 1) := by decide +kernel
theorem dX4_standsLike_37 : decode cX4_standsLike 37 = .ok (.iaload, 1) := by decide +kernel
theorem dX4_standsLike_38 : decode cX4_standsLike 38 = .ok (.if_icmp .ne 7, 3) := by decide +kernel
theorem dX4_standsLike_41 : decode cX4_standsLike 41 = .ok (.iconst 1, 1) := by decide +kernel
theorem dX4_standsLike_42 : decode cX4_standsLike 42 = .ok (.goto 4, 3) := by decide +kernel
theorem dX4_standsLike_45 : decode cX4_standsLike 45 = .ok (.iconst 0, 1) := by decide +kernel
theorem dX4_standsLike_46 : decode cX4_standsLike 46 = .ok (.istore_n 2, 1) := by decide +kernel
theorem dX4_standsLike_47 : decode cX4_standsLike 47 = .ok (.iinc 3 1, 3) := by decide +kernel
theorem dX4_standsLike_50 : decode cX4_standsLike 50 = .ok (.goto (-46), 3) := by decide +kernel
theorem dX4_standsLike_53 : decode cX4_standsLike 53 = .ok (.iload_n 2, 1) := by decide +kernel
theorem dX4_standsLike_54 : decode cX4_standsLike 54 = .ok (.ireturn, 1) := by decide +kernel
theorem dX4_dance_0 : decode cX4_dance 0 = .ok (.aload_n 1, 1) := by decide +kernel
theorem dX4_dance_1 : decode cX4_dance 1 = .ok (.ifnull 11, 3) := by decide +kernel
theorem dX4_dance_4 : decode cX4_dance 4 = .ok (.aload_n 1, 1) := by decide +kernel
theorem dX4_dance_5 : decode cX4_dance 5 = .ok (.aload_n 0, 1) := by decide +kernel
theorem dX4_dance_6 : decode cX4_dance 6 = .ok (.invokevirtual 45, 3) := by decide +kernel
theorem dX4_dance_9 : decode cX4_dance 9 = .ok (.ifCond .ne 5, 3) := by decide +kernel
theorem dX4_dance_12 : decode cX4_dance 12 = .ok (.iconst 0, 1) := by decide +kernel
theorem dX4_dance_13 : decode cX4_dance 13 = .ok (.ireturn, 1) := by decide +kernel
theorem dX4_dance_14 : decode cX4_dance 14 = .ok (.aload_n 0, 1) := by decide +kernel
theorem dX4_dance_15 : decode cX4_dance 15 = .ok (.dup, 1) := by decide +kernel
theorem dX4_dance_16 : decode cX4_dance 16 = .ok (.getfield 35, 3) := by decide +kernel
theorem dX4_dance_19 : decode cX4_dance 19 = .ok (.iconst 1, 1) := by decide +kernel
theorem dX4_dance_20 : decode cX4_dance 20 = .ok (.iadd, 1) := by decide +kernel
theorem dX4_dance_21 : decode cX4_dance 21 = .ok (.putfield 35, 3) := by decide +kernel
theorem dX4_dance_24 : decode cX4_dance 24 = .ok (.aload_n 0, 1) := by decide +kernel
theorem dX4_dance_25 : decode cX4_dance 25 = .ok (.dup, 1) := by decide +kernel
theorem dX4_dance_26 : decode cX4_dance 26 = .ok (.getfield 38, 3) := by decide +kernel
theorem dX4_dance_29 : decode cX4_dance 29 = .ok (.aload_n 1, 1) := by decide +kernel
theorem dX4_dance_30 : decode cX4_dance 30 = .ok (.getfield 51, 3) := by decide +kernel
theorem dX4_dance_33 : decode cX4_dance 33 = .ok (.iadd, 1) := by decide +kernel
theorem dX4_dance_34 : decode cX4_dance 34 = .ok (.putfield 38, 3) := by decide +kernel
theorem dX4_dance_37 : decode cX4_dance 37 = .ok (.iconst 1, 1) := by decide +kernel
theorem dX4_dance_38 : decode cX4_dance 38 = .ok (.ireturn, 1) := by decide +kernel
theorem dX4_step_0 : decode cX4_step 0 = .ok (.iload_n 1, 1) := by decide +kernel
theorem dX4_step_1 : decode cX4_step 1 = .ok (.iconst 2, 1) := by decide +kernel
theorem dX4_step_2 : decode cX4_step 2 = .ok (.if_icmp .ne 11, 3) := by decide +kernel
theorem dX4_step_5 : decode cX4_step 5 = .ok (.aload_n 0, 1) := by decide +kernel
theorem dX4_step_6 : decode cX4_step 6 = .ok (.iconst 1, 1) := by decide +kernel
theorem dX4_step_7 : decode cX4_step 7 = .ok (.invokevirtual 54, 3) := by decide +kernel
theorem dX4_step_10 : decode cX4_step 10 = .ok (.goto 21, 3) := by decide +kernel
theorem dX4_step_13 : decode cX4_step 13 = .ok (.aload_n 0, 1) := by decide +kernel
theorem dX4_step_14 : decode cX4_step 14 = .ok (.iload_n 1, 1) := by decide +kernel
theorem dX4_step_15 : decode cX4_step 15 = .ok (.ifCond .ne 7, 3) := by decide +kernel
theorem dX4_step_18 : decode cX4_step 18 = .ok (.iconst 1, 1) := by decide +kernel
theorem dX4_step_19 : decode cX4_step 19 = .ok (.goto 4, 3) := by decide +kernel
theorem dX4_step_22 : decode cX4_step 22 = .ok (.iconst (-1), 1) := by decide +kernel
theorem dX4_step_23 : decode cX4_step 23 = .ok (.invokevirtual 58, 3) := by decide +kernel
theorem dX4_step_26 : decode cX4_step 26 = .ok (.ifCond .ne 5, 3) := by decide +kernel
theorem dX4_step_29 : decode cX4_step 29 = .ok (.iconst 0, 1) := by decide +kernel
theorem dX4_step_30 : decode cX4_step 30 = .ok (.ireturn, 1) := by decide +kernel
theorem dX4_step_31 : decode cX4_step 31 = .ok (.aload_n 0, 1) := by decide +kernel
theorem dX4_step_32 : decode cX4_step 32 = .ok (.dup, 1) := by decide +kernel
theorem dX4_step_33 : decode cX4_step 33 = .ok (.getfield 35, 3) := by decide +kernel
theorem dX4_step_36 : decode cX4_step 36 = .ok (.iconst 1, 1) := by decide +kernel
theorem dX4_step_37 : decode cX4_step 37 = .ok (.iadd, 1) := by decide +kernel
theorem dX4_step_38 : decode cX4_step 38 = .ok (.putfield 35, 3) := by decide +kernel
theorem dX4_step_41 : decode cX4_step 41 = .ok (.aload_n 0, 1) := by decide +kernel
theorem dX4_step_42 : decode cX4_step 42 = .ok (.dup, 1) := by decide +kernel
theorem dX4_step_43 : decode cX4_step 43 = .ok (.getfield 38, 3) := by decide +kernel
theorem dX4_step_46 : decode cX4_step 46 = .ok (.iconst 1, 1) := by decide +kernel
theorem dX4_step_47 : decode cX4_step 47 = .ok (.iadd, 1) := by decide +kernel
theorem dX4_step_48 : decode cX4_step 48 = .ok (.putfield 38, 3) := by decide +kernel
theorem dX4_step_51 : decode cX4_step 51 = .ok (.iconst 1, 1) := by decide +kernel
theorem dX4_step_52 : decode cX4_step 52 = .ok (.ireturn, 1) := by decide +kernel
theorem dX4_change_0 : decode cX4_change 0 = .ok (.aload_n 0, 1) := by decide +kernel
theorem dX4_change_1 : decode cX4_change 1 = .ok (.getfield 29, 3) := by decide +kernel
theorem dX4_change_4 : decode cX4_change 4 = .ok (.iload_n 1, 1) := by decide +kernel
theorem dX4_change_5 : decode cX4_change 5 = .ok (.i2l, 1) := by decide +kernel
theorem dX4_change_6 : decode cX4_change 6 = .ok (.aload_n 0, 1) := by decide +kernel
theorem dX4_change_7 : decode cX4_change 7 = .ok (.getfield 15, 3) := by decide +kernel
theorem dX4_change_10 : decode cX4_change 10 = .ok (.lmul, 1) := by decide +kernel
theorem dX4_change_11 : decode cX4_change 11 = .ok (.ladd, 1) := by decide +kernel
theorem dX4_change_12 : decode cX4_change 12 = .ok (.lstore_n 2, 1) := by decide +kernel
theorem dX4_change_13 : decode cX4_change 13 = .ok (.lload_n 2, 1) := by decide +kernel
theorem dX4_change_14 : decode cX4_change 14 = .ok (.ldc2_w 62, 3) := by decide +kernel
theorem dX4_change_17 : decode cX4_change 17 = .ok (.lcmp, 1) := by decide +kernel
theorem dX4_change_18 : decode cX4_change 18 = .ok (.ifCond .gt 11, 3) := by decide +kernel
theorem dX4_change_21 : decode cX4_change 21 = .ok (.lload_n 2, 1) := by decide +kernel
theorem dX4_change_22 : decode cX4_change 22 = .ok (.ldc2_w 64, 3) := by decide +kernel
theorem dX4_change_25 : decode cX4_change 25 = .ok (.lcmp, 1) := by decide +kernel
theorem dX4_change_26 : decode cX4_change 26 = .ok (.ifCond .ge 5, 3) := by decide +kernel
theorem dX4_change_29 : decode cX4_change 29 = .ok (.iconst 0, 1) := by decide +kernel
theorem dX4_change_30 : decode cX4_change 30 = .ok (.ireturn, 1) := by decide +kernel
theorem dX4_change_31 : decode cX4_change 31 = .ok (.aload_n 0, 1) := by decide +kernel
theorem dX4_change_32 : decode cX4_change 32 = .ok (.lload_n 2, 1) := by decide +kernel
theorem dX4_change_33 : decode cX4_change 33 = .ok (.putfield 29, 3) := by decide +kernel
theorem dX4_change_36 : decode cX4_change 36 = .ok (.iload_n 1, 1) := by decide +kernel
theorem dX4_change_37 : decode cX4_change 37 = .ok (.iconst 1, 1) := by decide +kernel
theorem dX4_change_38 : decode cX4_change 38 = .ok (.iand, 1) := by decide +kernel
theorem dX4_change_39 : decode cX4_change 39 = .ok (.ifCond .eq 31, 3) := by decide +kernel
theorem dX4_change_42 : decode cX4_change 42 = .ok (.aload_n 0, 1) := by decide +kernel
theorem dX4_change_43 : decode cX4_change 43 = .ok (.getfield 9, 3) := by decide +kernel
theorem dX4_change_46 : decode cX4_change 46 = .ok (.iconst 1, 1) := by decide +kernel
theorem dX4_change_47 : decode cX4_change 47 = .ok (.iaload, 1) := by decide +kernel
theorem dX4_change_48 : decode cX4_change 48 = .ok (.istore 4, 2) := by decide +kernel
theorem dX4_change_50 : decode cX4_change 50 = .ok (.aload_n 0, 1) := by decide +kernel
theorem dX4_change_51 : decode cX4_change 51 = .ok (.getfield 9, 3) := by decide +kernel
theorem dX4_change_54 : decode cX4_change 54 = .ok (.iconst 1, 1) := by decide +kernel
theorem dX4_change_55 : decode cX4_change 55 = .ok (.aload_n 0, 1) := by decide +kernel
theorem dX4_change_56 : decode cX4_change 56 = .ok (.getfield 9, 3) := by decide +kernel
theorem dX4_change_59 : decode cX4_change 59 = .ok (.iconst 2, 1) := by decide +kernel
theorem dX4_change_60 : decode cX4_change 60 = .ok (.iaload, 1) := by decide +kernel
theorem dX4_change_61 : decode cX4_change 61 = .ok (.iastore, 1) := by decide +kernel
theorem dX4_change_62 : decode cX4_change 62 = .ok (.aload_n 0, 1) := by decide +kernel
theorem dX4_change_63 : decode cX4_change 63 = .ok (.getfield 9, 3) := by decide +kernel
theorem dX4_change_66 : decode cX4_change 66 = .ok (.iconst 2, 1) := by decide +kernel
theorem dX4_change_67 : decode cX4_change 67 = .ok (.iload 4, 2) := by decide +kernel
theorem dX4_change_69 : decode cX4_change 69 = .ok (.iastore, 1) := by decide +kernel
theorem dX4_change_70 : decode cX4_change 70 = .ok (.iconst 1, 1) := by decide +kernel
theorem dX4_change_71 : decode cX4_change 71 = .ok (.ireturn, 1) := by decide +kernel
theorem dX4_turn_0 : decode cX4_turn 0 = .ok (.iload_n 1, 1) := by decide +kernel
theorem dX4_turn_1 : decode cX4_turn 1 = .ok (.iconst 1, 1) := by decide +kernel
theorem dX4_turn_2 : decode cX4_turn 2 = .ok (.iand, 1) := by decide +kernel
theorem dX4_turn_3 : decode cX4_turn 3 = .ok (.ifCond .eq 31, 3) := by decide +kernel
theorem dX4_turn_6 : decode cX4_turn 6 = .ok (.aload_n 0, 1) := by decide +kernel
theorem dX4_turn_7 : decode cX4_turn 7 = .ok (.iconst 2, 1) := by decide +kernel
theorem dX4_turn_8 : decode cX4_turn 8 = .ok (.aload_n 0, 1) := by decide +kernel
theorem dX4_turn_9 : decode cX4_turn 9 = .ok (.getfield 29, 3) := by decide +kernel
theorem dX4_turn_12 : decode cX4_turn 12 = .ok (.aload_n 0, 1) := by decide +kernel
theorem dX4_turn_13 : decode cX4_turn 13 = .ok (.getfield 15, 3) := by decide +kernel
theorem dX4_turn_16 : decode cX4_turn 16 = .ok (.invokestatic 66, 3) := by decide +kernel
theorem dX4_turn_19 : decode cX4_turn 19 = .ok (.iconst 2, 1) := by decide +kernel
theorem dX4_turn_20 : decode cX4_turn 20 = .ok (.aload_n 0, 1) := by decide +kernel
theorem dX4_turn_21 : decode cX4_turn 21 = .ok (.getfield 29, 3) := by decide +kernel
theorem dX4_turn_24 : decode cX4_turn 24 = .ok (.aload_n 0, 1) := by decide +kernel
theorem dX4_turn_25 : decode cX4_turn 25 = .ok (.getfield 15, 3) := by decide +kernel
theorem dX4_turn_28 : decode cX4_turn 28 = .ok (.invokestatic 70, 3) := by decide +kernel
theorem dX4_turn_31 : decode cX4_turn 31 = .ok (.invokevirtual 41, 3) := by decide +kernel
theorem dX4_turn_34 : decode cX4_turn 34 = .ok (.iconst 0, 1) := by decide +kernel
theorem dX4_turn_35 : decode cX4_turn 35 = .ok (.istore_n 2, 1) := by decide +kernel
theorem dX4_turn_36 : decode cX4_turn 36 = .ok (.iload_n 2, 1) := by decide +kernel
theorem dX4_turn_37 : decode cX4_turn 37 = .ok (.iload_n 1, 1) := by decide +kernel
theorem dX4_turn_38 : decode cX4_turn 38 = .ok (.iconst 3, 1) := by decide +kernel
theorem dX4_turn_39 : decode cX4_turn 39 = .ok (.iand, 1) := by decide +kernel
theorem dX4_turn_40 : decode cX4_turn 40 = .ok (.if_icmp .ge 59, 3) := by decide +kernel
theorem dX4_turn_43 : decode cX4_turn 43 = .ok (.aload_n 0, 1) := by decide +kernel
theorem dX4_turn_44 : decode cX4_turn 44 = .ok (.getfield 9, 3) := by decide +kernel
theorem dX4_turn_47 : decode cX4_turn 47 = .ok (.iconst 3, 1) := by decide +kernel
theorem dX4_turn_48 : decode cX4_turn 48 = .ok (.iaload, 1) := by decide +kernel
theorem dX4_turn_49 : decode cX4_turn 49 = .ok (.istore_n 3, 1) := by decide +kernel
theorem dX4_turn_50 : decode cX4_turn 50 = .ok (.aload_n 0, 1) := by decide +kernel
theorem dX4_turn_51 : decode cX4_turn 51 = .ok (.getfield 9, 3) := by decide +kernel
theorem dX4_turn_54 : decode cX4_turn 54 = .ok (.iconst 3, 1) := by decide +kernel
theorem dX4_turn_55 : decode cX4_turn 55 = .ok (.aload_n 0, 1) := by decide +kernel
theorem dX4_turn_56 : decode cX4_turn 56 = .ok (.getfield 9, 3) := by decide +kernel
theorem dX4_turn_59 : decode cX4_turn 59 = .ok (.iconst 2, 1) := by decide +kernel
theorem dX4_turn_60 : decode cX4_turn 60 = .ok (.iaload, 1) := by decide +kernel
theorem dX4_turn_61 : decode cX4_turn 61 = .ok (.iastore, 1) := by decide +kernel
theorem dX4_turn_62 : decode cX4_turn 62 = .ok (.aload_n 0, 1) := by decide +kernel
theorem dX4_turn_63 : decode cX4_turn 63 = .ok (.getfield 9, 3) := by decide +kernel
theorem dX4_turn_66 : decode cX4_turn 66 = .ok (.iconst 2, 1) := by decide +kernel
theorem dX4_turn_67 : decode cX4_turn 67 = .ok (.aload_n 0, 1) := by decide +kernel
theorem dX4_turn_68 : decode cX4_turn 68 = .ok (.getfield 9, 3) := by decide +kernel
theorem dX4_turn_71 : decode cX4_turn 71 = .ok (.iconst 1, 1) := by decide +kernel
theorem dX4_turn_72 : decode cX4_turn 72 = .ok (.iaload, 1) := by decide +kernel
theorem dX4_turn_73 : decode cX4_turn 73 = .ok (.iastore, 1) := by decide +kernel
theorem dX4_turn_74 : decode cX4_turn 74 = .ok (.aload_n 0, 1) := by decide +kernel
theorem dX4_turn_75 : decode cX4_turn 75 = .ok (.getfield 9, 3) := by decide +kernel
theorem dX4_turn_78 : decode cX4_turn 78 = .ok (.iconst 1, 1) := by decide +kernel
theorem dX4_turn_79 : decode cX4_turn 79 = .ok (.aload_n 0, 1) := by decide +kernel
theorem dX4_turn_80 : decode cX4_turn 80 = .ok (.getfield 9, 3) := by decide +kernel
theorem dX4_turn_83 : decode cX4_turn 83 = .ok (.iconst 0, 1) := by decide +kernel
theorem dX4_turn_84 : decode cX4_turn 84 = .ok (.iaload, 1) := by decide +kernel
theorem dX4_turn_85 : decode cX4_turn 85 = .ok (.iastore, 1) := by decide +kernel
theorem dX4_turn_86 : decode cX4_turn 86 = .ok (.aload_n 0, 1) := by decide +kernel
theorem dX4_turn_87 : decode cX4_turn 87 = .ok (.getfield 9, 3) := by decide +kernel
theorem dX4_turn_90 : decode cX4_turn 90 = .ok (.iconst 0, 1) := by decide +kernel
theorem dX4_turn_91 : decode cX4_turn 91 = .ok (.iload_n 3, 1) := by decide +kernel
theorem dX4_turn_92 : decode cX4_turn 92 = .ok (.iastore, 1) := by decide +kernel
theorem dX4_turn_93 : decode cX4_turn 93 = .ok (.iinc 2 1, 3) := by decide +kernel
theorem dX4_turn_96 : decode cX4_turn 96 = .ok (.goto (-60), 3) := by decide +kernel
theorem dX4_turn_99 : decode cX4_turn 99 = .ok (.return_, 1) := by decide +kernel
theorem dX4_join_0 : decode cX4_join 0 = .ok (.aload_n 0, 1) := by decide +kernel
theorem dX4_join_1 : decode cX4_join 1 = .ok (.getfield 29, 3) := by decide +kernel
theorem dX4_join_4 : decode cX4_join 4 = .ok (.lload_n 3, 1) := by decide +kernel
theorem dX4_join_5 : decode cX4_join 5 = .ok (.lmul, 1) := by decide +kernel
theorem dX4_join_6 : decode cX4_join 6 = .ok (.lload_n 1, 1) := by decide +kernel
theorem dX4_join_7 : decode cX4_join 7 = .ok (.aload_n 0, 1) := by decide +kernel
theorem dX4_join_8 : decode cX4_join 8 = .ok (.getfield 15, 3) := by decide +kernel
theorem dX4_join_11 : decode cX4_join 11 = .ok (.lmul, 1) := by decide +kernel
theorem dX4_join_12 : decode cX4_join 12 = .ok (.ladd, 1) := by decide +kernel
theorem dX4_join_13 : decode cX4_join 13 = .ok (.lstore 5, 2) := by decide +kernel
theorem dX4_join_15 : decode cX4_join 15 = .ok (.aload_n 0, 1) := by decide +kernel
theorem dX4_join_16 : decode cX4_join 16 = .ok (.getfield 15, 3) := by decide +kernel
theorem dX4_join_19 : decode cX4_join 19 = .ok (.lload_n 3, 1) := by decide +kernel
theorem dX4_join_20 : decode cX4_join 20 = .ok (.lmul, 1) := by decide +kernel
theorem dX4_join_21 : decode cX4_join 21 = .ok (.lstore 7, 2) := by decide +kernel
theorem dX4_join_23 : decode cX4_join 23 = .ok (.lload 5, 2) := by decide +kernel
theorem dX4_join_25 : decode cX4_join 25 = .ok (.invokestatic 73, 3) := by decide +kernel
theorem dX4_join_28 : decode cX4_join 28 = .ok (.lload 7, 2) := by decide +kernel
theorem dX4_join_30 : decode cX4_join 30 = .ok (.invokestatic 79, 3) := by decide +kernel
theorem dX4_join_33 : decode cX4_join 33 = .ok (.lstore 9, 2) := by decide +kernel
theorem dX4_join_35 : decode cX4_join 35 = .ok (.lload 7, 2) := by decide +kernel
theorem dX4_join_37 : decode cX4_join 37 = .ok (.lconst 0, 1) := by decide +kernel
theorem dX4_join_38 : decode cX4_join 38 = .ok (.lcmp, 1) := by decide +kernel
theorem dX4_join_39 : decode cX4_join 39 = .ok (.ifCond .eq 10, 3) := by decide +kernel
theorem dX4_join_42 : decode cX4_join 42 = .ok (.lload 9, 2) := by decide +kernel
theorem dX4_join_44 : decode cX4_join 44 = .ok (.lconst 0, 1) := by decide +kernel
theorem dX4_join_45 : decode cX4_join 45 = .ok (.lcmp, 1) := by decide +kernel
theorem dX4_join_46 : decode cX4_join 46 = .ok (.ifCond .ne 12, 3) := by decide +kernel
theorem dX4_join_49 : decode cX4_join 49 = .ok (.aload_n 0, 1) := by decide +kernel
theorem dX4_join_50 : decode cX4_join 50 = .ok (.lconst 1, 1) := by decide +kernel
theorem dX4_join_51 : decode cX4_join 51 = .ok (.lconst 0, 1) := by decide +kernel
theorem dX4_join_52 : decode cX4_join 52 = .ok (.invokevirtual 41, 3) := by decide +kernel
theorem dX4_join_55 : decode cX4_join 55 = .ok (.goto 17, 3) := by decide +kernel
theorem dX4_join_58 : decode cX4_join 58 = .ok (.aload_n 0, 1) := by decide +kernel
theorem dX4_join_59 : decode cX4_join 59 = .ok (.lload 5, 2) := by decide +kernel
theorem dX4_join_61 : decode cX4_join 61 = .ok (.lload 9, 2) := by decide +kernel
theorem dX4_join_63 : decode cX4_join 63 = .ok (.ldiv, 1) := by decide +kernel
theorem dX4_join_64 : decode cX4_join 64 = .ok (.lload 7, 2) := by decide +kernel
theorem dX4_join_66 : decode cX4_join 66 = .ok (.lload 9, 2) := by decide +kernel
theorem dX4_join_68 : decode cX4_join 68 = .ok (.ldiv, 1) := by decide +kernel
theorem dX4_join_69 : decode cX4_join 69 = .ok (.invokevirtual 41, 3) := by decide +kernel
theorem dX4_join_72 : decode cX4_join 72 = .ok (.return_, 1) := by decide +kernel
theorem dX4_turnOver_0 : decode cX4_turnOver 0 = .ok (.aload_n 0, 1) := by decide +kernel
theorem dX4_turnOver_1 : decode cX4_turnOver 1 = .ok (.getfield 29, 3) := by decide +kernel
theorem dX4_turnOver_4 : decode cX4_turnOver 4 = .ok (.lconst 0, 1) := by decide +kernel
theorem dX4_turnOver_5 : decode cX4_turnOver 5 = .ok (.lcmp, 1) := by decide +kernel
theorem dX4_turnOver_6 : decode cX4_turnOver 6 = .ok (.ifCond .ne 12, 3) := by decide +kernel
theorem dX4_turnOver_9 : decode cX4_turnOver 9 = .ok (.aload_n 0, 1) := by decide +kernel
theorem dX4_turnOver_10 : decode cX4_turnOver 10 = .ok (.lconst 1, 1) := by decide +kernel
theorem dX4_turnOver_11 : decode cX4_turnOver 11 = .ok (.lconst 0, 1) := by decide +kernel
theorem dX4_turnOver_12 : decode cX4_turnOver 12 = .ok (.invokevirtual 41, 3) := by decide +kernel
theorem dX4_turnOver_15 : decode cX4_turnOver 15 = .ok (.goto 35, 3) := by decide +kernel
theorem dX4_turnOver_18 : decode cX4_turnOver 18 = .ok (.aload_n 0, 1) := by decide +kernel
theorem dX4_turnOver_19 : decode cX4_turnOver 19 = .ok (.aload_n 0, 1) := by decide +kernel
theorem dX4_turnOver_20 : decode cX4_turnOver 20 = .ok (.getfield 29, 3) := by decide +kernel
theorem dX4_turnOver_23 : decode cX4_turnOver 23 = .ok (.lconst 0, 1) := by decide +kernel
theorem dX4_turnOver_24 : decode cX4_turnOver 24 = .ok (.lcmp, 1) := by decide +kernel
theorem dX4_turnOver_25 : decode cX4_turnOver 25 = .ok (.ifCond .ge 11, 3) := by decide +kernel
theorem dX4_turnOver_28 : decode cX4_turnOver 28 = .ok (.aload_n 0, 1) := by decide +kernel
theorem dX4_turnOver_29 : decode cX4_turnOver 29 = .ok (.getfield 15, 3) := by decide +kernel
theorem dX4_turnOver_32 : decode cX4_turnOver 32 = .ok (.lneg, 1) := by decide +kernel
theorem dX4_turnOver_33 : decode cX4_turnOver 33 = .ok (.goto 7, 3) := by decide +kernel
theorem dX4_turnOver_36 : decode cX4_turnOver 36 = .ok (.aload_n 0, 1) := by decide +kernel
theorem dX4_turnOver_37 : decode cX4_turnOver 37 = .ok (.getfield 15, 3) := by decide +kernel
theorem dX4_turnOver_40 : decode cX4_turnOver 40 = .ok (.aload_n 0, 1) := by decide +kernel
theorem dX4_turnOver_41 : decode cX4_turnOver 41 = .ok (.getfield 29, 3) := by decide +kernel
theorem dX4_turnOver_44 : decode cX4_turnOver 44 = .ok (.invokestatic 73, 3) := by decide +kernel
theorem dX4_turnOver_47 : decode cX4_turnOver 47 = .ok (.invokevirtual 41, 3) := by decide +kernel
theorem dX4_turnOver_50 : decode cX4_turnOver 50 = .ok (.return_, 1) := by decide +kernel
theorem dX4_draw_0 : decode cX4_draw 0 = .ok (.aload_n 0, 1) := by decide +kernel
theorem dX4_draw_1 : decode cX4_draw 1 = .ok (.aload_n 0, 1) := by decide +kernel
theorem dX4_draw_2 : decode cX4_draw 2 = .ok (.getfield 19, 3) := by decide +kernel
theorem dX4_draw_5 : decode cX4_draw 5 = .ok (.ldc 83, 2) := by decide +kernel
theorem dX4_draw_7 : decode cX4_draw 7 = .ok (.imul, 1) := by decide +kernel
theorem dX4_draw_8 : decode cX4_draw 8 = .ok (.sipush 12345, 3) := by decide +kernel
theorem dX4_draw_11 : decode cX4_draw 11 = .ok (.iadd, 1) := by decide +kernel
theorem dX4_draw_12 : decode cX4_draw 12 = .ok (.putfield 19, 3) := by decide +kernel
theorem dX4_draw_15 : decode cX4_draw 15 = .ok (.iload_n 1, 1) := by decide +kernel
theorem dX4_draw_16 : decode cX4_draw 16 = .ok (.ifCond .le 15, 3) := by decide +kernel
theorem dX4_draw_19 : decode cX4_draw 19 = .ok (.aload_n 0, 1) := by decide +kernel
theorem dX4_draw_20 : decode cX4_draw 20 = .ok (.getfield 19, 3) := by decide +kernel
theorem dX4_draw_23 : decode cX4_draw 23 = .ok (.bipush 16, 2) := by decide +kernel
theorem dX4_draw_25 : decode cX4_draw 25 = .ok (.iushr, 1) := by decide +kernel
theorem dX4_draw_26 : decode cX4_draw 26 = .ok (.iload_n 1, 1) := by decide +kernel
theorem dX4_draw_27 : decode cX4_draw 27 = .ok (.irem, 1) := by decide +kernel
theorem dX4_draw_28 : decode cX4_draw 28 = .ok (.goto 4, 3) := by decide +kernel
theorem dX4_draw_31 : decode cX4_draw 31 = .ok (.iconst 0, 1) := by decide +kernel
theorem dX4_draw_32 : decode cX4_draw 32 = .ok (.ireturn, 1) := by decide +kernel
theorem dX5_init_0 : decode cX5_init 0 = .ok (.aload_n 0, 1) := by decide +kernel
theorem dX5_init_1 : decode cX5_init 1 = .ok (.iload_n 1, 1) := by decide +kernel
theorem dX5_init_2 : decode cX5_init 2 = .ok (.iload_n 2, 1) := by decide +kernel
theorem dX5_init_3 : decode cX5_init 3 = .ok (.iload_n 3, 1) := by decide +kernel
theorem dX5_init_4 : decode cX5_init 4 = .ok (.iload 4, 2) := by decide +kernel
theorem dX5_init_6 : decode cX5_init 6 = .ok (.aload 5, 2) := by decide +kernel
theorem dX5_init_8 : decode cX5_init 8 = .ok (.invokespecial 1, 3) := by decide +kernel
theorem dX5_init_11 : decode cX5_init 11 = .ok (.return_, 1) := by decide +kernel
theorem dX5_more_0 : decode cX5_more 0 = .ok (.aload_n 0, 1) := by decide +kernel
theorem dX5_more_1 : decode cX5_more 1 = .ok (.getfield 7, 3) := by decide +kernel
theorem dX5_more_4 : decode cX5_more 4 = .ok (.ireturn, 1) := by decide +kernel
theorem dX5_steps_0 : decode cX5_steps 0 = .ok (.aload_n 0, 1) := by decide +kernel
theorem dX5_steps_1 : decode cX5_steps 1 = .ok (.bipush 40, 2) := by decide +kernel
theorem dX5_steps_3 : decode cX5_steps 3 = .ok (.invokevirtual 13, 3) := by decide +kernel
theorem dX5_steps_6 : decode cX5_steps 6 = .ok (.aload_n 0, 1) := by decide +kernel
theorem dX5_steps_7 : decode cX5_steps 7 = .ok (.iload_n 1, 1) := by decide +kernel
theorem dX5_steps_8 : decode cX5_steps 8 = .ok (.iconst 1, 1) := by decide +kernel
theorem dX5_steps_9 : decode cX5_steps 9 = .ok (.iadd, 1) := by decide +kernel
theorem dX5_steps_10 : decode cX5_steps 10 = .ok (.invokespecial 17, 3) := by decide +kernel
theorem dX5_steps_13 : decode cX5_steps 13 = .ok (.ireturn, 1) := by decide +kernel
theorem dX5_knots_0 : decode cX5_knots 0 = .ok (.aload_n 0, 1) := by decide +kernel
theorem dX5_knots_1 : decode cX5_knots 1 = .ok (.bipush 41, 2) := by decide +kernel
theorem dX5_knots_3 : decode cX5_knots 3 = .ok (.invokevirtual 13, 3) := by decide +kernel
theorem dX5_knots_6 : decode cX5_knots 6 = .ok (.aload_n 0, 1) := by decide +kernel
theorem dX5_knots_7 : decode cX5_knots 7 = .ok (.iload_n 1, 1) := by decide +kernel
theorem dX5_knots_8 : decode cX5_knots 8 = .ok (.invokespecial 21, 3) := by decide +kernel
theorem dX5_knots_11 : decode cX5_knots 11 = .ok (.aload_n 0, 1) := by decide +kernel
theorem dX5_knots_12 : decode cX5_knots 12 = .ok (.getfield 24, 3) := by decide +kernel
theorem dX5_knots_15 : decode cX5_knots 15 = .ok (.isub, 1) := by decide +kernel
theorem dX5_knots_16 : decode cX5_knots 16 = .ok (.ireturn, 1) := by decide +kernel
theorem dX6_init_0 : decode cX6_init 0 = .ok (.aload_n 0, 1) := by decide +kernel
theorem dX6_init_1 : decode cX6_init 1 = .ok (.iload_n 1, 1) := by decide +kernel
theorem dX6_init_2 : decode cX6_init 2 = .ok (.iload_n 2, 1) := by decide +kernel
theorem dX6_init_3 : decode cX6_init 3 = .ok (.iload_n 3, 1) := by decide +kernel
theorem dX6_init_4 : decode cX6_init 4 = .ok (.iload 4, 2) := by decide +kernel
theorem dX6_init_6 : decode cX6_init 6 = .ok (.aload 5, 2) := by decide +kernel
theorem dX6_init_8 : decode cX6_init 8 = .ok (.invokespecial 1, 3) := by decide +kernel
theorem dX6_init_11 : decode cX6_init 11 = .ok (.return_, 1) := by decide +kernel
theorem dX6_turns_0 : decode cX6_turns 0 = .ok (.aload_n 0, 1) := by decide +kernel
theorem dX6_turns_1 : decode cX6_turns 1 = .ok (.getfield 7, 3) := by decide +kernel
theorem dX6_turns_4 : decode cX6_turns 4 = .ok (.ireturn, 1) := by decide +kernel
theorem dX6_knots_0 : decode cX6_knots 0 = .ok (.aload_n 0, 1) := by decide +kernel
theorem dX6_knots_1 : decode cX6_knots 1 = .ok (.bipush 70, 2) := by decide +kernel
theorem dX6_knots_3 : decode cX6_knots 3 = .ok (.invokevirtual 13, 3) := by decide +kernel
theorem dX6_knots_6 : decode cX6_knots 6 = .ok (.aload_n 0, 1) := by decide +kernel
theorem dX6_knots_7 : decode cX6_knots 7 = .ok (.iload_n 1, 1) := by decide +kernel
theorem dX6_knots_8 : decode cX6_knots 8 = .ok (.invokespecial 17, 3) := by decide +kernel
theorem dX6_knots_11 : decode cX6_knots 11 = .ok (.iconst 5, 1) := by decide +kernel
theorem dX6_knots_12 : decode cX6_knots 12 = .ok (.ixor, 1) := by decide +kernel
theorem dX6_knots_13 : decode cX6_knots 13 = .ok (.ireturn, 1) := by decide +kernel
theorem dX6_steps_0 : decode cX6_steps 0 = .ok (.aload_n 0, 1) := by decide +kernel
theorem dX6_steps_1 : decode cX6_steps 1 = .ok (.bipush 71, 2) := by decide +kernel
theorem dX6_steps_3 : decode cX6_steps 3 = .ok (.invokevirtual 13, 3) := by decide +kernel
theorem dX6_steps_6 : decode cX6_steps 6 = .ok (.aload_n 0, 1) := by decide +kernel
theorem dX6_steps_7 : decode cX6_steps 7 = .ok (.iload_n 1, 1) := by decide +kernel
theorem dX6_steps_8 : decode cX6_steps 8 = .ok (.aload_n 0, 1) := by decide +kernel
theorem dX6_steps_9 : decode cX6_steps 9 = .ok (.getfield 7, 3) := by decide +kernel
theorem dX6_steps_12 : decode cX6_steps 12 = .ok (.isub, 1) := by decide +kernel
theorem dX6_steps_13 : decode cX6_steps 13 = .ok (.invokespecial 21, 3) := by decide +kernel
theorem dX6_steps_16 : decode cX6_steps 16 = .ok (.ireturn, 1) := by decide +kernel
theorem dX7_init_0 : decode cX7_init 0 = .ok (.aload_n 0, 1) := by decide +kernel
theorem dX7_init_1 : decode cX7_init 1 = .ok (.invokespecial 3, 3) := by decide +kernel
theorem dX7_init_4 : decode cX7_init 4 = .ok (.aload_n 0, 1) := by decide +kernel
theorem dX7_init_5 : decode cX7_init 5 = .ok (.bipush 40, 2) := by decide +kernel
theorem dX7_init_7 : decode cX7_init 7 = .ok (.newarray .long, 2) := by decide +kernel
theorem dX7_init_9 : decode cX7_init 9 = .ok (.putfield 9, 3) := by decide +kernel
theorem dX7_init_12 : decode cX7_init 12 = .ok (.aload_n 0, 1) := by decide +kernel
theorem dX7_init_13 : decode cX7_init 13 = .ok (.bipush 40, 2) := by decide +kernel
theorem dX7_init_15 : decode cX7_init 15 = .ok (.newarray .long, 2) := by decide +kernel
theorem dX7_init_17 : decode cX7_init 17 = .ok (.putfield 15, 3) := by decide +kernel
theorem dX7_init_20 : decode cX7_init 20 = .ok (.aload_n 0, 1) := by decide +kernel
theorem dX7_init_21 : decode cX7_init 21 = .ok (.iconst 3, 1) := by decide +kernel
theorem dX7_init_22 : decode cX7_init 22 = .ok (.newarray .int, 2) := by decide +kernel
theorem dX7_init_24 : decode cX7_init 24 = .ok (.putfield 18, 3) := by decide +kernel
theorem dX7_init_27 : decode cX7_init 27 = .ok (.aload_n 0, 1) := by decide +kernel
theorem dX7_init_28 : decode cX7_init 28 = .ok (.bipush 9, 2) := by decide +kernel
theorem dX7_init_30 : decode cX7_init 30 = .ok (.newarray .int, 2) := by decide +kernel
theorem dX7_init_32 : decode cX7_init 32 = .ok (.putfield 22, 3) := by decide +kernel
theorem dX7_init_35 : decode cX7_init 35 = .ok (.aload_n 0, 1) := by decide +kernel
theorem dX7_init_36 : decode cX7_init 36 = .ok (.bipush 9, 2) := by decide +kernel
theorem dX7_init_38 : decode cX7_init 38 = .ok (.newarray .int, 2) := by decide +kernel
theorem dX7_init_40 : decode cX7_init 40 = .ok (.putfield 25, 3) := by decide +kernel
theorem dX7_init_43 : decode cX7_init 43 = .ok (.return_, 1) := by decide +kernel
theorem dX7_open_0 : decode cX7_open 0 = .ok (.aload_n 0, 1) := by decide +kernel
theorem dX7_open_1 : decode cX7_open 1 = .ok (.getfield 18, 3) := by decide +kernel
theorem dX7_open_4 : decode cX7_open 4 = .ok (.iconst 0, 1) := by decide +kernel
theorem dX7_open_5 : decode cX7_open 5 = .ok (.iload_n 1, 1) := by decide +kernel
theorem dX7_open_6 : decode cX7_open 6 = .ok (.iastore, 1) := by decide +kernel
theorem dX7_open_7 : decode cX7_open 7 = .ok (.aload_n 0, 1) := by decide +kernel
theorem dX7_open_8 : decode cX7_open 8 = .ok (.getfield 18, 3) := by decide +kernel
theorem dX7_open_11 : decode cX7_open 11 = .ok (.iconst 1, 1) := by decide +kernel
theorem dX7_open_12 : decode cX7_open 12 = .ok (.iload_n 2, 1) := by decide +kernel
theorem dX7_open_13 : decode cX7_open 13 = .ok (.iastore, 1) := by decide +kernel
theorem dX7_open_14 : decode cX7_open 14 = .ok (.aload_n 0, 1) := by decide +kernel
theorem dX7_open_15 : decode cX7_open 15 = .ok (.getfield 18, 3) := by decide +kernel
theorem dX7_open_18 : decode cX7_open 18 = .ok (.iconst 2, 1) := by decide +kernel
theorem dX7_open_19 : decode cX7_open 19 = .ok (.iload_n 3, 1) := by decide +kernel
theorem dX7_open_20 : decode cX7_open 20 = .ok (.iastore, 1) := by decide +kernel
theorem dX7_open_21 : decode cX7_open 21 = .ok (.aload_n 0, 1) := by decide +kernel
theorem dX7_open_22 : decode cX7_open 22 = .ok (.iconst 0, 1) := by decide +kernel
theorem dX7_open_23 : decode cX7_open 23 = .ok (.putfield 28, 3) := by decide +kernel
theorem dX7_open_26 : decode cX7_open 26 = .ok (.aload_n 0, 1) := by decide +kernel
theorem dX7_open_27 : decode cX7_open 27 = .ok (.sipush 1000, 3) := by decide +kernel
theorem dX7_open_30 : decode cX7_open 30 = .ok (.putfield 32, 3) := by decide +kernel
theorem dX7_open_33 : decode cX7_open 33 = .ok (.aload_n 0, 1) := by decide +kernel
theorem dX7_open_34 : decode cX7_open 34 = .ok (.iconst (-1), 1) := by decide +kernel
theorem dX7_open_35 : decode cX7_open 35 = .ok (.putfield 35, 3) := by decide +kernel
theorem dX7_open_38 : decode cX7_open 38 = .ok (.return_, 1) := by decide +kernel
theorem dX7_add_0 : decode cX7_add 0 = .ok (.aload_n 0, 1) := by decide +kernel
theorem dX7_add_1 : decode cX7_add 1 = .ok (.getfield 28, 3) := by decide +kernel
theorem dX7_add_4 : decode cX7_add 4 = .ok (.iconst 4, 1) := by decide +kernel
theorem dX7_add_5 : decode cX7_add 5 = .ok (.if_icmp .ge 33, 3) := by decide +kernel
theorem dX7_add_8 : decode cX7_add 8 = .ok (.aload_n 0, 1) := by decide +kernel
theorem dX7_add_9 : decode cX7_add 9 = .ok (.getfield 9, 3) := by decide +kernel
theorem dX7_add_12 : decode cX7_add 12 = .ok (.aload_n 0, 1) := by decide +kernel
theorem dX7_add_13 : decode cX7_add 13 = .ok (.getfield 28, 3) := by decide +kernel
theorem dX7_add_16 : decode cX7_add 16 = .ok (.lload_n 1, 1) := by decide +kernel
theorem dX7_add_17 : decode cX7_add 17 = .ok (.lastore, 1) := by decide +kernel
theorem dX7_add_18 : decode cX7_add 18 = .ok (.aload_n 0, 1) := by decide +kernel
theorem dX7_add_19 : decode cX7_add 19 = .ok (.getfield 15, 3) := by decide +kernel
theorem dX7_add_22 : decode cX7_add 22 = .ok (.aload_n 0, 1) := by decide +kernel
theorem dX7_add_23 : decode cX7_add 23 = .ok (.getfield 28, 3) := by decide +kernel
theorem dX7_add_26 : decode cX7_add 26 = .ok (.lload_n 3, 1) := by decide +kernel
theorem dX7_add_27 : decode cX7_add 27 = .ok (.lastore, 1) := by decide +kernel
theorem dX7_add_28 : decode cX7_add 28 = .ok (.aload_n 0, 1) := by decide +kernel
theorem dX7_add_29 : decode cX7_add 29 = .ok (.dup, 1) := by decide +kernel
theorem dX7_add_30 : decode cX7_add 30 = .ok (.getfield 28, 3) := by decide +kernel
theorem dX7_add_33 : decode cX7_add 33 = .ok (.iconst 1, 1) := by decide +kernel
theorem dX7_add_34 : decode cX7_add 34 = .ok (.iadd, 1) := by decide +kernel
theorem dX7_add_35 : decode cX7_add 35 = .ok (.putfield 28, 3) := by decide +kernel
theorem dX7_add_38 : decode cX7_add 38 = .ok (.return_, 1) := by decide +kernel
theorem dX7_isFound_0 : decode cX7_isFound 0 = .ok (.aload_n 0, 1) := by decide +kernel
theorem dX7_isFound_1 : decode cX7_isFound 1 = .ok (.getfield 35, 3) := by decide +kernel
theorem dX7_isFound_4 : decode cX7_isFound 4 = .ok (.iconst (-1), 1) := by decide +kernel
theorem dX7_isFound_5 : decode cX7_isFound 5 = .ok (.if_icmp .eq 7, 3) := by decide +kernel
theorem dX7_isFound_8 : decode cX7_isFound 8 = .ok (.iconst 1, 1) := by decide +kernel
theorem dX7_isFound_9 : decode cX7_isFound 9 = .ok (.goto 4, 3) := by decide +kernel
theorem dX7_isFound_12 : decode cX7_isFound 12 = .ok (.iconst 0, 1) := by decide +kernel
theorem dX7_isFound_13 : decode cX7_isFound 13 = .ok (.ireturn, 1) := by decide +kernel
theorem dX7_find_0 : decode cX7_find 0 = .ok (.aload_n 0, 1) := by decide +kernel
theorem dX7_find_1 : decode cX7_find 1 = .ok (.iload_n 1, 1) := by decide +kernel
theorem dX7_find_2 : decode cX7_find 2 = .ok (.putfield 38, 3) := by decide +kernel
theorem dX7_find_5 : decode cX7_find 5 = .ok (.aload_n 0, 1) := by decide +kernel
theorem dX7_find_6 : decode cX7_find 6 = .ok (.lload_n 2, 1) := by decide +kernel
theorem dX7_find_7 : decode cX7_find 7 = .ok (.putfield 41, 3) := by decide +kernel
theorem dX7_find_10 : decode cX7_find 10 = .ok (.aload_n 0, 1) := by decide +kernel
theorem dX7_find_11 : decode cX7_find 11 = .ok (.lload 4, 2) := by decide +kernel
theorem dX7_find_13 : decode cX7_find 13 = .ok (.putfield 45, 3) := by decide +kernel
theorem dX7_find_16 : decode cX7_find 16 = .ok (.aload_n 0, 1) := by decide +kernel
theorem dX7_find_17 : decode cX7_find 17 = .ok (.iload 6, 2) := by decide +kernel
theorem dX7_find_19 : decode cX7_find 19 = .ok (.bipush 9, 2) := by decide +kernel
theorem dX7_find_21 : decode cX7_find 21 = .ok (.invokestatic 48, 3) := by decide +kernel
theorem dX7_find_24 : decode cX7_find 24 = .ok (.putfield 54, 3) := by decide +kernel
theorem dX7_find_27 : decode cX7_find 27 = .ok (.aload_n 0, 1) := by decide +kernel
theorem dX7_find_28 : decode cX7_find 28 = .ok (.iconst 0, 1) := by decide +kernel
theorem dX7_find_29 : decode cX7_find 29 = .ok (.iconst 0, 1) := by decide +kernel
theorem dX7_find_30 : decode cX7_find 30 = .ok (.invokevirtual 57, 3) := by decide +kernel
theorem dX7_find_33 : decode cX7_find 33 = .ok (.return_, 1) := by decide +kernel
theorem dX7_walk_0 : decode cX7_walk 0 = .ok (.iload_n 2, 1) := by decide +kernel
theorem dX7_walk_1 : decode cX7_walk 1 = .ok (.aload_n 0, 1) := by decide +kernel
theorem dX7_walk_2 : decode cX7_walk 2 = .ok (.getfield 32, 3) := by decide +kernel
theorem dX7_walk_5 : decode cX7_walk 5 = .ok (.if_icmp .gt 19, 3) := by decide +kernel
theorem dX7_walk_8 : decode cX7_walk 8 = .ok (.iload_n 2, 1) := by decide +kernel
theorem dX7_walk_9 : decode cX7_walk 9 = .ok (.aload_n 0, 1) := by decide +kernel
theorem dX7_walk_10 : decode cX7_walk 10 = .ok (.getfield 32, 3) := by decide +kernel
theorem dX7_walk_13 : decode cX7_walk 13 = .ok (.if_icmp .ne 12, 3) := by decide +kernel
theorem dX7_walk_16 : decode cX7_walk 16 = .ok (.iload_n 1, 1) := by decide +kernel
theorem dX7_walk_17 : decode cX7_walk 17 = .ok (.aload_n 0, 1) := by decide +kernel
theorem dX7_walk_18 : decode cX7_walk 18 = .ok (.getfield 35, 3) := by decide +kernel
theorem dX7_walk_21 : decode cX7_walk 21 = .ok (.if_icmp .lt 4, 3) := by decide +kernel
theorem dX7_walk_24 : decode cX7_walk 24 = .ok (.return_, 1) := by decide +kernel
theorem dX7_walk_25 : decode cX7_walk 25 = .ok (.aload_n 0, 1) := by decide +kernel
theorem dX7_walk_26 : decode cX7_walk 26 = .ok (.iload_n 1, 1) := by decide +kernel
theorem dX7_walk_27 : decode cX7_walk 27 = .ok (.invokevirtual 61, 3) := by decide +kernel
theorem dX7_walk_30 : decode cX7_walk 30 = .ok (.ifCond .eq 10, 3) := by decide +kernel
theorem dX7_walk_33 : decode cX7_walk 33 = .ok (.aload_n 0, 1) := by decide +kernel
theorem dX7_walk_34 : decode cX7_walk 34 = .ok (.iload_n 1, 1) := by decide +kernel
theorem dX7_walk_35 : decode cX7_walk 35 = .ok (.iload_n 2, 1) := by decide +kernel
theorem dX7_walk_36 : decode cX7_walk 36 = .ok (.invokevirtual 65, 3) := by decide +kernel
theorem dX7_walk_39 : decode cX7_walk 39 = .ok (.return_, 1) := by decide +kernel
theorem dX7_walk_40 : decode cX7_walk 40 = .ok (.iconst 0, 1) := by decide +kernel
theorem dX7_walk_41 : decode cX7_walk 41 = .ok (.istore_n 3, 1) := by decide +kernel
theorem dX7_walk_42 : decode cX7_walk 42 = .ok (.iload_n 3, 1) := by decide +kernel
theorem dX7_walk_43 : decode cX7_walk 43 = .ok (.iconst 2, 1) := by decide +kernel
theorem dX7_walk_44 : decode cX7_walk 44 = .ok (.if_icmp .gt 16, 3) := by decide +kernel
theorem dX7_walk_47 : decode cX7_walk 47 = .ok (.aload_n 0, 1) := by decide +kernel
theorem dX7_walk_48 : decode cX7_walk 48 = .ok (.iload_n 1, 1) := by decide +kernel
theorem dX7_walk_49 : decode cX7_walk 49 = .ok (.iload_n 2, 1) := by decide +kernel
theorem dX7_walk_50 : decode cX7_walk 50 = .ok (.iload_n 3, 1) := by decide +kernel
theorem dX7_walk_51 : decode cX7_walk 51 = .ok (.invokevirtual 68, 3) := by decide +kernel
theorem dX7_walk_54 : decode cX7_walk 54 = .ok (.iinc 3 1, 3) := by decide +kernel
theorem dX7_walk_57 : decode cX7_walk 57 = .ok (.goto (-15), 3) := by decide +kernel
theorem dX7_walk_60 : decode cX7_walk 60 = .ok (.return_, 1) := by decide +kernel
theorem dX7_walkOn_0 : decode cX7_walkOn 0 = .ok (.iload_n 1, 1) := by decide +kernel
theorem dX7_walkOn_1 : decode cX7_walkOn 1 = .ok (.aload_n 0, 1) := by decide +kernel
theorem dX7_walkOn_2 : decode cX7_walkOn 2 = .ok (.getfield 54, 3) := by decide +kernel
theorem dX7_walkOn_5 : decode cX7_walkOn 5 = .ok (.if_icmp .ge 49, 3) := by decide +kernel
theorem dX7_walkOn_8 : decode cX7_walkOn 8 = .ok (.iload_n 1, 1) := by decide +kernel
theorem dX7_walkOn_9 : decode cX7_walkOn 9 = .ok (.aload_n 0, 1) := by decide +kernel
theorem dX7_walkOn_10 : decode cX7_walkOn 10 = .ok (.getfield 22, 3) := by decide +kernel
theorem dX7_walkOn_13 : decode cX7_walkOn 13 = .ok (.arraylength, 1) := by decide +kernel
theorem dX7_walkOn_14 : decode cX7_walkOn 14 = .ok (.if_icmp .ge 40, 3) := by decide +kernel
theorem dX7_walkOn_17 : decode cX7_walkOn 17 = .ok (.aload_n 0, 1) := by decide +kernel
theorem dX7_walkOn_18 : decode cX7_walkOn 18 = .ok (.iload_n 1, 1) := by decide +kernel
theorem dX7_walkOn_19 : decode cX7_walkOn 19 = .ok (.iload_n 3, 1) := by decide +kernel
theorem dX7_walkOn_20 : decode cX7_walkOn 20 = .ok (.invokevirtual 72, 3) := by decide +kernel
theorem dX7_walkOn_23 : decode cX7_walkOn 23 = .ok (.ifCond .ne 31, 3) := by decide +kernel
theorem dX7_walkOn_26 : decode cX7_walkOn 26 = .ok (.aload_n 0, 1) := by decide +kernel
theorem dX7_walkOn_27 : decode cX7_walkOn 27 = .ok (.getfield 22, 3) := by decide +kernel
theorem dX7_walkOn_30 : decode cX7_walkOn 30 = .ok (.iload_n 1, 1) := by decide +kernel
theorem dX7_walkOn_31 : decode cX7_walkOn 31 = .ok (.iload_n 3, 1) := by decide +kernel
theorem dX7_walkOn_32 : decode cX7_walkOn 32 = .ok (.iastore, 1) := by decide +kernel
theorem dX7_walkOn_33 : decode cX7_walkOn 33 = .ok (.aload_n 0, 1) := by decide +kernel
theorem dX7_walkOn_34 : decode cX7_walkOn 34 = .ok (.iload_n 1, 1) := by decide +kernel
theorem dX7_walkOn_35 : decode cX7_walkOn 35 = .ok (.iload_n 3, 1) := by decide +kernel
theorem dX7_walkOn_36 : decode cX7_walkOn 36 = .ok (.invokevirtual 76, 3) := by decide +kernel
theorem dX7_walkOn_39 : decode cX7_walkOn 39 = .ok (.aload_n 0, 1) := by decide +kernel
theorem dX7_walkOn_40 : decode cX7_walkOn 40 = .ok (.iload_n 1, 1) := by decide +kernel
theorem dX7_walkOn_41 : decode cX7_walkOn 41 = .ok (.iconst 1, 1) := by decide +kernel
theorem dX7_walkOn_42 : decode cX7_walkOn 42 = .ok (.iadd, 1) := by decide +kernel
theorem dX7_walkOn_43 : decode cX7_walkOn 43 = .ok (.iload_n 2, 1) := by decide +kernel
theorem dX7_walkOn_44 : decode cX7_walkOn 44 = .ok (.aload_n 0, 1) := by decide +kernel
theorem dX7_walkOn_45 : decode cX7_walkOn 45 = .ok (.getfield 18, 3) := by decide +kernel
theorem dX7_walkOn_48 : decode cX7_walkOn 48 = .ok (.iload_n 3, 1) := by decide +kernel
theorem dX7_walkOn_49 : decode cX7_walkOn 49 = .ok (.iaload, 1) := by decide +kernel
theorem dX7_walkOn_50 : decode cX7_walkOn 50 = .ok (.iadd, 1) := by decide +kernel
theorem dX7_walkOn_51 : decode cX7_walkOn 51 = .ok (.invokevirtual 57, 3) := by decide +kernel
theorem dX7_walkOn_54 : decode cX7_walkOn 54 = .ok (.return_, 1) := by decide +kernel
theorem dX7_isUndone_0 : decode cX7_isUndone 0 = .ok (.iload_n 1, 1) := by decide +kernel
theorem dX7_isUndone_1 : decode cX7_isUndone 1 = .ok (.ifCond .le 12, 3) := by decide +kernel
theorem dX7_isUndone_4 : decode cX7_isUndone 4 = .ok (.iload_n 1, 1) := by decide +kernel
theorem dX7_isUndone_5 : decode cX7_isUndone 5 = .ok (.aload_n 0, 1) := by decide +kernel
theorem dX7_isUndone_6 : decode cX7_isUndone 6 = .ok (.getfield 22, 3) := by decide +kernel
theorem dX7_isUndone_9 : decode cX7_isUndone 9 = .ok (.arraylength, 1) := by decide +kernel
theorem dX7_isUndone_10 : decode cX7_isUndone 10 = .ok (.if_icmp .le 5, 3) := by decide +kernel
theorem dX7_isUndone_13 : decode cX7_isUndone 13 = .ok (.iconst 0, 1) := by decide +kernel
theorem dX7_isUndone_14 : decode cX7_isUndone 14 = .ok (.ireturn, 1) := by decide +kernel
theorem dX7_isUndone_15 : decode cX7_isUndone 15 = .ok (.aload_n 0, 1) := by decide +kernel
theorem dX7_isUndone_16 : decode cX7_isUndone 16 = .ok (.getfield 22, 3) := by decide +kernel
theorem dX7_isUndone_19 : decode cX7_isUndone 19 = .ok (.iload_n 1, 1) := by decide +kernel
theorem dX7_isUndone_20 : decode cX7_isUndone 20 = .ok (.iconst 1, 1) := by decide +kernel
theorem dX7_isUndone_21 : decode cX7_isUndone 21 = .ok (.isub, 1) := by decide +kernel
theorem dX7_isUndone_22 : decode cX7_isUndone 22 = .ok (.iaload, 1) := by decide +kernel
theorem dX7_isUndone_23 : decode cX7_isUndone 23 = .ok (.istore_n 3, 1) := by decide +kernel
theorem dX7_isUndone_24 : decode cX7_isUndone 24 = .ok (.iload_n 2, 1) := by decide +kernel
theorem dX7_isUndone_25 : decode cX7_isUndone 25 = .ok (.iconst 2, 1) := by decide +kernel
theorem dX7_isUndone_26 : decode cX7_isUndone 26 = .ok (.if_icmp .ne 16, 3) := by decide +kernel
theorem dX7_isUndone_29 : decode cX7_isUndone 29 = .ok (.iload_n 3, 1) := by decide +kernel
theorem dX7_isUndone_30 : decode cX7_isUndone 30 = .ok (.iconst 2, 1) := by decide +kernel
theorem dX7_isUndone_31 : decode cX7_isUndone 31 = .ok (.if_icmp .ne 7, 3) := by decide +kernel
theorem dX7_isUndone_34 : decode cX7_isUndone 34 = .ok (.iconst 1, 1) := by decide +kernel
theorem dX7_isUndone_35 : decode cX7_isUndone 35 = .ok (.goto 19, 3) := by decide +kernel
theorem dX7_isUndone_38 : decode cX7_isUndone 38 = .ok (.iconst 0, 1) := by decide +kernel
theorem dX7_isUndone_39 : decode cX7_isUndone 39 = .ok (.goto 15, 3) := by decide +kernel
theorem dX7_isUndone_42 : decode cX7_isUndone 42 = .ok (.iload_n 2, 1) := by decide +kernel
theorem dX7_isUndone_43 : decode cX7_isUndone 43 = .ok (.iload_n 3, 1) := by decide +kernel
theorem dX7_isUndone_44 : decode cX7_isUndone 44 = .ok (.iadd, 1) := by decide +kernel
theorem dX7_isUndone_45 : decode cX7_isUndone 45 = .ok (.iconst 1, 1) := by decide +kernel
theorem dX7_isUndone_46 : decode cX7_isUndone 46 = .ok (.if_icmp .ne 7, 3) := by decide +kernel
theorem dX7_isUndone_49 : decode cX7_isUndone 49 = .ok (.iconst 1, 1) := by decide +kernel
theorem dX7_isUndone_50 : decode cX7_isUndone 50 = .ok (.goto 4, 3) := by decide +kernel
theorem dX7_isUndone_53 : decode cX7_isUndone 53 = .ok (.iconst 0, 1) := by decide +kernel
theorem dX7_isUndone_54 : decode cX7_isUndone 54 = .ok (.ireturn, 1) := by decide +kernel
theorem dX7_isThere_0 : decode cX7_isThere 0 = .ok (.iload_n 1, 1) := by decide +kernel
theorem dX7_isThere_1 : decode cX7_isThere 1 = .ok (.iconst 4, 1) := by decide +kernel
theorem dX7_isThere_2 : decode cX7_isThere 2 = .ok (.imul, 1) := by decide +kernel
theorem dX7_isThere_3 : decode cX7_isThere 3 = .ok (.istore_n 2, 1) := by decide +kernel
theorem dX7_isThere_4 : decode cX7_isThere 4 = .ok (.iload_n 1, 1) := by decide +kernel
theorem dX7_isThere_5 : decode cX7_isThere 5 = .ok (.bipush 9, 2) := by decide +kernel
theorem dX7_isThere_7 : decode cX7_isThere 7 = .ok (.if_icmp .gt 7, 3) := by decide +kernel
theorem dX7_isThere_10 : decode cX7_isThere 10 = .ok (.iconst 1, 1) := by decide +kernel
theorem dX7_isThere_11 : decode cX7_isThere 11 = .ok (.goto 4, 3) := by decide +kernel
theorem dX7_isThere_14 : decode cX7_isThere 14 = .ok (.iconst 0, 1) := by decide +kernel
theorem dX7_isThere_15 : decode cX7_isThere 15 = .ok (.istore_n 3, 1) := by decide +kernel
theorem dX7_isThere_16 : decode cX7_isThere 16 = .ok (.iconst 0, 1) := by decide +kernel
theorem dX7_isThere_17 : decode cX7_isThere 17 = .ok (.istore 4, 2) := by decide +kernel
theorem dX7_isThere_19 : decode cX7_isThere 19 = .ok (.iload_n 3, 1) := by decide +kernel
theorem dX7_isThere_20 : decode cX7_isThere 20 = .ok (.ifCond .eq 84, 3) := by decide +kernel
theorem dX7_isThere_23 : decode cX7_isThere 23 = .ok (.iload 4, 2) := by decide +kernel
theorem dX7_isThere_25 : decode cX7_isThere 25 = .ok (.aload_n 0, 1) := by decide +kernel
theorem dX7_isThere_26 : decode cX7_isThere 26 = .ok (.getfield 28, 3) := by decide +kernel
theorem dX7_isThere_29 : decode cX7_isThere 29 = .ok (.if_icmp .ge 75, 3) := by decide +kernel
theorem dX7_isThere_32 : decode cX7_isThere 32 = .ok (.aload_n 0, 1) := by decide +kernel
theorem dX7_isThere_33 : decode cX7_isThere 33 = .ok (.getfield 9, 3) := by decide +kernel
theorem dX7_isThere_36 : decode cX7_isThere 36 = .ok (.iload_n 2, 1) := by decide +kernel
theorem dX7_isThere_37 : decode cX7_isThere 37 = .ok (.iload 4, 2) := by decide +kernel
theorem dX7_isThere_39 : decode cX7_isThere 39 = .ok (.iadd, 1) := by decide +kernel
theorem dX7_isThere_40 : decode cX7_isThere 40 = .ok (.laload, 1) := by decide +kernel
theorem dX7_isThere_41 : decode cX7_isThere 41 = .ok (.aload_n 0, 1) := by decide +kernel
theorem dX7_isThere_42 : decode cX7_isThere 42 = .ok (.getfield 41, 3) := by decide +kernel
theorem dX7_isThere_45 : decode cX7_isThere 45 = .ok (.lcmp, 1) := by decide +kernel
theorem dX7_isThere_46 : decode cX7_isThere 46 = .ok (.ifCond .ne 24, 3) := by decide +kernel
theorem dX7_isThere_49 : decode cX7_isThere 49 = .ok (.aload_n 0, 1) := by decide +kernel
theorem dX7_isThere_50 : decode cX7_isThere 50 = .ok (.getfield 15, 3) := by decide +kernel
theorem dX7_isThere_53 : decode cX7_isThere 53 = .ok (.iload_n 2, 1) := by decide +kernel
theorem dX7_isThere_54 : decode cX7_isThere 54 = .ok (.iload 4, 2) := by decide +kernel
theorem dX7_isThere_56 : decode cX7_isThere 56 = .ok (.iadd, 1) := by decide +kernel
theorem dX7_isThere_57 : decode cX7_isThere 57 = .ok (.laload, 1) := by decide +kernel
theorem dX7_isThere_58 : decode cX7_isThere 58 = .ok (.aload_n 0, 1) := by decide +kernel
theorem dX7_isThere_59 : decode cX7_isThere 59 = .ok (.getfield 45, 3) := by decide +kernel
theorem dX7_isThere_62 : decode cX7_isThere 62 = .ok (.lcmp, 1) := by decide +kernel
theorem dX7_isThere_63 : decode cX7_isThere 63 = .ok (.ifCond .ne 7, 3) := by decide +kernel
theorem dX7_isThere_66 : decode cX7_isThere 66 = .ok (.iconst 1, 1) := by decide +kernel
theorem dX7_isThere_67 : decode cX7_isThere 67 = .ok (.goto 4, 3) := by decide +kernel
theorem dX7_isThere_70 : decode cX7_isThere 70 = .ok (.iconst 0, 1) := by decide +kernel
theorem dX7_isThere_71 : decode cX7_isThere 71 = .ok (.istore 5, 2) := by decide +kernel
theorem dX7_isThere_73 : decode cX7_isThere 73 = .ok (.iload 5, 2) := by decide +kernel
theorem dX7_isThere_75 : decode cX7_isThere 75 = .ok (.iload 4, 2) := by decide +kernel
theorem dX7_isThere_77 : decode cX7_isThere 77 = .ok (.aload_n 0, 1) := by decide +kernel
theorem dX7_isThere_78 : decode cX7_isThere 78 = .ok (.getfield 38, 3) := by decide +kernel
theorem dX7_isThere_81 : decode cX7_isThere 81 = .ok (.if_icmp .ne 7, 3) := by decide +kernel
theorem dX7_isThere_84 : decode cX7_isThere 84 = .ok (.iconst 1, 1) := by decide +kernel
theorem dX7_isThere_85 : decode cX7_isThere 85 = .ok (.goto 4, 3) := by decide +kernel
theorem dX7_isThere_88 : decode cX7_isThere 88 = .ok (.iconst 0, 1) := by decide +kernel
theorem dX7_isThere_89 : decode cX7_isThere 89 = .ok (.if_icmp .ne 7, 3) := by decide +kernel
theorem dX7_isThere_92 : decode cX7_isThere 92 = .ok (.iconst 1, 1) := by decide +kernel
theorem dX7_isThere_93 : decode cX7_isThere 93 = .ok (.goto 4, 3) := by decide +kernel
theorem dX7_isThere_96 : decode cX7_isThere 96 = .ok (.iconst 0, 1) := by decide +kernel
theorem dX7_isThere_97 : decode cX7_isThere 97 = .ok (.istore_n 3, 1) := by decide +kernel
theorem dX7_isThere_98 : decode cX7_isThere 98 = .ok (.iinc 4 1, 3) := by decide +kernel
theorem dX7_isThere_101 : decode cX7_isThere 101 = .ok (.goto (-82), 3) := by decide +kernel
theorem dX7_isThere_104 : decode cX7_isThere 104 = .ok (.iload_n 3, 1) := by decide +kernel
theorem dX7_isThere_105 : decode cX7_isThere 105 = .ok (.ireturn, 1) := by decide +kernel
theorem dX7_stepAll_0 : decode cX7_stepAll 0 = .ok (.iload_n 1, 1) := by decide +kernel
theorem dX7_stepAll_1 : decode cX7_stepAll 1 = .ok (.iconst 4, 1) := by decide +kernel
theorem dX7_stepAll_2 : decode cX7_stepAll 2 = .ok (.imul, 1) := by decide +kernel
theorem dX7_stepAll_3 : decode cX7_stepAll 3 = .ok (.istore_n 3, 1) := by decide +kernel
theorem dX7_stepAll_4 : decode cX7_stepAll 4 = .ok (.iconst 0, 1) := by decide +kernel
theorem dX7_stepAll_5 : decode cX7_stepAll 5 = .ok (.istore 4, 2) := by decide +kernel
theorem dX7_stepAll_7 : decode cX7_stepAll 7 = .ok (.iload_n 1, 1) := by decide +kernel
theorem dX7_stepAll_8 : decode cX7_stepAll 8 = .ok (.bipush 9, 2) := by decide +kernel
theorem dX7_stepAll_10 : decode cX7_stepAll 10 = .ok (.if_icmp .ge 84, 3) := by decide +kernel
theorem dX7_stepAll_13 : decode cX7_stepAll 13 = .ok (.iload 4, 2) := by decide +kernel
theorem dX7_stepAll_15 : decode cX7_stepAll 15 = .ok (.aload_n 0, 1) := by decide +kernel
theorem dX7_stepAll_16 : decode cX7_stepAll 16 = .ok (.getfield 28, 3) := by decide +kernel
theorem dX7_stepAll_19 : decode cX7_stepAll 19 = .ok (.if_icmp .ge 75, 3) := by decide +kernel
theorem dX7_stepAll_22 : decode cX7_stepAll 22 = .ok (.aload_n 0, 1) := by decide +kernel
theorem dX7_stepAll_23 : decode cX7_stepAll 23 = .ok (.getfield 9, 3) := by decide +kernel
theorem dX7_stepAll_26 : decode cX7_stepAll 26 = .ok (.iload_n 3, 1) := by decide +kernel
theorem dX7_stepAll_27 : decode cX7_stepAll 27 = .ok (.iconst 4, 1) := by decide +kernel
theorem dX7_stepAll_28 : decode cX7_stepAll 28 = .ok (.iadd, 1) := by decide +kernel
theorem dX7_stepAll_29 : decode cX7_stepAll 29 = .ok (.iload 4, 2) := by decide +kernel
theorem dX7_stepAll_31 : decode cX7_stepAll 31 = .ok (.iadd, 1) := by decide +kernel
theorem dX7_stepAll_32 : decode cX7_stepAll 32 = .ok (.iload_n 2, 1) := by decide +kernel
theorem dX7_stepAll_33 : decode cX7_stepAll 33 = .ok (.aload_n 0, 1) := by decide +kernel
theorem dX7_stepAll_34 : decode cX7_stepAll 34 = .ok (.getfield 9, 3) := by decide +kernel
theorem dX7_stepAll_37 : decode cX7_stepAll 37 = .ok (.iload_n 3, 1) := by decide +kernel
theorem dX7_stepAll_38 : decode cX7_stepAll 38 = .ok (.iload 4, 2) := by decide +kernel
theorem dX7_stepAll_40 : decode cX7_stepAll 40 = .ok (.iadd, 1) := by decide +kernel
theorem dX7_stepAll_41 : decode cX7_stepAll 41 = .ok (.laload, 1) := by decide +kernel
theorem dX7_stepAll_42 : decode cX7_stepAll 42 = .ok (.aload_n 0, 1) := by decide +kernel
theorem dX7_stepAll_43 : decode cX7_stepAll 43 = .ok (.getfield 15, 3) := by decide +kernel
theorem dX7_stepAll_46 : decode cX7_stepAll 46 = .ok (.iload_n 3, 1) := by decide +kernel
theorem dX7_stepAll_47 : decode cX7_stepAll 47 = .ok (.iload 4, 2) := by decide +kernel
theorem dX7_stepAll_49 : decode cX7_stepAll 49 = .ok (.iadd, 1) := by decide +kernel
theorem dX7_stepAll_50 : decode cX7_stepAll 50 = .ok (.laload, 1) := by decide +kernel
theorem dX7_stepAll_51 : decode cX7_stepAll 51 = .ok (.invokestatic 79, 3) := by decide +kernel
theorem dX7_stepAll_54 : decode cX7_stepAll 54 = .ok (.lastore, 1) := by decide +kernel
theorem dX7_stepAll_55 : decode cX7_stepAll 55 = .ok (.aload_n 0, 1) := by decide +kernel
theorem dX7_stepAll_56 : decode cX7_stepAll 56 = .ok (.getfield 15, 3) := by decide +kernel
theorem dX7_stepAll_59 : decode cX7_stepAll 59 = .ok (.iload_n 3, 1) := by decide +kernel
theorem dX7_stepAll_60 : decode cX7_stepAll 60 = .ok (.iconst 4, 1) := by decide +kernel
theorem dX7_stepAll_61 : decode cX7_stepAll 61 = .ok (.iadd, 1) := by decide +kernel
theorem dX7_stepAll_62 : decode cX7_stepAll 62 = .ok (.iload 4, 2) := by decide +kernel
theorem dX7_stepAll_64 : decode cX7_stepAll 64 = .ok (.iadd, 1) := by decide +kernel
theorem dX7_stepAll_65 : decode cX7_stepAll 65 = .ok (.iload_n 2, 1) := by decide +kernel
theorem dX7_stepAll_66 : decode cX7_stepAll 66 = .ok (.aload_n 0, 1) := by decide +kernel
theorem dX7_stepAll_67 : decode cX7_stepAll 67 = .ok (.getfield 9, 3) := by decide +kernel
theorem dX7_stepAll_70 : decode cX7_stepAll 70 = .ok (.iload_n 3, 1) := by decide +kernel
theorem dX7_stepAll_71 : decode cX7_stepAll 71 = .ok (.iload 4, 2) := by decide +kernel
theorem dX7_stepAll_73 : decode cX7_stepAll 73 = .ok (.iadd, 1) := by decide +kernel
theorem dX7_stepAll_74 : decode cX7_stepAll 74 = .ok (.laload, 1) := by decide +kernel
theorem dX7_stepAll_75 : decode cX7_stepAll 75 = .ok (.aload_n 0, 1) := by decide +kernel
theorem dX7_stepAll_76 : decode cX7_stepAll 76 = .ok (.getfield 15, 3) := by decide +kernel
theorem dX7_stepAll_79 : decode cX7_stepAll 79 = .ok (.iload_n 3, 1) := by decide +kernel
theorem dX7_stepAll_80 : decode cX7_stepAll 80 = .ok (.iload 4, 2) := by decide +kernel
theorem dX7_stepAll_82 : decode cX7_stepAll 82 = .ok (.iadd, 1) := by decide +kernel
theorem dX7_stepAll_83 : decode cX7_stepAll 83 = .ok (.laload, 1) := by decide +kernel
theorem dX7_stepAll_84 : decode cX7_stepAll 84 = .ok (.invokestatic 83, 3) := by decide +kernel
theorem dX7_stepAll_87 : decode cX7_stepAll 87 = .ok (.lastore, 1) := by decide +kernel
theorem dX7_stepAll_88 : decode cX7_stepAll 88 = .ok (.iinc 4 1, 3) := by decide +kernel
theorem dX7_stepAll_91 : decode cX7_stepAll 91 = .ok (.goto (-84), 3) := by decide +kernel
theorem dX7_stepAll_94 : decode cX7_stepAll 94 = .ok (.return_, 1) := by decide +kernel
theorem dX7_keep_0 : decode cX7_keep 0 = .ok (.aload_n 0, 1) := by decide +kernel
theorem dX7_keep_1 : decode cX7_keep 1 = .ok (.iload_n 2, 1) := by decide +kernel
theorem dX7_keep_2 : decode cX7_keep 2 = .ok (.putfield 32, 3) := by decide +kernel
theorem dX7_keep_5 : decode cX7_keep 5 = .ok (.aload_n 0, 1) := by decide +kernel
theorem dX7_keep_6 : decode cX7_keep 6 = .ok (.iload_n 1, 1) := by decide +kernel
theorem dX7_keep_7 : decode cX7_keep 7 = .ok (.putfield 35, 3) := by decide +kernel
theorem dX7_keep_10 : decode cX7_keep 10 = .ok (.iload_n 1, 1) := by decide +kernel
theorem dX7_keep_11 : decode cX7_keep 11 = .ok (.aload_n 0, 1) := by decide +kernel
theorem dX7_keep_12 : decode cX7_keep 12 = .ok (.getfield 25, 3) := by decide +kernel
theorem dX7_keep_15 : decode cX7_keep 15 = .ok (.arraylength, 1) := by decide +kernel
theorem dX7_keep_16 : decode cX7_keep 16 = .ok (.if_icmp .gt 17, 3) := by decide +kernel
theorem dX7_keep_19 : decode cX7_keep 19 = .ok (.aload_n 0, 1) := by decide +kernel
theorem dX7_keep_20 : decode cX7_keep 20 = .ok (.getfield 22, 3) := by decide +kernel
theorem dX7_keep_23 : decode cX7_keep 23 = .ok (.iconst 0, 1) := by decide +kernel
theorem dX7_keep_24 : decode cX7_keep 24 = .ok (.aload_n 0, 1) := by decide +kernel
theorem dX7_keep_25 : decode cX7_keep 25 = .ok (.getfield 25, 3) := by decide +kernel
theorem dX7_keep_28 : decode cX7_keep 28 = .ok (.iconst 0, 1) := by decide +kernel
theorem dX7_keep_29 : decode cX7_keep 29 = .ok (.iload_n 1, 1) := by decide +kernel
theorem dX7_keep_30 : decode cX7_keep 30 = .ok (.invokestatic 86, 3) := by decide +kernel
theorem dX7_keep_33 : decode cX7_keep 33 = .ok (.return_, 1) := by decide +kernel
theorem dX8_init_0 : decode cX8_init 0 = .ok (.aload_n 0, 1) := by decide +kernel
theorem dX8_init_1 : decode cX8_init 1 = .ok (.invokespecial 3, 3) := by decide +kernel
theorem dX8_init_4 : decode cX8_init 4 = .ok (.aload_n 0, 1) := by decide +kernel
theorem dX8_init_5 : decode cX8_init 5 = .ok (.sipush 160, 3) := by decide +kernel
theorem dX8_init_8 : decode cX8_init 8 = .ok (.newarray .long, 2) := by decide +kernel
theorem dX8_init_10 : decode cX8_init 10 = .ok (.putfield 9, 3) := by decide +kernel
theorem dX8_init_13 : decode cX8_init 13 = .ok (.aload_n 0, 1) := by decide +kernel
theorem dX8_init_14 : decode cX8_init 14 = .ok (.iconst (-1), 1) := by decide +kernel
theorem dX8_init_15 : decode cX8_init 15 = .ok (.putfield 15, 3) := by decide +kernel
theorem dX8_init_18 : decode cX8_init 18 = .ok (.aload_n 0, 1) := by decide +kernel
theorem dX8_init_19 : decode cX8_init 19 = .ok (.iconst (-1), 1) := by decide +kernel
theorem dX8_init_20 : decode cX8_init 20 = .ok (.putfield 19, 3) := by decide +kernel
theorem dX8_init_23 : decode cX8_init 23 = .ok (.aload_n 0, 1) := by decide +kernel
theorem dX8_init_24 : decode cX8_init 24 = .ok (.iconst (-1), 1) := by decide +kernel
theorem dX8_init_25 : decode cX8_init 25 = .ok (.putfield 22, 3) := by decide +kernel
theorem dX8_init_28 : decode cX8_init 28 = .ok (.return_, 1) := by decide +kernel
theorem dX8_isRow_0 : decode cX8_isRow 0 = .ok (.aload_n 0, 1) := by decide +kernel
theorem dX8_isRow_1 : decode cX8_isRow 1 = .ok (.getfield 15, 3) := by decide +kernel
theorem dX8_isRow_4 : decode cX8_isRow 4 = .ok (.iconst (-1), 1) := by decide +kernel
theorem dX8_isRow_5 : decode cX8_isRow 5 = .ok (.if_icmp .eq 7, 3) := by decide +kernel
theorem dX8_isRow_8 : decode cX8_isRow 8 = .ok (.iconst 1, 1) := by decide +kernel
theorem dX8_isRow_9 : decode cX8_isRow 9 = .ok (.goto 4, 3) := by decide +kernel
theorem dX8_isRow_12 : decode cX8_isRow 12 = .ok (.iconst 0, 1) := by decide +kernel
theorem dX8_isRow_13 : decode cX8_isRow 13 = .ok (.ireturn, 1) := by decide +kernel
theorem dX8_takeRow_0 : decode cX8_takeRow 0 = .ok (.aload_n 0, 1) := by decide +kernel
theorem dX8_takeRow_1 : decode cX8_takeRow 1 = .ok (.iload_n 1, 1) := by decide +kernel
theorem dX8_takeRow_2 : decode cX8_takeRow 2 = .ok (.putfield 15, 3) := by decide +kernel
theorem dX8_takeRow_5 : decode cX8_takeRow 5 = .ok (.aload_n 0, 1) := by decide +kernel
theorem dX8_takeRow_6 : decode cX8_takeRow 6 = .ok (.iload_n 2, 1) := by decide +kernel
theorem dX8_takeRow_7 : decode cX8_takeRow 7 = .ok (.putfield 25, 3) := by decide +kernel
theorem dX8_takeRow_10 : decode cX8_takeRow 10 = .ok (.aload_n 0, 1) := by decide +kernel
theorem dX8_takeRow_11 : decode cX8_takeRow 11 = .ok (.iconst (-1), 1) := by decide +kernel
theorem dX8_takeRow_12 : decode cX8_takeRow 12 = .ok (.putfield 19, 3) := by decide +kernel
theorem dX8_takeRow_15 : decode cX8_takeRow 15 = .ok (.aload_n 0, 1) := by decide +kernel
theorem dX8_takeRow_16 : decode cX8_takeRow 16 = .ok (.getfield 9, 3) := by decide +kernel
theorem dX8_takeRow_19 : decode cX8_takeRow 19 = .ok (.lconst 0, 1) := by decide +kernel
theorem dX8_takeRow_20 : decode cX8_takeRow 20 = .ok (.invokestatic 28, 3) := by decide +kernel
theorem dX8_takeRow_23 : decode cX8_takeRow 23 = .ok (.return_, 1) := by decide +kernel
theorem dX8_takeFigure_0 : decode cX8_takeFigure 0 = .ok (.aload_n 0, 1) := by decide +kernel
theorem dX8_takeFigure_1 : decode cX8_takeFigure 1 = .ok (.iconst (-1), 1) := by decide +kernel
theorem dX8_takeFigure_2 : decode cX8_takeFigure 2 = .ok (.putfield 15, 3) := by decide +kernel
theorem dX8_takeFigure_5 : decode cX8_takeFigure 5 = .ok (.aload_n 0, 1) := by decide +kernel
theorem dX8_takeFigure_6 : decode cX8_takeFigure 6 = .ok (.iconst 0, 1) := by decide +kernel
theorem dX8_takeFigure_7 : decode cX8_takeFigure 7 = .ok (.putfield 25, 3) := by decide +kernel
theorem dX8_takeFigure_10 : decode cX8_takeFigure 10 = .ok (.aload_n 0, 1) := by decide +kernel
theorem dX8_takeFigure_11 : decode cX8_takeFigure 11 = .ok (.iload_n 1, 1) := by decide +kernel
theorem dX8_takeFigure_12 : decode cX8_takeFigure 12 = .ok (.putfield 19, 3) := by decide +kernel
theorem dX8_takeFigure_15 : decode cX8_takeFigure 15 = .ok (.return_, 1) := by decide +kernel
theorem dX8_hasPlace_0 : decode cX8_hasPlace 0 = .ok (.iload_n 1, 1) := by decide +kernel
theorem dX8_hasPlace_1 : decode cX8_hasPlace 1 = .ok (.ifCond .lt 24, 3) := by decide +kernel
theorem dX8_hasPlace_4 : decode cX8_hasPlace 4 = .ok (.iload_n 1, 1) := by decide +kernel
theorem dX8_hasPlace_5 : decode cX8_hasPlace 5 = .ok (.aload_n 0, 1) := by decide +kernel
theorem dX8_hasPlace_6 : decode cX8_hasPlace 6 = .ok (.getfield 25, 3) := by decide +kernel
theorem dX8_hasPlace_9 : decode cX8_hasPlace 9 = .ok (.if_icmp .ge 16, 3) := by decide +kernel
theorem dX8_hasPlace_12 : decode cX8_hasPlace 12 = .ok (.iload_n 1, 1) := by decide +kernel
theorem dX8_hasPlace_13 : decode cX8_hasPlace 13 = .ok (.aload_n 0, 1) := by decide +kernel
theorem dX8_hasPlace_14 : decode cX8_hasPlace 14 = .ok (.getfield 9, 3) := by decide +kernel
theorem dX8_hasPlace_17 : decode cX8_hasPlace 17 = .ok (.arraylength, 1) := by decide +kernel
theorem dX8_hasPlace_18 : decode cX8_hasPlace 18 = .ok (.if_icmp .ge 7, 3) := by decide +kernel
theorem dX8_hasPlace_21 : decode cX8_hasPlace 21 = .ok (.iconst 1, 1) := by decide +kernel
theorem dX8_hasPlace_22 : decode cX8_hasPlace 22 = .ok (.goto 4, 3) := by decide +kernel
theorem dX8_hasPlace_25 : decode cX8_hasPlace 25 = .ok (.iconst 0, 1) := by decide +kernel
theorem dX8_hasPlace_26 : decode cX8_hasPlace 26 = .ok (.ireturn, 1) := by decide +kernel
theorem dX8_hasPart_0 : decode cX8_hasPart 0 = .ok (.iload_n 1, 1) := by decide +kernel
theorem dX8_hasPart_1 : decode cX8_hasPart 1 = .ok (.ifCond .lt 25, 3) := by decide +kernel
theorem dX8_hasPart_4 : decode cX8_hasPart 4 = .ok (.iload_n 2, 1) := by decide +kernel
theorem dX8_hasPart_5 : decode cX8_hasPart 5 = .ok (.ifCond .lt 21, 3) := by decide +kernel
theorem dX8_hasPart_8 : decode cX8_hasPart 8 = .ok (.iload_n 1, 1) := by decide +kernel
theorem dX8_hasPart_9 : decode cX8_hasPart 9 = .ok (.i2l, 1) := by decide +kernel
theorem dX8_hasPart_10 : decode cX8_hasPart 10 = .ok (.iload_n 2, 1) := by decide +kernel
theorem dX8_hasPart_11 : decode cX8_hasPart 11 = .ok (.i2l, 1) := by decide +kernel
theorem dX8_hasPart_12 : decode cX8_hasPart 12 = .ok (.ladd, 1) := by decide +kernel
theorem dX8_hasPart_13 : decode cX8_hasPart 13 = .ok (.aload_n 0, 1) := by decide +kernel
theorem dX8_hasPart_14 : decode cX8_hasPart 14 = .ok (.getfield 25, 3) := by decide +kernel
theorem dX8_hasPart_17 : decode cX8_hasPart 17 = .ok (.i2l, 1) := by decide +kernel
theorem dX8_hasPart_18 : decode cX8_hasPart 18 = .ok (.lcmp, 1) := by decide +kernel
theorem dX8_hasPart_19 : decode cX8_hasPart 19 = .ok (.ifCond .gt 7, 3) := by decide +kernel
theorem dX8_hasPart_22 : decode cX8_hasPart 22 = .ok (.iconst 1, 1) := by decide +kernel
theorem dX8_hasPart_23 : decode cX8_hasPart 23 = .ok (.goto 4, 3) := by decide +kernel
theorem dX8_hasPart_26 : decode cX8_hasPart 26 = .ok (.iconst 0, 1) := by decide +kernel
theorem dX8_hasPart_27 : decode cX8_hasPart 27 = .ok (.ireturn, 1) := by decide +kernel
theorem dX8_whole_0 : decode cX8_whole 0 = .ok (.aload_n 0, 1) := by decide +kernel
theorem dX8_whole_1 : decode cX8_whole 1 = .ok (.iload_n 1, 1) := by decide +kernel
theorem dX8_whole_2 : decode cX8_whole 2 = .ok (.invokevirtual 34, 3) := by decide +kernel
theorem dX8_whole_5 : decode cX8_whole 5 = .ok (.ifCond .eq 12, 3) := by decide +kernel
theorem dX8_whole_8 : decode cX8_whole 8 = .ok (.aload_n 0, 1) := by decide +kernel
theorem dX8_whole_9 : decode cX8_whole 9 = .ok (.getfield 9, 3) := by decide +kernel
theorem dX8_whole_12 : decode cX8_whole 12 = .ok (.iload_n 1, 1) := by decide +kernel
theorem dX8_whole_13 : decode cX8_whole 13 = .ok (.laload, 1) := by decide +kernel
theorem dX8_whole_14 : decode cX8_whole 14 = .ok (.goto 4, 3) := by decide +kernel
theorem dX8_whole_17 : decode cX8_whole 17 = .ok (.lconst 0, 1) := by decide +kernel
theorem dX8_whole_18 : decode cX8_whole 18 = .ok (.lreturn, 1) := by decide +kernel
theorem dX8_asInt_0 : decode cX8_asInt 0 = .ok (.iload_n 1, 1) := by decide +kernel
theorem dX8_asInt_1 : decode cX8_asInt 1 = .ok (.ifCond .lt 30, 3) := by decide +kernel
theorem dX8_asInt_4 : decode cX8_asInt 4 = .ok (.iload_n 1, 1) := by decide +kernel
theorem dX8_asInt_5 : decode cX8_asInt 5 = .ok (.aload_n 0, 1) := by decide +kernel
theorem dX8_asInt_6 : decode cX8_asInt 6 = .ok (.getfield 25, 3) := by decide +kernel
theorem dX8_asInt_9 : decode cX8_asInt 9 = .ok (.if_icmp .ge 22, 3) := by decide +kernel
theorem dX8_asInt_12 : decode cX8_asInt 12 = .ok (.iload_n 1, 1) := by decide +kernel
theorem dX8_asInt_13 : decode cX8_asInt 13 = .ok (.aload_n 0, 1) := by decide +kernel
theorem dX8_asInt_14 : decode cX8_asInt 14 = .ok (.getfield 9, 3) := by decide +kernel
theorem dX8_asInt_17 : decode cX8_asInt 17 = .ok (.arraylength, 1) := by decide +kernel
theorem dX8_asInt_18 : decode cX8_asInt 18 = .ok (.if_icmp .ge 13, 3) := by decide +kernel
theorem dX8_asInt_21 : decode cX8_asInt 21 = .ok (.aload_n 0, 1) := by decide +kernel
theorem dX8_asInt_22 : decode cX8_asInt 22 = .ok (.getfield 9, 3) := by decide +kernel
theorem dX8_asInt_25 : decode cX8_asInt 25 = .ok (.iload_n 1, 1) := by decide +kernel
theorem dX8_asInt_26 : decode cX8_asInt 26 = .ok (.laload, 1) := by decide +kernel
theorem dX8_asInt_27 : decode cX8_asInt 27 = .ok (.l2i, 1) := by decide +kernel
theorem dX8_asInt_28 : decode cX8_asInt 28 = .ok (.goto 4, 3) := by decide +kernel
theorem dX8_asInt_31 : decode cX8_asInt 31 = .ok (.iconst 0, 1) := by decide +kernel
theorem dX8_asInt_32 : decode cX8_asInt 32 = .ok (.ireturn, 1) := by decide +kernel
theorem dX8_put_0 : decode cX8_put 0 = .ok (.aload_n 0, 1) := by decide +kernel
theorem dX8_put_1 : decode cX8_put 1 = .ok (.iload_n 1, 1) := by decide +kernel
theorem dX8_put_2 : decode cX8_put 2 = .ok (.invokevirtual 34, 3) := by decide +kernel
theorem dX8_put_5 : decode cX8_put 5 = .ok (.ifCond .eq 14, 3) := by decide +kernel
theorem dX8_put_8 : decode cX8_put 8 = .ok (.aload_n 0, 1) := by decide +kernel
theorem dX8_put_9 : decode cX8_put 9 = .ok (.getfield 9, 3) := by decide +kernel
theorem dX8_put_12 : decode cX8_put 12 = .ok (.iload_n 1, 1) := by decide +kernel
theorem dX8_put_13 : decode cX8_put 13 = .ok (.aload_n 0, 1) := by decide +kernel
theorem dX8_put_14 : decode cX8_put 14 = .ok (.lload_n 2, 1) := by decide +kernel
theorem dX8_put_15 : decode cX8_put 15 = .ok (.invokevirtual 38, 3) := by decide +kernel
theorem dX8_put_18 : decode cX8_put 18 = .ok (.lastore, 1) := by decide +kernel
theorem dX8_put_19 : decode cX8_put 19 = .ok (.return_, 1) := by decide +kernel
theorem dX8_cut_0 : decode cX8_cut 0 = .ok (.aload_n 0, 1) := by decide +kernel
theorem dX8_cut_1 : decode cX8_cut 1 = .ok (.getfield 15, 3) := by decide +kernel
theorem dX8_cut_4 : decode cX8_cut 4 = .ok (.tableswitch 42 0 2 #[28, 33, 38], 28) := by decide +kernel
theorem dX8_cut_32 : decode cX8_cut 32 = .ok (.lload_n 1, 1) := by decide +kernel
theorem dX8_cut_33 : decode cX8_cut 33 = .ok (.l2i, 1) := by decide +kernel
theorem dX8_cut_34 : decode cX8_cut 34 = .ok (.i2b, 1) := by decide +kernel
theorem dX8_cut_35 : decode cX8_cut 35 = .ok (.i2l, 1) := by decide +kernel
theorem dX8_cut_36 : decode cX8_cut 36 = .ok (.lreturn, 1) := by decide +kernel
theorem dX8_cut_37 : decode cX8_cut 37 = .ok (.lload_n 1, 1) := by decide +kernel
theorem dX8_cut_38 : decode cX8_cut 38 = .ok (.l2i, 1) := by decide +kernel
theorem dX8_cut_39 : decode cX8_cut 39 = .ok (.i2s, 1) := by decide +kernel
theorem dX8_cut_40 : decode cX8_cut 40 = .ok (.i2l, 1) := by decide +kernel
theorem dX8_cut_41 : decode cX8_cut 41 = .ok (.lreturn, 1) := by decide +kernel
theorem dX8_cut_42 : decode cX8_cut 42 = .ok (.lload_n 1, 1) := by decide +kernel
theorem dX8_cut_43 : decode cX8_cut 43 = .ok (.l2i, 1) := by decide +kernel
theorem dX8_cut_44 : decode cX8_cut 44 = .ok (.i2l, 1) := by decide +kernel
theorem dX8_cut_45 : decode cX8_cut 45 = .ok (.lreturn, 1) := by decide +kernel
theorem dX8_cut_46 : decode cX8_cut 46 = .ok (.lload_n 1, 1) := by decide +kernel
theorem dX8_cut_47 : decode cX8_cut 47 = .ok (.lreturn, 1) := by decide +kernel
theorem dX8_open_0 : decode cX8_open 0 = .ok (.aload_n 0, 1) := by decide +kernel
theorem dX8_open_1 : decode cX8_open 1 = .ok (.iconst 0, 1) := by decide +kernel
theorem dX8_open_2 : decode cX8_open 2 = .ok (.putfield 42, 3) := by decide +kernel
theorem dX8_open_5 : decode cX8_open 5 = .ok (.aload_n 0, 1) := by decide +kernel
theorem dX8_open_6 : decode cX8_open 6 = .ok (.iconst (-1), 1) := by decide +kernel
theorem dX8_open_7 : decode cX8_open 7 = .ok (.putfield 22, 3) := by decide +kernel
theorem dX8_open_10 : decode cX8_open 10 = .ok (.return_, 1) := by decide +kernel
theorem dX8_isRead_0 : decode cX8_isRead 0 = .ok (.aload_n 0, 1) := by decide +kernel
theorem dX8_isRead_1 : decode cX8_isRead 1 = .ok (.getfield 42, 3) := by decide +kernel
theorem dX8_isRead_4 : decode cX8_isRead 4 = .ok (.aload_n 0, 1) := by decide +kernel
theorem dX8_isRead_5 : decode cX8_isRead 5 = .ok (.getfield 25, 3) := by decide +kernel
theorem dX8_isRead_8 : decode cX8_isRead 8 = .ok (.if_icmp .lt 7, 3) := by decide +kernel
theorem dX8_isRead_11 : decode cX8_isRead 11 = .ok (.iconst 1, 1) := by decide +kernel
theorem dX8_isRead_12 : decode cX8_isRead 12 = .ok (.goto 4, 3) := by decide +kernel
theorem dX8_isRead_15 : decode cX8_isRead 15 = .ok (.iconst 0, 1) := by decide +kernel
theorem dX8_isRead_16 : decode cX8_isRead 16 = .ok (.ireturn, 1) := by decide +kernel
theorem dX8_fits_0 : decode cX8_fits 0 = .ok (.iload_n 2, 1) := by decide +kernel
theorem dX8_fits_1 : decode cX8_fits 1 = .ok (.ifCond .ne 8, 3) := by decide +kernel
theorem dX8_fits_4 : decode cX8_fits 4 = .ok (.aload_n 0, 1) := by decide +kernel
theorem dX8_fits_5 : decode cX8_fits 5 = .ok (.iload_n 1, 1) := by decide +kernel
theorem dX8_fits_6 : decode cX8_fits 6 = .ok (.putfield 22, 3) := by decide +kernel
theorem dX8_fits_9 : decode cX8_fits 9 = .ok (.iload_n 2, 1) := by decide +kernel
theorem dX8_fits_10 : decode cX8_fits 10 = .ok (.ireturn, 1) := by decide +kernel
theorem dX8_reads_0 : decode cX8_reads 0 = .ok (.aload_n 0, 1) := by decide +kernel
theorem dX8_reads_1 : decode cX8_reads 1 = .ok (.aload_n 0, 1) := by decide +kernel
theorem dX8_reads_2 : decode cX8_reads 2 = .ok (.getfield 42, 3) := by decide +kernel
theorem dX8_reads_5 : decode cX8_reads 5 = .ok (.aload_n 0, 1) := by decide +kernel
theorem dX8_reads_6 : decode cX8_reads 6 = .ok (.invokevirtual 45, 3) := by decide +kernel
theorem dX8_reads_9 : decode cX8_reads 9 = .ok (.ifCond .ne 19, 3) := by decide +kernel
theorem dX8_reads_12 : decode cX8_reads 12 = .ok (.aload_n 0, 1) := by decide +kernel
theorem dX8_reads_13 : decode cX8_reads 13 = .ok (.aload_n 0, 1) := by decide +kernel
theorem dX8_reads_14 : decode cX8_reads 14 = .ok (.getfield 42, 3) := by decide +kernel
theorem dX8_reads_17 : decode cX8_reads 17 = .ok (.invokevirtual 49, 3) := by decide +kernel
theorem dX8_reads_20 : decode cX8_reads 20 = .ok (.iload_n 1, 1) := by decide +kernel
theorem dX8_reads_21 : decode cX8_reads 21 = .ok (.if_icmp .ne 7, 3) := by decide +kernel
theorem dX8_reads_24 : decode cX8_reads 24 = .ok (.iconst 1, 1) := by decide +kernel
theorem dX8_reads_25 : decode cX8_reads 25 = .ok (.goto 4, 3) := by decide +kernel
theorem dX8_reads_28 : decode cX8_reads 28 = .ok (.iconst 0, 1) := by decide +kernel
theorem dX8_reads_29 : decode cX8_reads 29 = .ok (.invokevirtual 53, 3) := by decide +kernel
theorem dX8_reads_32 : decode cX8_reads 32 = .ok (.ifCond .ne 5, 3) := by decide +kernel
theorem dX8_reads_35 : decode cX8_reads 35 = .ok (.iconst 0, 1) := by decide +kernel
theorem dX8_reads_36 : decode cX8_reads 36 = .ok (.ireturn, 1) := by decide +kernel
theorem dX8_reads_37 : decode cX8_reads 37 = .ok (.aload_n 0, 1) := by decide +kernel
theorem dX8_reads_38 : decode cX8_reads 38 = .ok (.dup, 1) := by decide +kernel
theorem dX8_reads_39 : decode cX8_reads 39 = .ok (.getfield 42, 3) := by decide +kernel
theorem dX8_reads_42 : decode cX8_reads 42 = .ok (.iconst 1, 1) := by decide +kernel
theorem dX8_reads_43 : decode cX8_reads 43 = .ok (.iadd, 1) := by decide +kernel
theorem dX8_reads_44 : decode cX8_reads 44 = .ok (.putfield 42, 3) := by decide +kernel
theorem dX8_reads_47 : decode cX8_reads 47 = .ok (.iconst 1, 1) := by decide +kernel
theorem dX8_reads_48 : decode cX8_reads 48 = .ok (.ireturn, 1) := by decide +kernel
theorem dX8_readsWord_0 : decode cX8_readsWord 0 = .ok (.iconst 0, 1) := by decide +kernel
theorem dX8_readsWord_1 : decode cX8_readsWord 1 = .ok (.istore_n 2, 1) := by decide +kernel
theorem dX8_readsWord_2 : decode cX8_readsWord 2 = .ok (.iload_n 2, 1) := by decide +kernel
theorem dX8_readsWord_3 : decode cX8_readsWord 3 = .ok (.aload_n 1, 1) := by decide +kernel
theorem dX8_readsWord_4 : decode cX8_readsWord 4 = .ok (.invokevirtual 57, 3) := by decide +kernel
theorem dX8_readsWord_7 : decode cX8_readsWord 7 = .ok (.if_icmp .ge 23, 3) := by decide +kernel
theorem dX8_readsWord_10 : decode cX8_readsWord 10 = .ok (.aload_n 0, 1) := by decide +kernel
theorem dX8_readsWord_11 : decode cX8_readsWord 11 = .ok (.aload_n 1, 1) := by decide +kernel
theorem dX8_readsWord_12 : decode cX8_readsWord 12 = .ok (.iload_n 2, 1) := by decide +kernel
theorem dX8_readsWord_13 : decode cX8_readsWord 13 = .ok (.invokevirtual 63, 3) := by decide +kernel
theorem dX8_readsWord_16 : decode cX8_readsWord 16 = .ok (.invokevirtual 67, 3) := by decide +kernel
theorem dX8_readsWord_19 : decode cX8_readsWord 19 = .ok (.ifCond .ne 5, 3) := by decide +kernel
theorem dX8_readsWord_22 : decode cX8_readsWord 22 = .ok (.iconst 0, 1) := by decide +kernel
theorem dX8_readsWord_23 : decode cX8_readsWord 23 = .ok (.ireturn, 1) := by decide +kernel
theorem dX8_readsWord_24 : decode cX8_readsWord 24 = .ok (.iinc 2 1, 3) := by decide +kernel
theorem dX8_readsWord_27 : decode cX8_readsWord 27 = .ok (.goto (-25), 3) := by decide +kernel
theorem dX8_readsWord_30 : decode cX8_readsWord 30 = .ok (.iconst 1, 1) := by decide +kernel
theorem dX8_readsWord_31 : decode cX8_readsWord 31 = .ok (.ireturn, 1) := by decide +kernel
theorem dX8_readNumber_0 : decode cX8_readNumber 0 = .ok (.aload_n 0, 1) := by decide +kernel
theorem dX8_readNumber_1 : decode cX8_readNumber 1 = .ok (.bipush 32, 2) := by decide +kernel
theorem dX8_readNumber_3 : decode cX8_readNumber 3 = .ok (.invokevirtual 67, 3) := by decide +kernel
theorem dX8_readNumber_6 : decode cX8_readNumber 6 = .ok (.ifCond .ne 5, 3) := by decide +kernel
theorem dX8_readNumber_9 : decode cX8_readNumber 9 = .ok (.iconst (-1), 1) := by decide +kernel
theorem dX8_readNumber_10 : decode cX8_readNumber 10 = .ok (.ireturn, 1) := by decide +kernel
theorem dX8_readNumber_11 : decode cX8_readNumber 11 = .ok (.aload_n 0, 1) := by decide +kernel
theorem dX8_readNumber_12 : decode cX8_readNumber 12 = .ok (.aload_n 0, 1) := by decide +kernel
theorem dX8_readNumber_13 : decode cX8_readNumber 13 = .ok (.getfield 42, 3) := by decide +kernel
theorem dX8_readNumber_16 : decode cX8_readNumber 16 = .ok (.putfield 71, 3) := by decide +kernel
theorem dX8_readNumber_19 : decode cX8_readNumber 19 = .ok (.iconst 0, 1) := by decide +kernel
theorem dX8_readNumber_20 : decode cX8_readNumber 20 = .ok (.istore_n 1, 1) := by decide +kernel
theorem dX8_readNumber_21 : decode cX8_readNumber 21 = .ok (.aload_n 0, 1) := by decide +kernel
theorem dX8_readNumber_22 : decode cX8_readNumber 22 = .ok (.getfield 42, 3) := by decide +kernel
theorem dX8_readNumber_25 : decode cX8_readNumber 25 = .ok (.aload_n 0, 1) := by decide +kernel
theorem dX8_readNumber_26 : decode cX8_readNumber 26 = .ok (.getfield 71, 3) := by decide +kernel
theorem dX8_readNumber_29 : decode cX8_readNumber 29 = .ok (.iconst 3, 1) := by decide +kernel
theorem dX8_readNumber_30 : decode cX8_readNumber 30 = .ok (.iadd, 1) := by decide +kernel
theorem dX8_readNumber_31 : decode cX8_readNumber 31 = .ok (.if_icmp .ge 66, 3) := by decide +kernel
theorem dX8_readNumber_34 : decode cX8_readNumber 34 = .ok (.aload_n 0, 1) := by decide +kernel
theorem dX8_readNumber_35 : decode cX8_readNumber 35 = .ok (.invokevirtual 45, 3) := by decide +kernel
theorem dX8_readNumber_38 : decode cX8_readNumber 38 = .ok (.ifCond .ne 59, 3) := by decide +kernel
theorem dX8_readNumber_41 : decode cX8_readNumber 41 = .ok (.aload_n 0, 1) := by decide +kernel
theorem dX8_readNumber_42 : decode cX8_readNumber 42 = .ok (.aload_n 0, 1) := by decide +kernel
theorem dX8_readNumber_43 : decode cX8_readNumber 43 = .ok (.getfield 42, 3) := by decide +kernel
theorem dX8_readNumber_46 : decode cX8_readNumber 46 = .ok (.invokevirtual 49, 3) := by decide +kernel
theorem dX8_readNumber_49 : decode cX8_readNumber 49 = .ok (.bipush 48, 2) := by decide +kernel
theorem dX8_readNumber_51 : decode cX8_readNumber 51 = .ok (.if_icmp .lt 46, 3) := by decide +kernel
theorem dX8_readNumber_54 : decode cX8_readNumber 54 = .ok (.aload_n 0, 1) := by decide +kernel
theorem dX8_readNumber_55 : decode cX8_readNumber 55 = .ok (.aload_n 0, 1) := by decide +kernel
theorem dX8_readNumber_56 : decode cX8_readNumber 56 = .ok (.getfield 42, 3) := by decide +kernel
theorem dX8_readNumber_59 : decode cX8_readNumber 59 = .ok (.invokevirtual 49, 3) := by decide +kernel
theorem dX8_readNumber_62 : decode cX8_readNumber 62 = .ok (.bipush 57, 2) := by decide +kernel
theorem dX8_readNumber_64 : decode cX8_readNumber 64 = .ok (.if_icmp .gt 33, 3) := by decide +kernel
theorem dX8_readNumber_67 : decode cX8_readNumber 67 = .ok (.iload_n 1, 1) := by decide +kernel
theorem dX8_readNumber_68 : decode cX8_readNumber 68 = .ok (.bipush 10, 2) := by decide +kernel
theorem dX8_readNumber_70 : decode cX8_readNumber 70 = .ok (.imul, 1) := by decide +kernel
theorem dX8_readNumber_71 : decode cX8_readNumber 71 = .ok (.aload_n 0, 1) := by decide +kernel
theorem dX8_readNumber_72 : decode cX8_readNumber 72 = .ok (.aload_n 0, 1) := by decide +kernel
theorem dX8_readNumber_73 : decode cX8_readNumber 73 = .ok (.getfield 42, 3) := by decide +kernel
theorem dX8_readNumber_76 : decode cX8_readNumber 76 = .ok (.invokevirtual 49, 3) := by decide +kernel
theorem dX8_readNumber_79 : decode cX8_readNumber 79 = .ok (.iadd, 1) := by decide +kernel
theorem dX8_readNumber_80 : decode cX8_readNumber 80 = .ok (.bipush 48, 2) := by decide +kernel
theorem dX8_readNumber_82 : decode cX8_readNumber 82 = .ok (.isub, 1) := by decide +kernel
theorem dX8_readNumber_83 : decode cX8_readNumber 83 = .ok (.istore_n 1, 1) := by decide +kernel
theorem dX8_readNumber_84 : decode cX8_readNumber 84 = .ok (.aload_n 0, 1) := by decide +kernel
theorem dX8_readNumber_85 : decode cX8_readNumber 85 = .ok (.dup, 1) := by decide +kernel
theorem dX8_readNumber_86 : decode cX8_readNumber 86 = .ok (.getfield 42, 3) := by decide +kernel
theorem dX8_readNumber_89 : decode cX8_readNumber 89 = .ok (.iconst 1, 1) := by decide +kernel
theorem dX8_readNumber_90 : decode cX8_readNumber 90 = .ok (.iadd, 1) := by decide +kernel
theorem dX8_readNumber_91 : decode cX8_readNumber 91 = .ok (.putfield 42, 3) := by decide +kernel
theorem dX8_readNumber_94 : decode cX8_readNumber 94 = .ok (.goto (-73), 3) := by decide +kernel
theorem dX8_readNumber_97 : decode cX8_readNumber 97 = .ok (.aload_n 0, 1) := by decide +kernel
theorem dX8_readNumber_98 : decode cX8_readNumber 98 = .ok (.aload_n 0, 1) := by decide +kernel
theorem dX8_readNumber_99 : decode cX8_readNumber 99 = .ok (.getfield 42, 3) := by decide +kernel
theorem dX8_readNumber_102 : decode cX8_readNumber 102 = .ok (.aload_n 0, 1) := by decide +kernel
theorem dX8_readNumber_103 : decode cX8_readNumber 103 = .ok (.getfield 42, 3) := by decide +kernel
theorem dX8_readNumber_106 : decode cX8_readNumber 106 = .ok (.aload_n 0, 1) := by decide +kernel
theorem dX8_readNumber_107 : decode cX8_readNumber 107 = .ok (.getfield 71, 3) := by decide +kernel
theorem dX8_readNumber_110 : decode cX8_readNumber 110 = .ok (.if_icmp .le 7, 3) := by decide +kernel
theorem dX8_readNumber_113 : decode cX8_readNumber 113 = .ok (.iconst 1, 1) := by decide +kernel
theorem dX8_readNumber_114 : decode cX8_readNumber 114 = .ok (.goto 4, 3) := by decide +kernel
theorem dX8_readNumber_117 : decode cX8_readNumber 117 = .ok (.iconst 0, 1) := by decide +kernel
theorem dX8_readNumber_118 : decode cX8_readNumber 118 = .ok (.invokevirtual 53, 3) := by decide +kernel
theorem dX8_readNumber_121 : decode cX8_readNumber 121 = .ok (.ifCond .eq 7, 3) := by decide +kernel
theorem dX8_readNumber_124 : decode cX8_readNumber 124 = .ok (.iload_n 1, 1) := by decide +kernel
theorem dX8_readNumber_125 : decode cX8_readNumber 125 = .ok (.goto 4, 3) := by decide +kernel
theorem dX8_readNumber_128 : decode cX8_readNumber 128 = .ok (.iconst (-1), 1) := by decide +kernel
theorem dX8_readNumber_129 : decode cX8_readNumber 129 = .ok (.ireturn, 1) := by decide +kernel
theorem dX9_init_0 : decode cX9_init 0 = .ok (.aload_n 0, 1) := by decide +kernel
theorem dX9_init_1 : decode cX9_init 1 = .ok (.iload_n 1, 1) := by decide +kernel
theorem dX9_init_2 : decode cX9_init 2 = .ok (.iload_n 2, 1) := by decide +kernel
theorem dX9_init_3 : decode cX9_init 3 = .ok (.iload_n 3, 1) := by decide +kernel
theorem dX9_init_4 : decode cX9_init 4 = .ok (.iload 4, 2) := by decide +kernel
theorem dX9_init_6 : decode cX9_init 6 = .ok (.aload 5, 2) := by decide +kernel
theorem dX9_init_8 : decode cX9_init 8 = .ok (.invokespecial 1, 3) := by decide +kernel
theorem dX9_init_11 : decode cX9_init 11 = .ok (.return_, 1) := by decide +kernel
theorem dX9_turns_0 : decode cX9_turns 0 = .ok (.iconst 1, 1) := by decide +kernel
theorem dX9_turns_1 : decode cX9_turns 1 = .ok (.ireturn, 1) := by decide +kernel
theorem dX9_move_0 : decode cX9_move 0 = .ok (.aload_n 1, 1) := by decide +kernel
theorem dX9_move_1 : decode cX9_move 1 = .ok (.aload_n 0, 1) := by decide +kernel
theorem dX9_move_2 : decode cX9_move 2 = .ok (.invokevirtual 7, 3) := by decide +kernel
theorem dX9_move_5 : decode cX9_move 5 = .ok (.invokevirtual 13, 3) := by decide +kernel
theorem dX9_move_8 : decode cX9_move 8 = .ok (.iconst 1, 1) := by decide +kernel
theorem dX9_move_9 : decode cX9_move 9 = .ok (.ireturn, 1) := by decide +kernel
theorem dX9_saying_0 : decode cX9_saying 0 = .ok (.aload_n 0, 1) := by decide +kernel
theorem dX9_saying_1 : decode cX9_saying 1 = .ok (.invokevirtual 7, 3) := by decide +kernel
theorem dX9_saying_4 : decode cX9_saying 4 = .ok (.iconst 3, 1) := by decide +kernel
theorem dX9_saying_5 : decode cX9_saying 5 = .ok (.iand, 1) := by decide +kernel
theorem dX9_saying_6 : decode cX9_saying 6 = .ok (.ireturn, 1) := by decide +kernel
theorem dX9_knots_0 : decode cX9_knots 0 = .ok (.aload_n 0, 1) := by decide +kernel
theorem dX9_knots_1 : decode cX9_knots 1 = .ok (.bipush 50, 2) := by decide +kernel
theorem dX9_knots_3 : decode cX9_knots 3 = .ok (.invokevirtual 19, 3) := by decide +kernel
theorem dX9_knots_6 : decode cX9_knots 6 = .ok (.aload_n 0, 1) := by decide +kernel
theorem dX9_knots_7 : decode cX9_knots 7 = .ok (.iload_n 1, 1) := by decide +kernel
theorem dX9_knots_8 : decode cX9_knots 8 = .ok (.invokespecial 22, 3) := by decide +kernel
theorem dX9_knots_11 : decode cX9_knots 11 = .ok (.ineg, 1) := by decide +kernel
theorem dX9_knots_12 : decode cX9_knots 12 = .ok (.ireturn, 1) := by decide +kernel
theorem dX10_init_0 : decode cX10_init 0 = .ok (.aload_n 0, 1) := by decide +kernel
theorem dX10_init_1 : decode cX10_init 1 = .ok (.iload_n 1, 1) := by decide +kernel
theorem dX10_init_2 : decode cX10_init 2 = .ok (.iload_n 2, 1) := by decide +kernel
theorem dX10_init_3 : decode cX10_init 3 = .ok (.iload_n 3, 1) := by decide +kernel
theorem dX10_init_4 : decode cX10_init 4 = .ok (.iload 4, 2) := by decide +kernel
theorem dX10_init_6 : decode cX10_init 6 = .ok (.aload 5, 2) := by decide +kernel
theorem dX10_init_8 : decode cX10_init 8 = .ok (.invokespecial 1, 3) := by decide +kernel
theorem dX10_init_11 : decode cX10_init 11 = .ok (.return_, 1) := by decide +kernel
theorem dX10_more_0 : decode cX10_more 0 = .ok (.iconst (-1), 1) := by decide +kernel
theorem dX10_more_1 : decode cX10_more 1 = .ok (.ireturn, 1) := by decide +kernel
theorem dX10_steps_0 : decode cX10_steps 0 = .ok (.aload_n 0, 1) := by decide +kernel
theorem dX10_steps_1 : decode cX10_steps 1 = .ok (.bipush 30, 2) := by decide +kernel
theorem dX10_steps_3 : decode cX10_steps 3 = .ok (.invokevirtual 7, 3) := by decide +kernel
theorem dX10_steps_6 : decode cX10_steps 6 = .ok (.aload_n 0, 1) := by decide +kernel
theorem dX10_steps_7 : decode cX10_steps 7 = .ok (.iload_n 1, 1) := by decide +kernel
theorem dX10_steps_8 : decode cX10_steps 8 = .ok (.invokespecial 13, 3) := by decide +kernel
theorem dX10_steps_11 : decode cX10_steps 11 = .ok (.iconst 3, 1) := by decide +kernel
theorem dX10_steps_12 : decode cX10_steps 12 = .ok (.imul, 1) := by decide +kernel
theorem dX10_steps_13 : decode cX10_steps 13 = .ok (.ireturn, 1) := by decide +kernel
theorem dX11_init_0 : decode cX11_init 0 = .ok (.aload_n 0, 1) := by decide +kernel
theorem dX11_init_1 : decode cX11_init 1 = .ok (.invokespecial 3, 3) := by decide +kernel
theorem dX11_init_4 : decode cX11_init 4 = .ok (.aload_n 0, 1) := by decide +kernel
theorem dX11_init_5 : decode cX11_init 5 = .ok (.bipush 8, 2) := by decide +kernel
theorem dX11_init_7 : decode cX11_init 7 = .ok (.anewarray 9, 3) := by decide +kernel
theorem dX11_init_10 : decode cX11_init 10 = .ok (.putfield 11, 3) := by decide +kernel
theorem dX11_init_13 : decode cX11_init 13 = .ok (.aload_n 0, 1) := by decide +kernel
theorem dX11_init_14 : decode cX11_init 14 = .ok (.bipush 8, 2) := by decide +kernel
theorem dX11_init_16 : decode cX11_init 16 = .ok (.anewarray 15, 3) := by decide +kernel
theorem dX11_init_19 : decode cX11_init 19 = .ok (.putfield 17, 3) := by decide +kernel
theorem dX11_init_22 : decode cX11_init 22 = .ok (.aload_n 0, 1) := by decide +kernel
theorem dX11_init_23 : decode cX11_init 23 = .ok (.bipush 8, 2) := by decide +kernel
theorem dX11_init_25 : decode cX11_init 25 = .ok (.newarray .int, 2) := by decide +kernel
theorem dX11_init_27 : decode cX11_init 27 = .ok (.putfield 21, 3) := by decide +kernel
theorem dX11_init_30 : decode cX11_init 30 = .ok (.aload_n 0, 1) := by decide +kernel
theorem dX11_init_31 : decode cX11_init 31 = .ok (.bipush 21, 2) := by decide +kernel
theorem dX11_init_33 : decode cX11_init 33 = .ok (.newarray .int, 2) := by decide +kernel
theorem dX11_init_35 : decode cX11_init 35 = .ok (.putfield 25, 3) := by decide +kernel
theorem dX11_init_38 : decode cX11_init 38 = .ok (.aload_n 0, 1) := by decide +kernel
theorem dX11_init_39 : decode cX11_init 39 = .ok (.new 28, 3) := by decide +kernel
theorem dX11_init_42 : decode cX11_init 42 = .ok (.dup, 1) := by decide +kernel
theorem dX11_init_43 : decode cX11_init 43 = .ok (.invokespecial 30, 3) := by decide +kernel
theorem dX11_init_46 : decode cX11_init 46 = .ok (.putfield 31, 3) := by decide +kernel
theorem dX11_init_49 : decode cX11_init 49 = .ok (.aload_n 0, 1) := by decide +kernel
theorem dX11_init_50 : decode cX11_init 50 = .ok (.new 28, 3) := by decide +kernel
theorem dX11_init_53 : decode cX11_init 53 = .ok (.dup, 1) := by decide +kernel
theorem dX11_init_54 : decode cX11_init 54 = .ok (.invokespecial 30, 3) := by decide +kernel
theorem dX11_init_57 : decode cX11_init 57 = .ok (.putfield 35, 3) := by decide +kernel
theorem dX11_init_60 : decode cX11_init 60 = .ok (.aload_n 0, 1) := by decide +kernel
theorem dX11_init_61 : decode cX11_init 61 = .ok (.new 28, 3) := by decide +kernel
theorem dX11_init_64 : decode cX11_init 64 = .ok (.dup, 1) := by decide +kernel
theorem dX11_init_65 : decode cX11_init 65 = .ok (.invokespecial 30, 3) := by decide +kernel
theorem dX11_init_68 : decode cX11_init 68 = .ok (.putfield 38, 3) := by decide +kernel
theorem dX11_init_71 : decode cX11_init 71 = .ok (.aload_n 0, 1) := by decide +kernel
theorem dX11_init_72 : decode cX11_init 72 = .ok (.new 28, 3) := by decide +kernel
theorem dX11_init_75 : decode cX11_init 75 = .ok (.dup, 1) := by decide +kernel
theorem dX11_init_76 : decode cX11_init 76 = .ok (.invokespecial 30, 3) := by decide +kernel
theorem dX11_init_79 : decode cX11_init 79 = .ok (.putfield 41, 3) := by decide +kernel
theorem dX11_init_82 : decode cX11_init 82 = .ok (.aload_n 0, 1) := by decide +kernel
theorem dX11_init_83 : decode cX11_init 83 = .ok (.new 44, 3) := by decide +kernel
theorem dX11_init_86 : decode cX11_init 86 = .ok (.dup, 1) := by decide +kernel
theorem dX11_init_87 : decode cX11_init 87 = .ok (.invokespecial 46, 3) := by decide +kernel
theorem dX11_init_90 : decode cX11_init 90 = .ok (.putfield 47, 3) := by decide +kernel
theorem dX11_init_93 : decode cX11_init 93 = .ok (.aload_n 0, 1) := by decide +kernel
theorem dX11_init_94 : decode cX11_init 94 = .ok (.new 51, 3) := by decide +kernel
theorem dX11_init_97 : decode cX11_init 97 = .ok (.dup, 1) := by decide +kernel
theorem dX11_init_98 : decode cX11_init 98 = .ok (.invokespecial 53, 3) := by decide +kernel
theorem dX11_init_101 : decode cX11_init 101 = .ok (.putfield 54, 3) := by decide +kernel
theorem dX11_init_104 : decode cX11_init 104 = .ok (.aload_n 0, 1) := by decide +kernel
theorem dX11_init_105 : decode cX11_init 105 = .ok (.new 51, 3) := by decide +kernel
theorem dX11_init_108 : decode cX11_init 108 = .ok (.dup, 1) := by decide +kernel
theorem dX11_init_109 : decode cX11_init 109 = .ok (.invokespecial 53, 3) := by decide +kernel
theorem dX11_init_112 : decode cX11_init 112 = .ok (.putfield 58, 3) := by decide +kernel
theorem dX11_init_115 : decode cX11_init 115 = .ok (.aload_n 0, 1) := by decide +kernel
theorem dX11_init_116 : decode cX11_init 116 = .ok (.iconst (-1), 1) := by decide +kernel
theorem dX11_init_117 : decode cX11_init 117 = .ok (.putfield 61, 3) := by decide +kernel
theorem dX11_init_120 : decode cX11_init 120 = .ok (.iconst 0, 1) := by decide +kernel
theorem dX11_init_121 : decode cX11_init 121 = .ok (.istore_n 1, 1) := by decide +kernel
theorem dX11_init_122 : decode cX11_init 122 = .ok (.iload_n 1, 1) := by decide +kernel
theorem dX11_init_123 : decode cX11_init 123 = .ok (.bipush 8, 2) := by decide +kernel
theorem dX11_init_125 : decode cX11_init 125 = .ok (.if_icmp .ge 22, 3) := by decide +kernel
theorem dX11_init_128 : decode cX11_init 128 = .ok (.aload_n 0, 1) := by decide +kernel
theorem dX11_init_129 : decode cX11_init 129 = .ok (.getfield 11, 3) := by decide +kernel
theorem dX11_init_132 : decode cX11_init 132 = .ok (.iload_n 1, 1) := by decide +kernel
theorem dX11_init_133 : decode cX11_init 133 = .ok (.new 9, 3) := by decide +kernel
theorem dX11_init_136 : decode cX11_init 136 = .ok (.dup, 1) := by decide +kernel
theorem dX11_init_137 : decode cX11_init 137 = .ok (.invokespecial 65, 3) := by decide +kernel
theorem dX11_init_140 : decode cX11_init 140 = .ok (.aastore, 1) := by decide +kernel
theorem dX11_init_141 : decode cX11_init 141 = .ok (.iinc 1 1, 3) := by decide +kernel
theorem dX11_init_144 : decode cX11_init 144 = .ok (.goto (-22), 3) := by decide +kernel
theorem dX11_init_147 : decode cX11_init 147 = .ok (.return_, 1) := by decide +kernel
theorem dX11_row_0 : decode cX11_row 0 = .ok (.aload_n 0, 1) := by decide +kernel
theorem dX11_row_1 : decode cX11_row 1 = .ok (.iload_n 1, 1) := by decide +kernel
theorem dX11_row_2 : decode cX11_row 2 = .ok (.invokevirtual 66, 3) := by decide +kernel
theorem dX11_row_5 : decode cX11_row 5 = .ok (.astore 4, 2) := by decide +kernel
theorem dX11_row_7 : decode cX11_row 7 = .ok (.aload 4, 2) := by decide +kernel
theorem dX11_row_9 : decode cX11_row 9 = .ok (.ifnonnull 9, 3) := by decide +kernel
theorem dX11_row_12 : decode cX11_row 12 = .ok (.aload_n 0, 1) := by decide +kernel
theorem dX11_row_13 : decode cX11_row 13 = .ok (.iconst 1, 1) := by decide +kernel
theorem dX11_row_14 : decode cX11_row 14 = .ok (.invokevirtual 70, 3) := by decide +kernel
theorem dX11_row_17 : decode cX11_row 17 = .ok (.ireturn, 1) := by decide +kernel
theorem dX11_row_18 : decode cX11_row 18 = .ok (.iload_n 3, 1) := by decide +kernel
theorem dX11_row_19 : decode cX11_row 19 = .ok (.ifCond .ge 9, 3) := by decide +kernel
theorem dX11_row_22 : decode cX11_row 22 = .ok (.aload_n 0, 1) := by decide +kernel
theorem dX11_row_23 : decode cX11_row 23 = .ok (.iconst 4, 1) := by decide +kernel
theorem dX11_row_24 : decode cX11_row 24 = .ok (.invokevirtual 70, 3) := by decide +kernel
theorem dX11_row_27 : decode cX11_row 27 = .ok (.ireturn, 1) := by decide +kernel
theorem dX11_row_28 : decode cX11_row 28 = .ok (.iload_n 2, 1) := by decide +kernel
theorem dX11_row_29 : decode cX11_row 29 = .ok (.ifCond .lt 8, 3) := by decide +kernel
theorem dX11_row_32 : decode cX11_row 32 = .ok (.iload_n 2, 1) := by decide +kernel
theorem dX11_row_33 : decode cX11_row 33 = .ok (.iconst 4, 1) := by decide +kernel
theorem dX11_row_34 : decode cX11_row 34 = .ok (.if_icmp .lt 10, 3) := by decide +kernel
theorem dX11_row_37 : decode cX11_row 37 = .ok (.aload_n 0, 1) := by decide +kernel
theorem dX11_row_38 : decode cX11_row 38 = .ok (.bipush 6, 2) := by decide +kernel
theorem dX11_row_40 : decode cX11_row 40 = .ok (.invokevirtual 70, 3) := by decide +kernel
theorem dX11_row_43 : decode cX11_row 43 = .ok (.ireturn, 1) := by decide +kernel
theorem dX11_row_44 : decode cX11_row 44 = .ok (.iload_n 3, 1) := by decide +kernel
theorem dX11_row_45 : decode cX11_row 45 = .ok (.sipush 160, 3) := by decide +kernel
theorem dX11_row_48 : decode cX11_row 48 = .ok (.if_icmp .le 10, 3) := by decide +kernel
theorem dX11_row_51 : decode cX11_row 51 = .ok (.aload_n 0, 1) := by decide +kernel
theorem dX11_row_52 : decode cX11_row 52 = .ok (.bipush 7, 2) := by decide +kernel
theorem dX11_row_54 : decode cX11_row 54 = .ok (.invokevirtual 70, 3) := by decide +kernel
theorem dX11_row_57 : decode cX11_row 57 = .ok (.ireturn, 1) := by decide +kernel
theorem dX11_row_58 : decode cX11_row 58 = .ok (.aload 4, 2) := by decide +kernel
theorem dX11_row_60 : decode cX11_row 60 = .ok (.iload_n 2, 1) := by decide +kernel
theorem dX11_row_61 : decode cX11_row 61 = .ok (.iload_n 3, 1) := by decide +kernel
theorem dX11_row_62 : decode cX11_row 62 = .ok (.invokevirtual 74, 3) := by decide +kernel
theorem dX11_row_65 : decode cX11_row 65 = .ok (.iconst 1, 1) := by decide +kernel
theorem dX11_row_66 : decode cX11_row 66 = .ok (.ireturn, 1) := by decide +kernel
theorem dX11_set_0 : decode cX11_set 0 = .ok (.aload_n 0, 1) := by decide +kernel
theorem dX11_set_1 : decode cX11_set 1 = .ok (.iload_n 1, 1) := by decide +kernel
theorem dX11_set_2 : decode cX11_set 2 = .ok (.invokevirtual 78, 3) := by decide +kernel
theorem dX11_set_5 : decode cX11_set 5 = .ok (.istore 5, 2) := by decide +kernel
theorem dX11_set_7 : decode cX11_set 7 = .ok (.aload_n 0, 1) := by decide +kernel
theorem dX11_set_8 : decode cX11_set 8 = .ok (.iload_n 1, 1) := by decide +kernel
theorem dX11_set_9 : decode cX11_set 9 = .ok (.invokevirtual 66, 3) := by decide +kernel
theorem dX11_set_12 : decode cX11_set 12 = .ok (.astore 6, 2) := by decide +kernel
theorem dX11_set_14 : decode cX11_set 14 = .ok (.iload 5, 2) := by decide +kernel
theorem dX11_set_16 : decode cX11_set 16 = .ok (.ifCond .ne 8, 3) := by decide +kernel
theorem dX11_set_19 : decode cX11_set 19 = .ok (.aload 6, 2) := by decide +kernel
theorem dX11_set_21 : decode cX11_set 21 = .ok (.ifnonnull 10, 3) := by decide +kernel
theorem dX11_set_24 : decode cX11_set 24 = .ok (.aload_n 0, 1) := by decide +kernel
theorem dX11_set_25 : decode cX11_set 25 = .ok (.iload 5, 2) := by decide +kernel
theorem dX11_set_27 : decode cX11_set 27 = .ok (.invokevirtual 70, 3) := by decide +kernel
theorem dX11_set_30 : decode cX11_set 30 = .ok (.ireturn, 1) := by decide +kernel
theorem dX11_set_31 : decode cX11_set 31 = .ok (.aload 6, 2) := by decide +kernel
theorem dX11_set_33 : decode cX11_set 33 = .ok (.iload_n 2, 1) := by decide +kernel
theorem dX11_set_34 : decode cX11_set 34 = .ok (.invokevirtual 81, 3) := by decide +kernel
theorem dX11_set_37 : decode cX11_set 37 = .ok (.ifCond .ne 9, 3) := by decide +kernel
theorem dX11_set_40 : decode cX11_set 40 = .ok (.aload_n 0, 1) := by decide +kernel
theorem dX11_set_41 : decode cX11_set 41 = .ok (.iconst 5, 1) := by decide +kernel
theorem dX11_set_42 : decode cX11_set 42 = .ok (.invokevirtual 70, 3) := by decide +kernel
theorem dX11_set_45 : decode cX11_set 45 = .ok (.ireturn, 1) := by decide +kernel
theorem dX11_set_46 : decode cX11_set 46 = .ok (.aload 6, 2) := by decide +kernel
theorem dX11_set_48 : decode cX11_set 48 = .ok (.iload_n 2, 1) := by decide +kernel
theorem dX11_set_49 : decode cX11_set 49 = .ok (.lload_n 3, 1) := by decide +kernel
theorem dX11_set_50 : decode cX11_set 50 = .ok (.invokevirtual 85, 3) := by decide +kernel
theorem dX11_set_53 : decode cX11_set 53 = .ok (.iconst 1, 1) := by decide +kernel
theorem dX11_set_54 : decode cX11_set 54 = .ok (.ireturn, 1) := by decide +kernel
theorem dX11_copy_0 : decode cX11_copy 0 = .ok (.aload_n 0, 1) := by decide +kernel
theorem dX11_copy_1 : decode cX11_copy 1 = .ok (.iload_n 1, 1) := by decide +kernel
theorem dX11_copy_2 : decode cX11_copy 2 = .ok (.invokevirtual 78, 3) := by decide +kernel
theorem dX11_copy_5 : decode cX11_copy 5 = .ok (.aload_n 0, 1) := by decide +kernel
theorem dX11_copy_6 : decode cX11_copy 6 = .ok (.iload_n 2, 1) := by decide +kernel
theorem dX11_copy_7 : decode cX11_copy 7 = .ok (.invokevirtual 78, 3) := by decide +kernel
theorem dX11_copy_10 : decode cX11_copy 10 = .ok (.invokestatic 89, 3) := by decide +kernel
theorem dX11_copy_13 : decode cX11_copy 13 = .ok (.istore 6, 2) := by decide +kernel
theorem dX11_copy_15 : decode cX11_copy 15 = .ok (.aload_n 0, 1) := by decide +kernel
theorem dX11_copy_16 : decode cX11_copy 16 = .ok (.iload_n 1, 1) := by decide +kernel
theorem dX11_copy_17 : decode cX11_copy 17 = .ok (.invokevirtual 66, 3) := by decide +kernel
theorem dX11_copy_20 : decode cX11_copy 20 = .ok (.astore 7, 2) := by decide +kernel
theorem dX11_copy_22 : decode cX11_copy 22 = .ok (.aload_n 0, 1) := by decide +kernel
theorem dX11_copy_23 : decode cX11_copy 23 = .ok (.iload_n 2, 1) := by decide +kernel
theorem dX11_copy_24 : decode cX11_copy 24 = .ok (.invokevirtual 66, 3) := by decide +kernel
theorem dX11_copy_27 : decode cX11_copy 27 = .ok (.astore 8, 2) := by decide +kernel
theorem dX11_copy_29 : decode cX11_copy 29 = .ok (.iload 6, 2) := by decide +kernel
theorem dX11_copy_31 : decode cX11_copy 31 = .ok (.ifCond .ne 13, 3) := by decide +kernel
theorem dX11_copy_34 : decode cX11_copy 34 = .ok (.aload 7, 2) := by decide +kernel
theorem dX11_copy_36 : decode cX11_copy 36 = .ok (.ifnull 8, 3) := by decide +kernel
theorem dX11_copy_39 : decode cX11_copy 39 = .ok (.aload 8, 2) := by decide +kernel
theorem dX11_copy_41 : decode cX11_copy 41 = .ok (.ifnonnull 10, 3) := by decide +kernel
theorem dX11_copy_44 : decode cX11_copy 44 = .ok (.aload_n 0, 1) := by decide +kernel
theorem dX11_copy_45 : decode cX11_copy 45 = .ok (.iload 6, 2) := by decide +kernel
theorem dX11_copy_47 : decode cX11_copy 47 = .ok (.invokevirtual 70, 3) := by decide +kernel
theorem dX11_copy_50 : decode cX11_copy 50 = .ok (.ireturn, 1) := by decide +kernel
theorem dX11_copy_51 : decode cX11_copy 51 = .ok (.aload 7, 2) := by decide +kernel
theorem dX11_copy_53 : decode cX11_copy 53 = .ok (.getfield 93, 3) := by decide +kernel
theorem dX11_copy_56 : decode cX11_copy 56 = .ok (.aload 8, 2) := by decide +kernel
theorem dX11_copy_58 : decode cX11_copy 58 = .ok (.getfield 93, 3) := by decide +kernel
theorem dX11_copy_61 : decode cX11_copy 61 = .ok (.if_icmp .eq 9, 3) := by decide +kernel
theorem dX11_copy_64 : decode cX11_copy 64 = .ok (.aload_n 0, 1) := by decide +kernel
theorem dX11_copy_65 : decode cX11_copy 65 = .ok (.iconst 2, 1) := by decide +kernel
theorem dX11_copy_66 : decode cX11_copy 66 = .ok (.invokevirtual 70, 3) := by decide +kernel
theorem dX11_copy_69 : decode cX11_copy 69 = .ok (.ireturn, 1) := by decide +kernel
theorem dX11_copy_70 : decode cX11_copy 70 = .ok (.iload 5, 2) := by decide +kernel
theorem dX11_copy_72 : decode cX11_copy 72 = .ok (.ifCond .ge 9, 3) := by decide +kernel
theorem dX11_copy_75 : decode cX11_copy 75 = .ok (.aload_n 0, 1) := by decide +kernel
theorem dX11_copy_76 : decode cX11_copy 76 = .ok (.iconst 4, 1) := by decide +kernel
theorem dX11_copy_77 : decode cX11_copy 77 = .ok (.invokevirtual 70, 3) := by decide +kernel
theorem dX11_copy_80 : decode cX11_copy 80 = .ok (.ireturn, 1) := by decide +kernel
theorem dX11_copy_81 : decode cX11_copy 81 = .ok (.aload 7, 2) := by decide +kernel
theorem dX11_copy_83 : decode cX11_copy 83 = .ok (.iload_n 3, 1) := by decide +kernel
theorem dX11_copy_84 : decode cX11_copy 84 = .ok (.iload 5, 2) := by decide +kernel
theorem dX11_copy_86 : decode cX11_copy 86 = .ok (.invokevirtual 96, 3) := by decide +kernel
theorem dX11_copy_89 : decode cX11_copy 89 = .ok (.ifCond .eq 15, 3) := by decide +kernel
theorem dX11_copy_92 : decode cX11_copy 92 = .ok (.aload 8, 2) := by decide +kernel
theorem dX11_copy_94 : decode cX11_copy 94 = .ok (.iload 4, 2) := by decide +kernel
theorem dX11_copy_96 : decode cX11_copy 96 = .ok (.iload 5, 2) := by decide +kernel
theorem dX11_copy_98 : decode cX11_copy 98 = .ok (.invokevirtual 96, 3) := by decide +kernel
theorem dX11_copy_101 : decode cX11_copy 101 = .ok (.ifCond .ne 9, 3) := by decide +kernel
theorem dX11_copy_104 : decode cX11_copy 104 = .ok (.aload_n 0, 1) := by decide +kernel
theorem dX11_copy_105 : decode cX11_copy 105 = .ok (.iconst 5, 1) := by decide +kernel
theorem dX11_copy_106 : decode cX11_copy 106 = .ok (.invokevirtual 70, 3) := by decide +kernel
theorem dX11_copy_109 : decode cX11_copy 109 = .ok (.ireturn, 1) := by decide +kernel
theorem dX11_copy_110 : decode cX11_copy 110 = .ok (.aload 7, 2) := by decide +kernel
theorem dX11_copy_112 : decode cX11_copy 112 = .ok (.getfield 100, 3) := by decide +kernel
theorem dX11_copy_115 : decode cX11_copy 115 = .ok (.iload_n 3, 1) := by decide +kernel
theorem dX11_copy_116 : decode cX11_copy 116 = .ok (.aload 8, 2) := by decide +kernel
theorem dX11_copy_118 : decode cX11_copy 118 = .ok (.getfield 100, 3) := by decide +kernel
theorem dX11_copy_121 : decode cX11_copy 121 = .ok (.iload 4, 2) := by decide +kernel
theorem dX11_copy_123 : decode cX11_copy 123 = .ok (.iload 5, 2) := by decide +kernel
theorem dX11_copy_125 : decode cX11_copy 125 = .ok (.invokestatic 104, 3) := by decide +kernel
theorem dX11_copy_128 : decode cX11_copy 128 = .ok (.iconst 1, 1) := by decide +kernel
theorem dX11_copy_129 : decode cX11_copy 129 = .ok (.ireturn, 1) := by decide +kernel
theorem dX11_element_0 : decode cX11_element 0 = .ok (.aload_n 0, 1) := by decide +kernel
theorem dX11_element_1 : decode cX11_element 1 = .ok (.iload_n 1, 1) := by decide +kernel
theorem dX11_element_2 : decode cX11_element 2 = .ok (.invokevirtual 66, 3) := by decide +kernel
theorem dX11_element_5 : decode cX11_element 5 = .ok (.astore_n 3, 1) := by decide +kernel
theorem dX11_element_6 : decode cX11_element 6 = .ok (.aload_n 3, 1) := by decide +kernel
theorem dX11_element_7 : decode cX11_element 7 = .ok (.ifnonnull 7, 3) := by decide +kernel
theorem dX11_element_10 : decode cX11_element 10 = .ok (.lconst 0, 1) := by decide +kernel
theorem dX11_element_11 : decode cX11_element 11 = .ok (.goto 8, 3) := by decide +kernel
theorem dX11_element_14 : decode cX11_element 14 = .ok (.aload_n 3, 1) := by decide +kernel
theorem dX11_element_15 : decode cX11_element 15 = .ok (.iload_n 2, 1) := by decide +kernel
theorem dX11_element_16 : decode cX11_element 16 = .ok (.invokevirtual 110, 3) := by decide +kernel
theorem dX11_element_19 : decode cX11_element 19 = .ok (.lreturn, 1) := by decide +kernel
theorem dX11_show_0 : decode cX11_show 0 = .ok (.aload_n 0, 1) := by decide +kernel
theorem dX11_show_1 : decode cX11_show 1 = .ok (.iload_n 1, 1) := by decide +kernel
theorem dX11_show_2 : decode cX11_show 2 = .ok (.invokevirtual 66, 3) := by decide +kernel
theorem dX11_show_5 : decode cX11_show 5 = .ok (.astore_n 3, 1) := by decide +kernel
theorem dX11_show_6 : decode cX11_show 6 = .ok (.aload_n 3, 1) := by decide +kernel
theorem dX11_show_7 : decode cX11_show 7 = .ok (.ifnull 20, 3) := by decide +kernel
theorem dX11_show_10 : decode cX11_show 10 = .ok (.iload_n 2, 1) := by decide +kernel
theorem dX11_show_11 : decode cX11_show 11 = .ok (.iconst (-1), 1) := by decide +kernel
theorem dX11_show_12 : decode cX11_show 12 = .ok (.if_icmp .eq 21, 3) := by decide +kernel
theorem dX11_show_15 : decode cX11_show 15 = .ok (.aload_n 0, 1) := by decide +kernel
theorem dX11_show_16 : decode cX11_show 16 = .ok (.aload_n 0, 1) := by decide +kernel
theorem dX11_show_17 : decode cX11_show 17 = .ok (.getfield 31, 3) := by decide +kernel
theorem dX11_show_20 : decode cX11_show 20 = .ok (.iload_n 2, 1) := by decide +kernel
theorem dX11_show_21 : decode cX11_show 21 = .ok (.invokevirtual 114, 3) := by decide +kernel
theorem dX11_show_24 : decode cX11_show 24 = .ok (.ifnonnull 9, 3) := by decide +kernel
theorem dX11_show_27 : decode cX11_show 27 = .ok (.aload_n 0, 1) := by decide +kernel
theorem dX11_show_28 : decode cX11_show 28 = .ok (.iconst 1, 1) := by decide +kernel
theorem dX11_show_29 : decode cX11_show 29 = .ok (.invokevirtual 70, 3) := by decide +kernel
theorem dX11_show_32 : decode cX11_show 32 = .ok (.ireturn, 1) := by decide +kernel
theorem dX11_show_33 : decode cX11_show 33 = .ok (.aload_n 3, 1) := by decide +kernel
theorem dX11_show_34 : decode cX11_show 34 = .ok (.iload_n 2, 1) := by decide +kernel
theorem dX11_show_35 : decode cX11_show 35 = .ok (.invokevirtual 118, 3) := by decide +kernel
theorem dX11_show_38 : decode cX11_show 38 = .ok (.iload_n 2, 1) := by decide +kernel
theorem dX11_show_39 : decode cX11_show 39 = .ok (.iconst (-1), 1) := by decide +kernel
theorem dX11_show_40 : decode cX11_show 40 = .ok (.if_icmp .ne 7, 3) := by decide +kernel
theorem dX11_show_43 : decode cX11_show 43 = .ok (.iconst 0, 1) := by decide +kernel
theorem dX11_show_44 : decode cX11_show 44 = .ok (.goto 4, 3) := by decide +kernel
theorem dX11_show_47 : decode cX11_show 47 = .ok (.iconst 1, 1) := by decide +kernel
theorem dX11_show_48 : decode cX11_show 48 = .ok (.ireturn, 1) := by decide +kernel
theorem dX11_holds_0 : decode cX11_holds 0 = .ok (.aload_n 0, 1) := by decide +kernel
theorem dX11_holds_1 : decode cX11_holds 1 = .ok (.iload_n 1, 1) := by decide +kernel
theorem dX11_holds_2 : decode cX11_holds 2 = .ok (.invokevirtual 66, 3) := by decide +kernel
theorem dX11_holds_5 : decode cX11_holds 5 = .ok (.astore_n 2, 1) := by decide +kernel
theorem dX11_holds_6 : decode cX11_holds 6 = .ok (.aload_n 2, 1) := by decide +kernel
theorem dX11_holds_7 : decode cX11_holds 7 = .ok (.ifnonnull 5, 3) := by decide +kernel
theorem dX11_holds_10 : decode cX11_holds 10 = .ok (.iconst (-1), 1) := by decide +kernel
theorem dX11_holds_11 : decode cX11_holds 11 = .ok (.ireturn, 1) := by decide +kernel
theorem dX11_holds_12 : decode cX11_holds 12 = .ok (.aload_n 2, 1) := by decide +kernel
theorem dX11_holds_13 : decode cX11_holds 13 = .ok (.invokevirtual 122, 3) := by decide +kernel
theorem dX11_holds_16 : decode cX11_holds 16 = .ok (.ifCond .eq 13, 3) := by decide +kernel
theorem dX11_holds_19 : decode cX11_holds 19 = .ok (.bipush 100, 2) := by decide +kernel
theorem dX11_holds_21 : decode cX11_holds 21 = .ok (.aload_n 2, 1) := by decide +kernel
theorem dX11_holds_22 : decode cX11_holds 22 = .ok (.getfield 93, 3) := by decide +kernel
theorem dX11_holds_25 : decode cX11_holds 25 = .ok (.iadd, 1) := by decide +kernel
theorem dX11_holds_26 : decode cX11_holds 26 = .ok (.goto 7, 3) := by decide +kernel
theorem dX11_holds_29 : decode cX11_holds 29 = .ok (.aload_n 2, 1) := by decide +kernel
theorem dX11_holds_30 : decode cX11_holds 30 = .ok (.getfield 126, 3) := by decide +kernel
theorem dX11_holds_33 : decode cX11_holds 33 = .ok (.ireturn, 1) := by decide +kernel
theorem dX11_says_0 : decode cX11_says 0 = .ok (.aload_n 0, 1) := by decide +kernel
theorem dX11_says_1 : decode cX11_says 1 = .ok (.iload_n 1, 1) := by decide +kernel
theorem dX11_says_2 : decode cX11_says 2 = .ok (.invokevirtual 66, 3) := by decide +kernel
theorem dX11_says_5 : decode cX11_says 5 = .ok (.astore_n 3, 1) := by decide +kernel
theorem dX11_says_6 : decode cX11_says 6 = .ok (.aload_n 3, 1) := by decide +kernel
theorem dX11_says_7 : decode cX11_says 7 = .ok (.ifnull 10, 3) := by decide +kernel
theorem dX11_says_10 : decode cX11_says 10 = .ok (.iload_n 2, 1) := by decide +kernel
theorem dX11_says_11 : decode cX11_says 11 = .ok (.invokestatic 129, 3) := by decide +kernel
theorem dX11_says_14 : decode cX11_says 14 = .ok (.ifCond .ne 9, 3) := by decide +kernel
theorem dX11_says_17 : decode cX11_says 17 = .ok (.aload_n 0, 1) := by decide +kernel
theorem dX11_says_18 : decode cX11_says 18 = .ok (.iconst 1, 1) := by decide +kernel
theorem dX11_says_19 : decode cX11_says 19 = .ok (.invokevirtual 70, 3) := by decide +kernel
theorem dX11_says_22 : decode cX11_says 22 = .ok (.ireturn, 1) := by decide +kernel
theorem dX11_says_23 : decode cX11_says 23 = .ok (.aload_n 3, 1) := by decide +kernel
theorem dX11_says_24 : decode cX11_says 24 = .ok (.invokevirtual 122, 3) := by decide +kernel
theorem dX11_says_27 : decode cX11_says 27 = .ok (.ifCond .eq 9, 3) := by decide +kernel
theorem dX11_says_30 : decode cX11_says 30 = .ok (.aload_n 0, 1) := by decide +kernel
theorem dX11_says_31 : decode cX11_says 31 = .ok (.iconst 2, 1) := by decide +kernel
theorem dX11_says_32 : decode cX11_says 32 = .ok (.invokevirtual 70, 3) := by decide +kernel
theorem dX11_says_35 : decode cX11_says 35 = .ok (.ireturn, 1) := by decide +kernel
theorem dX11_says_36 : decode cX11_says 36 = .ok (.aload_n 0, 1) := by decide +kernel
theorem dX11_says_37 : decode cX11_says 37 = .ok (.aload_n 0, 1) := by decide +kernel
theorem dX11_says_38 : decode cX11_says 38 = .ok (.getfield 31, 3) := by decide +kernel
theorem dX11_says_41 : decode cX11_says 41 = .ok (.aload_n 3, 1) := by decide +kernel
theorem dX11_says_42 : decode cX11_says 42 = .ok (.getfield 126, 3) := by decide +kernel
theorem dX11_says_45 : decode cX11_says 45 = .ok (.invokevirtual 114, 3) := by decide +kernel
theorem dX11_says_48 : decode cX11_says 48 = .ok (.astore 4, 2) := by decide +kernel
theorem dX11_says_50 : decode cX11_says 50 = .ok (.aload 4, 2) := by decide +kernel
theorem dX11_says_52 : decode cX11_says 52 = .ok (.ifnonnull 9, 3) := by decide +kernel
theorem dX11_says_55 : decode cX11_says 55 = .ok (.aload_n 0, 1) := by decide +kernel
theorem dX11_says_56 : decode cX11_says 56 = .ok (.iconst 3, 1) := by decide +kernel
theorem dX11_says_57 : decode cX11_says 57 = .ok (.invokevirtual 70, 3) := by decide +kernel
theorem dX11_says_60 : decode cX11_says 60 = .ok (.ireturn, 1) := by decide +kernel
theorem dX11_says_61 : decode cX11_says 61 = .ok (.aload 4, 2) := by decide +kernel
theorem dX11_says_63 : decode cX11_says 63 = .ok (.getfield 132, 3) := by decide +kernel
theorem dX11_says_66 : decode cX11_says 66 = .ok (.iload_n 2, 1) := by decide +kernel
theorem dX11_says_67 : decode cX11_says 67 = .ok (.invokestatic 135, 3) := by decide +kernel
theorem dX11_says_70 : decode cX11_says 70 = .ok (.ifCond .ne 9, 3) := by decide +kernel
theorem dX11_says_73 : decode cX11_says 73 = .ok (.aload_n 0, 1) := by decide +kernel
theorem dX11_says_74 : decode cX11_says 74 = .ok (.iconst 2, 1) := by decide +kernel
theorem dX11_says_75 : decode cX11_says 75 = .ok (.invokevirtual 70, 3) := by decide +kernel
theorem dX11_says_78 : decode cX11_says 78 = .ok (.ireturn, 1) := by decide +kernel
theorem dX11_says_79 : decode cX11_says 79 = .ok (.iload_n 2, 1) := by decide +kernel
theorem dX11_says_80 : decode cX11_says 80 = .ok (.ifCond .ne 11, 3) := by decide +kernel
theorem dX11_says_83 : decode cX11_says 83 = .ok (.aload 4, 2) := by decide +kernel
theorem dX11_says_85 : decode cX11_says 85 = .ok (.getfield 138, 3) := by decide +kernel
theorem dX11_says_88 : decode cX11_says 88 = .ok (.goto 8, 3) := by decide +kernel
theorem dX11_says_91 : decode cX11_says 91 = .ok (.aload 4, 2) := by decide +kernel
theorem dX11_says_93 : decode cX11_says 93 = .ok (.invokevirtual 141, 3) := by decide +kernel
theorem dX11_says_96 : decode cX11_says 96 = .ok (.ireturn, 1) := by decide +kernel
theorem dX11_figure_0 : decode cX11_figure 0 = .ok (.iload_n 1, 1) := by decide +kernel
theorem dX11_figure_1 : decode cX11_figure 1 = .ok (.invokestatic 129, 3) := by decide +kernel
theorem dX11_figure_4 : decode cX11_figure 4 = .ok (.ifCond .ne 9, 3) := by decide +kernel
theorem dX11_figure_7 : decode cX11_figure 7 = .ok (.aload_n 0, 1) := by decide +kernel
theorem dX11_figure_8 : decode cX11_figure 8 = .ok (.iconst 1, 1) := by decide +kernel
theorem dX11_figure_9 : decode cX11_figure 9 = .ok (.invokevirtual 70, 3) := by decide +kernel
theorem dX11_figure_12 : decode cX11_figure 12 = .ok (.ireturn, 1) := by decide +kernel
theorem dX11_figure_13 : decode cX11_figure 13 = .ok (.iload_n 2, 1) := by decide +kernel
theorem dX11_figure_14 : decode cX11_figure 14 = .ok (.invokestatic 145, 3) := by decide +kernel
theorem dX11_figure_17 : decode cX11_figure 17 = .ok (.ifCond .eq 10, 3) := by decide +kernel
theorem dX11_figure_20 : decode cX11_figure 20 = .ok (.iload_n 3, 1) := by decide +kernel
theorem dX11_figure_21 : decode cX11_figure 21 = .ok (.invokestatic 148, 3) := by decide +kernel
theorem dX11_figure_24 : decode cX11_figure 24 = .ok (.ifCond .ne 10, 3) := by decide +kernel
theorem dX11_figure_27 : decode cX11_figure 27 = .ok (.aload_n 0, 1) := by decide +kernel
theorem dX11_figure_28 : decode cX11_figure 28 = .ok (.bipush 6, 2) := by decide +kernel
theorem dX11_figure_30 : decode cX11_figure 30 = .ok (.invokevirtual 70, 3) := by decide +kernel
theorem dX11_figure_33 : decode cX11_figure 33 = .ok (.ireturn, 1) := by decide +kernel
theorem dX11_figure_34 : decode cX11_figure 34 = .ok (.aload_n 0, 1) := by decide +kernel
theorem dX11_figure_35 : decode cX11_figure 35 = .ok (.getfield 31, 3) := by decide +kernel
theorem dX11_figure_38 : decode cX11_figure 38 = .ok (.getfield 151, 3) := by decide +kernel
theorem dX11_figure_41 : decode cX11_figure 41 = .ok (.bipush 8, 2) := by decide +kernel
theorem dX11_figure_43 : decode cX11_figure 43 = .ok (.if_icmp .lt 10, 3) := by decide +kernel
theorem dX11_figure_46 : decode cX11_figure 46 = .ok (.aload_n 0, 1) := by decide +kernel
theorem dX11_figure_47 : decode cX11_figure 47 = .ok (.bipush 7, 2) := by decide +kernel
theorem dX11_figure_49 : decode cX11_figure 49 = .ok (.invokevirtual 70, 3) := by decide +kernel
theorem dX11_figure_52 : decode cX11_figure 52 = .ok (.ireturn, 1) := by decide +kernel
theorem dX11_figure_53 : decode cX11_figure 53 = .ok (.aload_n 0, 1) := by decide +kernel
theorem dX11_figure_54 : decode cX11_figure 54 = .ok (.aload_n 0, 1) := by decide +kernel
theorem dX11_figure_55 : decode cX11_figure 55 = .ok (.getfield 31, 3) := by decide +kernel
theorem dX11_figure_58 : decode cX11_figure 58 = .ok (.iload_n 1, 1) := by decide +kernel
theorem dX11_figure_59 : decode cX11_figure 59 = .ok (.iload_n 2, 1) := by decide +kernel
theorem dX11_figure_60 : decode cX11_figure 60 = .ok (.iload_n 3, 1) := by decide +kernel
theorem dX11_figure_61 : decode cX11_figure 61 = .ok (.invokevirtual 154, 3) := by decide +kernel
theorem dX11_figure_64 : decode cX11_figure 64 = .ok (.aload_n 0, 1) := by decide +kernel
theorem dX11_figure_65 : decode cX11_figure 65 = .ok (.getfield 31, 3) := by decide +kernel
theorem dX11_figure_68 : decode cX11_figure 68 = .ok (.getfield 151, 3) := by decide +kernel
theorem dX11_figure_71 : decode cX11_figure 71 = .ok (.iconst 1, 1) := by decide +kernel
theorem dX11_figure_72 : decode cX11_figure 72 = .ok (.isub, 1) := by decide +kernel
theorem dX11_figure_73 : decode cX11_figure 73 = .ok (.ireturn, 1) := by decide +kernel
theorem dX11_figureOf_0 : decode cX11_figureOf 0 = .ok (.aload_n 0, 1) := by decide +kernel
theorem dX11_figureOf_1 : decode cX11_figureOf 1 = .ok (.aload_n 0, 1) := by decide +kernel
theorem dX11_figureOf_2 : decode cX11_figureOf 2 = .ok (.getfield 31, 3) := by decide +kernel
theorem dX11_figureOf_5 : decode cX11_figureOf 5 = .ok (.iload_n 1, 1) := by decide +kernel
theorem dX11_figureOf_6 : decode cX11_figureOf 6 = .ok (.invokevirtual 114, 3) := by decide +kernel
theorem dX11_figureOf_9 : decode cX11_figureOf 9 = .ok (.astore_n 3, 1) := by decide +kernel
theorem dX11_figureOf_10 : decode cX11_figureOf 10 = .ok (.aload_n 3, 1) := by decide +kernel
theorem dX11_figureOf_11 : decode cX11_figureOf 11 = .ok (.ifnull 12, 3) := by decide +kernel
theorem dX11_figureOf_14 : decode cX11_figureOf 14 = .ok (.iload_n 2, 1) := by decide +kernel
theorem dX11_figureOf_15 : decode cX11_figureOf 15 = .ok (.ifCond .lt 8, 3) := by decide +kernel
theorem dX11_figureOf_18 : decode cX11_figureOf 18 = .ok (.iload_n 2, 1) := by decide +kernel
theorem dX11_figureOf_19 : decode cX11_figureOf 19 = .ok (.iconst 2, 1) := by decide +kernel
theorem dX11_figureOf_20 : decode cX11_figureOf 20 = .ok (.if_icmp .le 9, 3) := by decide +kernel
theorem dX11_figureOf_23 : decode cX11_figureOf 23 = .ok (.aload_n 0, 1) := by decide +kernel
theorem dX11_figureOf_24 : decode cX11_figureOf 24 = .ok (.iconst 5, 1) := by decide +kernel
theorem dX11_figureOf_25 : decode cX11_figureOf 25 = .ok (.invokevirtual 70, 3) := by decide +kernel
theorem dX11_figureOf_28 : decode cX11_figureOf 28 = .ok (.ireturn, 1) := by decide +kernel
theorem dX11_figureOf_29 : decode cX11_figureOf 29 = .ok (.iload_n 2, 1) := by decide +kernel
theorem dX11_figureOf_30 : decode cX11_figureOf 30 = .ok (.ifCond .ne 8, 3) := by decide +kernel
theorem dX11_figureOf_33 : decode cX11_figureOf 33 = .ok (.aload_n 3, 1) := by decide +kernel
theorem dX11_figureOf_34 : decode cX11_figureOf 34 = .ok (.getfield 132, 3) := by decide +kernel
theorem dX11_figureOf_37 : decode cX11_figureOf 37 = .ok (.ireturn, 1) := by decide +kernel
theorem dX11_figureOf_38 : decode cX11_figureOf 38 = .ok (.iload_n 2, 1) := by decide +kernel
theorem dX11_figureOf_39 : decode cX11_figureOf 39 = .ok (.iconst 1, 1) := by decide +kernel
theorem dX11_figureOf_40 : decode cX11_figureOf 40 = .ok (.if_icmp .ne 10, 3) := by decide +kernel
theorem dX11_figureOf_43 : decode cX11_figureOf 43 = .ok (.aload_n 3, 1) := by decide +kernel
theorem dX11_figureOf_44 : decode cX11_figureOf 44 = .ok (.getfield 158, 3) := by decide +kernel
theorem dX11_figureOf_47 : decode cX11_figureOf 47 = .ok (.goto 7, 3) := by decide +kernel
theorem dX11_figureOf_50 : decode cX11_figureOf 50 = .ok (.aload_n 3, 1) := by decide +kernel
theorem dX11_figureOf_51 : decode cX11_figureOf 51 = .ok (.getfield 138, 3) := by decide +kernel
theorem dX11_figureOf_54 : decode cX11_figureOf 54 = .ok (.ireturn, 1) := by decide +kernel
theorem dX11_start_0 : decode cX11_start 0 = .ok (.lload_n 1, 1) := by decide +kernel
theorem dX11_start_1 : decode cX11_start 1 = .ok (.lload_n 3, 1) := by decide +kernel
theorem dX11_start_2 : decode cX11_start 2 = .ok (.invokestatic 161, 3) := by decide +kernel
theorem dX11_start_5 : decode cX11_start 5 = .ok (.ifCond .ne 10, 3) := by decide +kernel
theorem dX11_start_8 : decode cX11_start 8 = .ok (.aload_n 0, 1) := by decide +kernel
theorem dX11_start_9 : decode cX11_start 9 = .ok (.bipush 6, 2) := by decide +kernel
theorem dX11_start_11 : decode cX11_start 11 = .ok (.invokevirtual 70, 3) := by decide +kernel
theorem dX11_start_14 : decode cX11_start 14 = .ok (.ireturn, 1) := by decide +kernel
theorem dX11_start_15 : decode cX11_start 15 = .ok (.aload_n 0, 1) := by decide +kernel
theorem dX11_start_16 : decode cX11_start 16 = .ok (.getfield 31, 3) := by decide +kernel
theorem dX11_start_19 : decode cX11_start 19 = .ok (.lload_n 1, 1) := by decide +kernel
theorem dX11_start_20 : decode cX11_start 20 = .ok (.lload_n 3, 1) := by decide +kernel
theorem dX11_start_21 : decode cX11_start 21 = .ok (.invokevirtual 165, 3) := by decide +kernel
theorem dX11_start_24 : decode cX11_start 24 = .ok (.iconst 1, 1) := by decide +kernel
theorem dX11_start_25 : decode cX11_start 25 = .ok (.ireturn, 1) := by decide +kernel
theorem dX11_barn_0 : decode cX11_barn 0 = .ok (.aload_n 0, 1) := by decide +kernel
theorem dX11_barn_1 : decode cX11_barn 1 = .ok (.iload_n 1, 1) := by decide +kernel
theorem dX11_barn_2 : decode cX11_barn 2 = .ok (.invokevirtual 78, 3) := by decide +kernel
theorem dX11_barn_5 : decode cX11_barn 5 = .ok (.istore_n 2, 1) := by decide +kernel
theorem dX11_barn_6 : decode cX11_barn 6 = .ok (.aload_n 0, 1) := by decide +kernel
theorem dX11_barn_7 : decode cX11_barn 7 = .ok (.iload_n 1, 1) := by decide +kernel
theorem dX11_barn_8 : decode cX11_barn 8 = .ok (.invokevirtual 66, 3) := by decide +kernel
theorem dX11_barn_11 : decode cX11_barn 11 = .ok (.astore_n 3, 1) := by decide +kernel
theorem dX11_barn_12 : decode cX11_barn 12 = .ok (.iload_n 2, 1) := by decide +kernel
theorem dX11_barn_13 : decode cX11_barn 13 = .ok (.ifCond .ne 7, 3) := by decide +kernel
theorem dX11_barn_16 : decode cX11_barn 16 = .ok (.aload_n 3, 1) := by decide +kernel
theorem dX11_barn_17 : decode cX11_barn 17 = .ok (.ifnonnull 9, 3) := by decide +kernel
theorem dX11_barn_20 : decode cX11_barn 20 = .ok (.aload_n 0, 1) := by decide +kernel
theorem dX11_barn_21 : decode cX11_barn 21 = .ok (.iload_n 2, 1) := by decide +kernel
theorem dX11_barn_22 : decode cX11_barn 22 = .ok (.invokevirtual 70, 3) := by decide +kernel
theorem dX11_barn_25 : decode cX11_barn 25 = .ok (.ireturn, 1) := by decide +kernel
theorem dX11_barn_26 : decode cX11_barn 26 = .ok (.aload_n 0, 1) := by decide +kernel
theorem dX11_barn_27 : decode cX11_barn 27 = .ok (.getfield 38, 3) := by decide +kernel
theorem dX11_barn_30 : decode cX11_barn 30 = .ok (.aload_n 0, 1) := by decide +kernel
theorem dX11_barn_31 : decode cX11_barn 31 = .ok (.getfield 31, 3) := by decide +kernel
theorem dX11_barn_34 : decode cX11_barn 34 = .ok (.invokevirtual 169, 3) := by decide +kernel
theorem dX11_barn_37 : decode cX11_barn 37 = .ok (.aload_n 3, 1) := by decide +kernel
theorem dX11_barn_38 : decode cX11_barn 38 = .ok (.invokevirtual 173, 3) := by decide +kernel
theorem dX11_barn_41 : decode cX11_barn 41 = .ok (.aload_n 0, 1) := by decide +kernel
theorem dX11_barn_42 : decode cX11_barn 42 = .ok (.aload_n 3, 1) := by decide +kernel
theorem dX11_barn_43 : decode cX11_barn 43 = .ok (.invokevirtual 176, 3) := by decide +kernel
theorem dX11_barn_46 : decode cX11_barn 46 = .ok (.istore 4, 2) := by decide +kernel
theorem dX11_barn_48 : decode cX11_barn 48 = .ok (.aload_n 0, 1) := by decide +kernel
theorem dX11_barn_49 : decode cX11_barn 49 = .ok (.iload 4, 2) := by decide +kernel
theorem dX11_barn_51 : decode cX11_barn 51 = .ok (.iconst (-1), 1) := by decide +kernel
theorem dX11_barn_52 : decode cX11_barn 52 = .ok (.if_icmp .ne 10, 3) := by decide +kernel
theorem dX11_barn_55 : decode cX11_barn 55 = .ok (.aload_n 3, 1) := by decide +kernel
theorem dX11_barn_56 : decode cX11_barn 56 = .ok (.getfield 180, 3) := by decide +kernel
theorem dX11_barn_59 : decode cX11_barn 59 = .ok (.goto 4, 3) := by decide +kernel
theorem dX11_barn_62 : decode cX11_barn 62 = .ok (.iconst (-1), 1) := by decide +kernel
theorem dX11_barn_63 : decode cX11_barn 63 = .ok (.putfield 61, 3) := by decide +kernel
theorem dX11_barn_66 : decode cX11_barn 66 = .ok (.iload 4, 2) := by decide +kernel
theorem dX11_barn_68 : decode cX11_barn 68 = .ok (.iconst (-1), 1) := by decide +kernel
theorem dX11_barn_69 : decode cX11_barn 69 = .ok (.if_icmp .ne 10, 3) := by decide +kernel
theorem dX11_barn_72 : decode cX11_barn 72 = .ok (.aload_n 0, 1) := by decide +kernel
theorem dX11_barn_73 : decode cX11_barn 73 = .ok (.bipush 6, 2) := by decide +kernel
theorem dX11_barn_75 : decode cX11_barn 75 = .ok (.invokevirtual 70, 3) := by decide +kernel
theorem dX11_barn_78 : decode cX11_barn 78 = .ok (.ireturn, 1) := by decide +kernel
theorem dX11_barn_79 : decode cX11_barn 79 = .ok (.aload_n 0, 1) := by decide +kernel
theorem dX11_barn_80 : decode cX11_barn 80 = .ok (.getfield 31, 3) := by decide +kernel
theorem dX11_barn_83 : decode cX11_barn 83 = .ok (.aload_n 0, 1) := by decide +kernel
theorem dX11_barn_84 : decode cX11_barn 84 = .ok (.getfield 38, 3) := by decide +kernel
theorem dX11_barn_87 : decode cX11_barn 87 = .ok (.invokevirtual 169, 3) := by decide +kernel
theorem dX11_barn_90 : decode cX11_barn 90 = .ok (.iload 4, 2) := by decide +kernel
theorem dX11_barn_92 : decode cX11_barn 92 = .ok (.ireturn, 1) := by decide +kernel
theorem dX11_fault_0 : decode cX11_fault 0 = .ok (.aload_n 0, 1) := by decide +kernel
theorem dX11_fault_1 : decode cX11_fault 1 = .ok (.getfield 61, 3) := by decide +kernel
theorem dX11_fault_4 : decode cX11_fault 4 = .ok (.ireturn, 1) := by decide +kernel
theorem dX11_now_0 : decode cX11_now 0 = .ok (.iload_n 1, 1) := by decide +kernel
theorem dX11_now_1 : decode cX11_now 1 = .ok (.ifCond .eq 14, 3) := by decide +kernel
theorem dX11_now_4 : decode cX11_now 4 = .ok (.iload_n 1, 1) := by decide +kernel
theorem dX11_now_5 : decode cX11_now 5 = .ok (.iconst 1, 1) := by decide +kernel
theorem dX11_now_6 : decode cX11_now 6 = .ok (.if_icmp .eq 9, 3) := by decide +kernel
theorem dX11_now_9 : decode cX11_now 9 = .ok (.aload_n 0, 1) := by decide +kernel
theorem dX11_now_10 : decode cX11_now 10 = .ok (.iconst 5, 1) := by decide +kernel
theorem dX11_now_11 : decode cX11_now 11 = .ok (.invokevirtual 183, 3) := by decide +kernel
theorem dX11_now_14 : decode cX11_now 14 = .ok (.lreturn, 1) := by decide +kernel
theorem dX11_now_15 : decode cX11_now 15 = .ok (.iload_n 1, 1) := by decide +kernel
theorem dX11_now_16 : decode cX11_now 16 = .ok (.ifCond .ne 13, 3) := by decide +kernel
theorem dX11_now_19 : decode cX11_now 19 = .ok (.aload_n 0, 1) := by decide +kernel
theorem dX11_now_20 : decode cX11_now 20 = .ok (.getfield 31, 3) := by decide +kernel
theorem dX11_now_23 : decode cX11_now 23 = .ok (.getfield 186, 3) := by decide +kernel
theorem dX11_now_26 : decode cX11_now 26 = .ok (.goto 10, 3) := by decide +kernel
theorem dX11_now_29 : decode cX11_now 29 = .ok (.aload_n 0, 1) := by decide +kernel
theorem dX11_now_30 : decode cX11_now 30 = .ok (.getfield 31, 3) := by decide +kernel
theorem dX11_now_33 : decode cX11_now 33 = .ok (.getfield 190, 3) := by decide +kernel
theorem dX11_now_36 : decode cX11_now 36 = .ok (.lreturn, 1) := by decide +kernel
theorem dX11_stand_0 : decode cX11_stand 0 = .ok (.iload_n 1, 1) := by decide +kernel
theorem dX11_stand_1 : decode cX11_stand 1 = .ok (.ifCond .lt 15, 3) := by decide +kernel
theorem dX11_stand_4 : decode cX11_stand 4 = .ok (.iload_n 1, 1) := by decide +kernel
theorem dX11_stand_5 : decode cX11_stand 5 = .ok (.aload_n 0, 1) := by decide +kernel
theorem dX11_stand_6 : decode cX11_stand 6 = .ok (.getfield 31, 3) := by decide +kernel
theorem dX11_stand_9 : decode cX11_stand 9 = .ok (.getfield 193, 3) := by decide +kernel
theorem dX11_stand_12 : decode cX11_stand 12 = .ok (.arraylength, 1) := by decide +kernel
theorem dX11_stand_13 : decode cX11_stand 13 = .ok (.if_icmp .lt 9, 3) := by decide +kernel
theorem dX11_stand_16 : decode cX11_stand 16 = .ok (.aload_n 0, 1) := by decide +kernel
theorem dX11_stand_17 : decode cX11_stand 17 = .ok (.iconst 5, 1) := by decide +kernel
theorem dX11_stand_18 : decode cX11_stand 18 = .ok (.invokevirtual 70, 3) := by decide +kernel
theorem dX11_stand_21 : decode cX11_stand 21 = .ok (.ireturn, 1) := by decide +kernel
theorem dX11_stand_22 : decode cX11_stand 22 = .ok (.aload_n 0, 1) := by decide +kernel
theorem dX11_stand_23 : decode cX11_stand 23 = .ok (.getfield 31, 3) := by decide +kernel
theorem dX11_stand_26 : decode cX11_stand 26 = .ok (.getfield 193, 3) := by decide +kernel
theorem dX11_stand_29 : decode cX11_stand 29 = .ok (.iload_n 1, 1) := by decide +kernel
theorem dX11_stand_30 : decode cX11_stand 30 = .ok (.iaload, 1) := by decide +kernel
theorem dX11_stand_31 : decode cX11_stand 31 = .ok (.ireturn, 1) := by decide +kernel
theorem dX11_call_0 : decode cX11_call 0 = .ok (.aload_n 0, 1) := by decide +kernel
theorem dX11_call_1 : decode cX11_call 1 = .ok (.aload_n 0, 1) := by decide +kernel
theorem dX11_call_2 : decode cX11_call 2 = .ok (.getfield 31, 3) := by decide +kernel
theorem dX11_call_5 : decode cX11_call 5 = .ok (.iload_n 1, 1) := by decide +kernel
theorem dX11_call_6 : decode cX11_call 6 = .ok (.invokevirtual 114, 3) := by decide +kernel
theorem dX11_call_9 : decode cX11_call 9 = .ok (.astore_n 2, 1) := by decide +kernel
theorem dX11_call_10 : decode cX11_call 10 = .ok (.aload_n 2, 1) := by decide +kernel
theorem dX11_call_11 : decode cX11_call 11 = .ok (.ifnonnull 9, 3) := by decide +kernel
theorem dX11_call_14 : decode cX11_call 14 = .ok (.aload_n 0, 1) := by decide +kernel
theorem dX11_call_15 : decode cX11_call 15 = .ok (.iconst 1, 1) := by decide +kernel
theorem dX11_call_16 : decode cX11_call 16 = .ok (.invokevirtual 70, 3) := by decide +kernel
theorem dX11_call_19 : decode cX11_call 19 = .ok (.ireturn, 1) := by decide +kernel
theorem dX11_call_20 : decode cX11_call 20 = .ok (.aload_n 0, 1) := by decide +kernel
theorem dX11_call_21 : decode cX11_call 21 = .ok (.getfield 31, 3) := by decide +kernel
theorem dX11_call_24 : decode cX11_call 24 = .ok (.aload_n 2, 1) := by decide +kernel
theorem dX11_call_25 : decode cX11_call 25 = .ok (.invokevirtual 196, 3) := by decide +kernel
theorem dX11_call_28 : decode cX11_call 28 = .ok (.ifCond .eq 13, 3) := by decide +kernel
theorem dX11_call_31 : decode cX11_call 31 = .ok (.aload_n 0, 1) := by decide +kernel
theorem dX11_call_32 : decode cX11_call 32 = .ok (.getfield 31, 3) := by decide +kernel
theorem dX11_call_35 : decode cX11_call 35 = .ok (.getfield 200, 3) := by decide +kernel
theorem dX11_call_38 : decode cX11_call 38 = .ok (.goto 9, 3) := by decide +kernel
theorem dX11_call_41 : decode cX11_call 41 = .ok (.aload_n 0, 1) := by decide +kernel
theorem dX11_call_42 : decode cX11_call 42 = .ok (.bipush 7, 2) := by decide +kernel
theorem dX11_call_44 : decode cX11_call 44 = .ok (.invokevirtual 70, 3) := by decide +kernel
theorem dX11_call_47 : decode cX11_call 47 = .ok (.ireturn, 1) := by decide +kernel
theorem dX11_judge_0 : decode cX11_judge 0 = .ok (.aload_n 0, 1) := by decide +kernel
theorem dX11_judge_1 : decode cX11_judge 1 = .ok (.iload_n 1, 1) := by decide +kernel
theorem dX11_judge_2 : decode cX11_judge 2 = .ok (.iload_n 2, 1) := by decide +kernel
theorem dX11_judge_3 : decode cX11_judge 3 = .ok (.invokevirtual 203, 3) := by decide +kernel
theorem dX11_judge_6 : decode cX11_judge 6 = .ok (.istore_n 3, 1) := by decide +kernel
theorem dX11_judge_7 : decode cX11_judge 7 = .ok (.iload_n 3, 1) := by decide +kernel
theorem dX11_judge_8 : decode cX11_judge 8 = .ok (.ifCond .eq 9, 3) := by decide +kernel
theorem dX11_judge_11 : decode cX11_judge 11 = .ok (.aload_n 0, 1) := by decide +kernel
theorem dX11_judge_12 : decode cX11_judge 12 = .ok (.iload_n 3, 1) := by decide +kernel
theorem dX11_judge_13 : decode cX11_judge 13 = .ok (.invokevirtual 70, 3) := by decide +kernel
theorem dX11_judge_16 : decode cX11_judge 16 = .ok (.ireturn, 1) := by decide +kernel
theorem dX11_judge_17 : decode cX11_judge 17 = .ok (.aload_n 0, 1) := by decide +kernel
theorem dX11_judge_18 : decode cX11_judge 18 = .ok (.aload_n 0, 1) := by decide +kernel
theorem dX11_judge_19 : decode cX11_judge 19 = .ok (.getfield 38, 3) := by decide +kernel
theorem dX11_judge_22 : decode cX11_judge 22 = .ok (.iload_n 1, 1) := by decide +kernel
theorem dX11_judge_23 : decode cX11_judge 23 = .ok (.iload_n 2, 1) := by decide +kernel
theorem dX11_judge_24 : decode cX11_judge 24 = .ok (.invokevirtual 206, 3) := by decide +kernel
theorem dX11_judge_27 : decode cX11_judge 27 = .ok (.istore 4, 2) := by decide +kernel
theorem dX11_judge_29 : decode cX11_judge 29 = .ok (.iload 4, 2) := by decide +kernel
theorem dX11_judge_31 : decode cX11_judge 31 = .ok (.iload_n 2, 1) := by decide +kernel
theorem dX11_judge_32 : decode cX11_judge 32 = .ok (.if_icmp .ge 8, 3) := by decide +kernel
theorem dX11_judge_35 : decode cX11_judge 35 = .ok (.iload 4, 2) := by decide +kernel
theorem dX11_judge_37 : decode cX11_judge 37 = .ok (.goto 4, 3) := by decide +kernel
theorem dX11_judge_40 : decode cX11_judge 40 = .ok (.iconst (-1), 1) := by decide +kernel
theorem dX11_judge_41 : decode cX11_judge 41 = .ok (.ireturn, 1) := by decide +kernel
theorem dX11_told_0 : decode cX11_told 0 = .ok (.aload_n 0, 1) := by decide +kernel
theorem dX11_told_1 : decode cX11_told 1 = .ok (.iload_n 1, 1) := by decide +kernel
theorem dX11_told_2 : decode cX11_told 2 = .ok (.iload_n 2, 1) := by decide +kernel
theorem dX11_told_3 : decode cX11_told 3 = .ok (.invokevirtual 203, 3) := by decide +kernel
theorem dX11_told_6 : decode cX11_told 6 = .ok (.istore 4, 2) := by decide +kernel
theorem dX11_told_8 : decode cX11_told 8 = .ok (.iload 4, 2) := by decide +kernel
theorem dX11_told_10 : decode cX11_told 10 = .ok (.ifCond .ne 16, 3) := by decide +kernel
theorem dX11_told_13 : decode cX11_told 13 = .ok (.iload_n 3, 1) := by decide +kernel
theorem dX11_told_14 : decode cX11_told 14 = .ok (.ifCond .lt 9, 3) := by decide +kernel
theorem dX11_told_17 : decode cX11_told 17 = .ok (.iload_n 3, 1) := by decide +kernel
theorem dX11_told_18 : decode cX11_told 18 = .ok (.bipush 6, 2) := by decide +kernel
theorem dX11_told_20 : decode cX11_told 20 = .ok (.if_icmp .le 6, 3) := by decide +kernel
theorem dX11_told_23 : decode cX11_told 23 = .ok (.iconst 5, 1) := by decide +kernel
theorem dX11_told_24 : decode cX11_told 24 = .ok (.istore 4, 2) := by decide +kernel
theorem dX11_told_26 : decode cX11_told 26 = .ok (.iload 4, 2) := by decide +kernel
theorem dX11_told_28 : decode cX11_told 28 = .ok (.ifCond .ne 21, 3) := by decide +kernel
theorem dX11_told_31 : decode cX11_told 31 = .ok (.aload_n 0, 1) := by decide +kernel
theorem dX11_told_32 : decode cX11_told 32 = .ok (.aload_n 0, 1) := by decide +kernel
theorem dX11_told_33 : decode cX11_told 33 = .ok (.getfield 38, 3) := by decide +kernel
theorem dX11_told_36 : decode cX11_told 36 = .ok (.iload_n 1, 1) := by decide +kernel
theorem dX11_told_37 : decode cX11_told 37 = .ok (.iload_n 2, 1) := by decide +kernel
theorem dX11_told_38 : decode cX11_told 38 = .ok (.invokevirtual 206, 3) := by decide +kernel
theorem dX11_told_41 : decode cX11_told 41 = .ok (.iload_n 2, 1) := by decide +kernel
theorem dX11_told_42 : decode cX11_told 42 = .ok (.if_icmp .ge 7, 3) := by decide +kernel
theorem dX11_told_45 : decode cX11_told 45 = .ok (.bipush 6, 2) := by decide +kernel
theorem dX11_told_47 : decode cX11_told 47 = .ok (.istore 4, 2) := by decide +kernel
theorem dX11_told_49 : decode cX11_told 49 = .ok (.iload 4, 2) := by decide +kernel
theorem dX11_told_51 : decode cX11_told 51 = .ok (.ifCond .eq 10, 3) := by decide +kernel
theorem dX11_told_54 : decode cX11_told 54 = .ok (.aload_n 0, 1) := by decide +kernel
theorem dX11_told_55 : decode cX11_told 55 = .ok (.iload 4, 2) := by decide +kernel
theorem dX11_told_57 : decode cX11_told 57 = .ok (.invokevirtual 183, 3) := by decide +kernel
theorem dX11_told_60 : decode cX11_told 60 = .ok (.lreturn, 1) := by decide +kernel
theorem dX11_told_61 : decode cX11_told 61 = .ok (.iload_n 3, 1) := by decide +kernel
theorem dX11_told_62 : decode cX11_told 62 = .ok (.iconst 2, 1) := by decide +kernel
theorem dX11_told_63 : decode cX11_told 63 = .ok (.if_icmp .ge 25, 3) := by decide +kernel
theorem dX11_told_66 : decode cX11_told 66 = .ok (.iload_n 3, 1) := by decide +kernel
theorem dX11_told_67 : decode cX11_told 67 = .ok (.ifCond .ne 13, 3) := by decide +kernel
theorem dX11_told_70 : decode cX11_told 70 = .ok (.aload_n 0, 1) := by decide +kernel
theorem dX11_told_71 : decode cX11_told 71 = .ok (.getfield 38, 3) := by decide +kernel
theorem dX11_told_74 : decode cX11_told 74 = .ok (.getfield 186, 3) := by decide +kernel
theorem dX11_told_77 : decode cX11_told 77 = .ok (.goto 10, 3) := by decide +kernel
theorem dX11_told_80 : decode cX11_told 80 = .ok (.aload_n 0, 1) := by decide +kernel
theorem dX11_told_81 : decode cX11_told 81 = .ok (.getfield 38, 3) := by decide +kernel
theorem dX11_told_84 : decode cX11_told 84 = .ok (.getfield 190, 3) := by decide +kernel
theorem dX11_told_87 : decode cX11_told 87 = .ok (.lreturn, 1) := by decide +kernel
theorem dX11_told_88 : decode cX11_told 88 = .ok (.iload_n 3, 1) := by decide +kernel
theorem dX11_told_89 : decode cX11_told 89 = .ok (.bipush 6, 2) := by decide +kernel
theorem dX11_told_91 : decode cX11_told 91 = .ok (.if_icmp .ne 22, 3) := by decide +kernel
theorem dX11_told_94 : decode cX11_told 94 = .ok (.aload_n 0, 1) := by decide +kernel
theorem dX11_told_95 : decode cX11_told 95 = .ok (.getfield 38, 3) := by decide +kernel
theorem dX11_told_98 : decode cX11_told 98 = .ok (.getfield 210, 3) := by decide +kernel
theorem dX11_told_101 : decode cX11_told 101 = .ok (.aload_n 0, 1) := by decide +kernel
theorem dX11_told_102 : decode cX11_told 102 = .ok (.getfield 31, 3) := by decide +kernel
theorem dX11_told_105 : decode cX11_told 105 = .ok (.getfield 210, 3) := by decide +kernel
theorem dX11_told_108 : decode cX11_told 108 = .ok (.isub, 1) := by decide +kernel
theorem dX11_told_109 : decode cX11_told 109 = .ok (.i2l, 1) := by decide +kernel
theorem dX11_told_110 : decode cX11_told 110 = .ok (.goto 15, 3) := by decide +kernel
theorem dX11_told_113 : decode cX11_told 113 = .ok (.aload_n 0, 1) := by decide +kernel
theorem dX11_told_114 : decode cX11_told 114 = .ok (.getfield 38, 3) := by decide +kernel
theorem dX11_told_117 : decode cX11_told 117 = .ok (.getfield 193, 3) := by decide +kernel
theorem dX11_told_120 : decode cX11_told 120 = .ok (.iload_n 3, 1) := by decide +kernel
theorem dX11_told_121 : decode cX11_told 121 = .ok (.iconst 2, 1) := by decide +kernel
theorem dX11_told_122 : decode cX11_told 122 = .ok (.isub, 1) := by decide +kernel
theorem dX11_told_123 : decode cX11_told 123 = .ok (.iaload, 1) := by decide +kernel
theorem dX11_told_124 : decode cX11_told 124 = .ok (.i2l, 1) := by decide +kernel
theorem dX11_told_125 : decode cX11_told 125 = .ok (.lreturn, 1) := by decide +kernel
theorem dX11_dances_0 : decode cX11_dances 0 = .ok (.aload_n 0, 1) := by decide +kernel
theorem dX11_dances_1 : decode cX11_dances 1 = .ok (.iload_n 1, 1) := by decide +kernel
theorem dX11_dances_2 : decode cX11_dances 2 = .ok (.iload_n 2, 1) := by decide +kernel
theorem dX11_dances_3 : decode cX11_dances 3 = .ok (.invokevirtual 203, 3) := by decide +kernel
theorem dX11_dances_6 : decode cX11_dances 6 = .ok (.istore_n 3, 1) := by decide +kernel
theorem dX11_dances_7 : decode cX11_dances 7 = .ok (.iload_n 3, 1) := by decide +kernel
theorem dX11_dances_8 : decode cX11_dances 8 = .ok (.ifCond .ne 20, 3) := by decide +kernel
theorem dX11_dances_11 : decode cX11_dances 11 = .ok (.aload_n 0, 1) := by decide +kernel
theorem dX11_dances_12 : decode cX11_dances 12 = .ok (.aload_n 0, 1) := by decide +kernel
theorem dX11_dances_13 : decode cX11_dances 13 = .ok (.getfield 38, 3) := by decide +kernel
theorem dX11_dances_16 : decode cX11_dances 16 = .ok (.iload_n 1, 1) := by decide +kernel
theorem dX11_dances_17 : decode cX11_dances 17 = .ok (.iload_n 2, 1) := by decide +kernel
theorem dX11_dances_18 : decode cX11_dances 18 = .ok (.invokevirtual 206, 3) := by decide +kernel
theorem dX11_dances_21 : decode cX11_dances 21 = .ok (.iload_n 2, 1) := by decide +kernel
theorem dX11_dances_22 : decode cX11_dances 22 = .ok (.if_icmp .ge 6, 3) := by decide +kernel
theorem dX11_dances_25 : decode cX11_dances 25 = .ok (.bipush 6, 2) := by decide +kernel
theorem dX11_dances_27 : decode cX11_dances 27 = .ok (.istore_n 3, 1) := by decide +kernel
theorem dX11_dances_28 : decode cX11_dances 28 = .ok (.iload_n 3, 1) := by decide +kernel
theorem dX11_dances_29 : decode cX11_dances 29 = .ok (.ifCond .eq 9, 3) := by decide +kernel
theorem dX11_dances_32 : decode cX11_dances 32 = .ok (.aload_n 0, 1) := by decide +kernel
theorem dX11_dances_33 : decode cX11_dances 33 = .ok (.iload_n 3, 1) := by decide +kernel
theorem dX11_dances_34 : decode cX11_dances 34 = .ok (.invokevirtual 70, 3) := by decide +kernel
theorem dX11_dances_37 : decode cX11_dances 37 = .ok (.ireturn, 1) := by decide +kernel
theorem dX11_dances_38 : decode cX11_dances 38 = .ok (.aload_n 0, 1) := by decide +kernel
theorem dX11_dances_39 : decode cX11_dances 39 = .ok (.getfield 31, 3) := by decide +kernel
theorem dX11_dances_42 : decode cX11_dances 42 = .ok (.aload_n 0, 1) := by decide +kernel
theorem dX11_dances_43 : decode cX11_dances 43 = .ok (.getfield 38, 3) := by decide +kernel
theorem dX11_dances_46 : decode cX11_dances 46 = .ok (.invokevirtual 169, 3) := by decide +kernel
theorem dX11_dances_49 : decode cX11_dances 49 = .ok (.aload_n 0, 1) := by decide +kernel
theorem dX11_dances_50 : decode cX11_dances 50 = .ok (.getfield 31, 3) := by decide +kernel
theorem dX11_dances_53 : decode cX11_dances 53 = .ok (.getfield 200, 3) := by decide +kernel
theorem dX11_dances_56 : decode cX11_dances 56 = .ok (.ireturn, 1) := by decide +kernel
theorem dX11_repeated_0 : decode cX11_repeated 0 = .ok (.aload_n 0, 1) := by decide +kernel
theorem dX11_repeated_1 : decode cX11_repeated 1 = .ok (.iload_n 1, 1) := by decide +kernel
theorem dX11_repeated_2 : decode cX11_repeated 2 = .ok (.iload_n 2, 1) := by decide +kernel
theorem dX11_repeated_3 : decode cX11_repeated 3 = .ok (.invokevirtual 203, 3) := by decide +kernel
theorem dX11_repeated_6 : decode cX11_repeated 6 = .ok (.istore 5, 2) := by decide +kernel
theorem dX11_repeated_8 : decode cX11_repeated 8 = .ok (.iload 5, 2) := by decide +kernel
theorem dX11_repeated_10 : decode cX11_repeated 10 = .ok (.ifCond .ne 17, 3) := by decide +kernel
theorem dX11_repeated_13 : decode cX11_repeated 13 = .ok (.iload 4, 2) := by decide +kernel
theorem dX11_repeated_15 : decode cX11_repeated 15 = .ok (.ifCond .lt 9, 3) := by decide +kernel
theorem dX11_repeated_18 : decode cX11_repeated 18 = .ok (.iload 4, 2) := by decide +kernel
theorem dX11_repeated_20 : decode cX11_repeated 20 = .ok (.iconst 2, 1) := by decide +kernel
theorem dX11_repeated_21 : decode cX11_repeated 21 = .ok (.if_icmp .le 6, 3) := by decide +kernel
theorem dX11_repeated_24 : decode cX11_repeated 24 = .ok (.iconst 5, 1) := by decide +kernel
theorem dX11_repeated_25 : decode cX11_repeated 25 = .ok (.istore 5, 2) := by decide +kernel
theorem dX11_repeated_27 : decode cX11_repeated 27 = .ok (.iload 5, 2) := by decide +kernel
theorem dX11_repeated_29 : decode cX11_repeated 29 = .ok (.ifCond .ne 27, 3) := by decide +kernel
theorem dX11_repeated_32 : decode cX11_repeated 32 = .ok (.iload_n 3, 1) := by decide +kernel
theorem dX11_repeated_33 : decode cX11_repeated 33 = .ok (.ifCond .lt 19, 3) := by decide +kernel
theorem dX11_repeated_36 : decode cX11_repeated 36 = .ok (.iload_n 3, 1) := by decide +kernel
theorem dX11_repeated_37 : decode cX11_repeated 37 = .ok (.sipush 10000, 3) := by decide +kernel
theorem dX11_repeated_40 : decode cX11_repeated 40 = .ok (.if_icmp .gt 12, 3) := by decide +kernel
theorem dX11_repeated_43 : decode cX11_repeated 43 = .ok (.aload_n 0, 1) := by decide +kernel
theorem dX11_repeated_44 : decode cX11_repeated 44 = .ok (.iload_n 1, 1) := by decide +kernel
theorem dX11_repeated_45 : decode cX11_repeated 45 = .ok (.iload_n 2, 1) := by decide +kernel
theorem dX11_repeated_46 : decode cX11_repeated 46 = .ok (.invokevirtual 213, 3) := by decide +kernel
theorem dX11_repeated_49 : decode cX11_repeated 49 = .ok (.ifCond .ne 7, 3) := by decide +kernel
theorem dX11_repeated_52 : decode cX11_repeated 52 = .ok (.bipush 6, 2) := by decide +kernel
theorem dX11_repeated_54 : decode cX11_repeated 54 = .ok (.istore 5, 2) := by decide +kernel
theorem dX11_repeated_56 : decode cX11_repeated 56 = .ok (.iload 5, 2) := by decide +kernel
theorem dX11_repeated_58 : decode cX11_repeated 58 = .ok (.ifCond .ne 17, 3) := by decide +kernel
theorem dX11_repeated_61 : decode cX11_repeated 61 = .ok (.aload_n 0, 1) := by decide +kernel
theorem dX11_repeated_62 : decode cX11_repeated 62 = .ok (.iload_n 1, 1) := by decide +kernel
theorem dX11_repeated_63 : decode cX11_repeated 63 = .ok (.iload_n 2, 1) := by decide +kernel
theorem dX11_repeated_64 : decode cX11_repeated 64 = .ok (.iload_n 3, 1) := by decide +kernel
theorem dX11_repeated_65 : decode cX11_repeated 65 = .ok (.invokevirtual 216, 3) := by decide +kernel
theorem dX11_repeated_68 : decode cX11_repeated 68 = .ok (.ifCond .ne 7, 3) := by decide +kernel
theorem dX11_repeated_71 : decode cX11_repeated 71 = .ok (.bipush 7, 2) := by decide +kernel
theorem dX11_repeated_73 : decode cX11_repeated 73 = .ok (.istore 5, 2) := by decide +kernel
theorem dX11_repeated_75 : decode cX11_repeated 75 = .ok (.iload 5, 2) := by decide +kernel
theorem dX11_repeated_77 : decode cX11_repeated 77 = .ok (.ifCond .eq 10, 3) := by decide +kernel
theorem dX11_repeated_80 : decode cX11_repeated 80 = .ok (.aload_n 0, 1) := by decide +kernel
theorem dX11_repeated_81 : decode cX11_repeated 81 = .ok (.iload 5, 2) := by decide +kernel
theorem dX11_repeated_83 : decode cX11_repeated 83 = .ok (.invokevirtual 183, 3) := by decide +kernel
theorem dX11_repeated_86 : decode cX11_repeated 86 = .ok (.lreturn, 1) := by decide +kernel
theorem dX11_repeated_87 : decode cX11_repeated 87 = .ok (.iload 4, 2) := by decide +kernel
theorem dX11_repeated_89 : decode cX11_repeated 89 = .ok (.iconst 2, 1) := by decide +kernel
theorem dX11_repeated_90 : decode cX11_repeated 90 = .ok (.if_icmp .ne 14, 3) := by decide +kernel
theorem dX11_repeated_93 : decode cX11_repeated 93 = .ok (.aload_n 0, 1) := by decide +kernel
theorem dX11_repeated_94 : decode cX11_repeated 94 = .ok (.getfield 38, 3) := by decide +kernel
theorem dX11_repeated_97 : decode cX11_repeated 97 = .ok (.getfield 193, 3) := by decide +kernel
theorem dX11_repeated_100 : decode cX11_repeated 100 = .ok (.iconst 0, 1) := by decide +kernel
theorem dX11_repeated_101 : decode cX11_repeated 101 = .ok (.iaload, 1) := by decide +kernel
theorem dX11_repeated_102 : decode cX11_repeated 102 = .ok (.i2l, 1) := by decide +kernel
theorem dX11_repeated_103 : decode cX11_repeated 103 = .ok (.lreturn, 1) := by decide +kernel
theorem dX11_repeated_104 : decode cX11_repeated 104 = .ok (.iload 4, 2) := by decide +kernel
theorem dX11_repeated_106 : decode cX11_repeated 106 = .ok (.ifCond .ne 13, 3) := by decide +kernel
theorem dX11_repeated_109 : decode cX11_repeated 109 = .ok (.aload_n 0, 1) := by decide +kernel
theorem dX11_repeated_110 : decode cX11_repeated 110 = .ok (.getfield 38, 3) := by decide +kernel
theorem dX11_repeated_113 : decode cX11_repeated 113 = .ok (.getfield 186, 3) := by decide +kernel
theorem dX11_repeated_116 : decode cX11_repeated 116 = .ok (.goto 10, 3) := by decide +kernel
theorem dX11_repeated_119 : decode cX11_repeated 119 = .ok (.aload_n 0, 1) := by decide +kernel
theorem dX11_repeated_120 : decode cX11_repeated 120 = .ok (.getfield 38, 3) := by decide +kernel
theorem dX11_repeated_123 : decode cX11_repeated 123 = .ok (.getfield 190, 3) := by decide +kernel
theorem dX11_repeated_126 : decode cX11_repeated 126 = .ok (.lreturn, 1) := by decide +kernel
theorem dX11_same_0 : decode cX11_same 0 = .ok (.aload_n 0, 1) := by decide +kernel
theorem dX11_same_1 : decode cX11_same 1 = .ok (.iload_n 1, 1) := by decide +kernel
theorem dX11_same_2 : decode cX11_same 2 = .ok (.iload_n 3, 1) := by decide +kernel
theorem dX11_same_3 : decode cX11_same 3 = .ok (.invokevirtual 203, 3) := by decide +kernel
theorem dX11_same_6 : decode cX11_same 6 = .ok (.aload_n 0, 1) := by decide +kernel
theorem dX11_same_7 : decode cX11_same 7 = .ok (.iload_n 2, 1) := by decide +kernel
theorem dX11_same_8 : decode cX11_same 8 = .ok (.iload_n 3, 1) := by decide +kernel
theorem dX11_same_9 : decode cX11_same 9 = .ok (.invokevirtual 203, 3) := by decide +kernel
theorem dX11_same_12 : decode cX11_same 12 = .ok (.invokestatic 89, 3) := by decide +kernel
theorem dX11_same_15 : decode cX11_same 15 = .ok (.istore 5, 2) := by decide +kernel
theorem dX11_same_17 : decode cX11_same 17 = .ok (.iload 5, 2) := by decide +kernel
theorem dX11_same_19 : decode cX11_same 19 = .ok (.ifCond .ne 35, 3) := by decide +kernel
theorem dX11_same_22 : decode cX11_same 22 = .ok (.aload_n 0, 1) := by decide +kernel
theorem dX11_same_23 : decode cX11_same 23 = .ok (.aload_n 0, 1) := by decide +kernel
theorem dX11_same_24 : decode cX11_same 24 = .ok (.getfield 38, 3) := by decide +kernel
theorem dX11_same_27 : decode cX11_same 27 = .ok (.iload_n 1, 1) := by decide +kernel
theorem dX11_same_28 : decode cX11_same 28 = .ok (.iload_n 3, 1) := by decide +kernel
theorem dX11_same_29 : decode cX11_same 29 = .ok (.invokevirtual 206, 3) := by decide +kernel
theorem dX11_same_32 : decode cX11_same 32 = .ok (.iload_n 3, 1) := by decide +kernel
theorem dX11_same_33 : decode cX11_same 33 = .ok (.if_icmp .lt 17, 3) := by decide +kernel
theorem dX11_same_36 : decode cX11_same 36 = .ok (.aload_n 0, 1) := by decide +kernel
theorem dX11_same_37 : decode cX11_same 37 = .ok (.aload_n 0, 1) := by decide +kernel
theorem dX11_same_38 : decode cX11_same 38 = .ok (.getfield 41, 3) := by decide +kernel
theorem dX11_same_41 : decode cX11_same 41 = .ok (.iload_n 2, 1) := by decide +kernel
theorem dX11_same_42 : decode cX11_same 42 = .ok (.iload_n 3, 1) := by decide +kernel
theorem dX11_same_43 : decode cX11_same 43 = .ok (.invokevirtual 206, 3) := by decide +kernel
theorem dX11_same_46 : decode cX11_same 46 = .ok (.iload_n 3, 1) := by decide +kernel
theorem dX11_same_47 : decode cX11_same 47 = .ok (.if_icmp .ge 7, 3) := by decide +kernel
theorem dX11_same_50 : decode cX11_same 50 = .ok (.bipush 6, 2) := by decide +kernel
theorem dX11_same_52 : decode cX11_same 52 = .ok (.istore 5, 2) := by decide +kernel
theorem dX11_same_54 : decode cX11_same 54 = .ok (.iload 5, 2) := by decide +kernel
theorem dX11_same_56 : decode cX11_same 56 = .ok (.ifCond .eq 10, 3) := by decide +kernel
theorem dX11_same_59 : decode cX11_same 59 = .ok (.aload_n 0, 1) := by decide +kernel
theorem dX11_same_60 : decode cX11_same 60 = .ok (.iload 5, 2) := by decide +kernel
theorem dX11_same_62 : decode cX11_same 62 = .ok (.invokevirtual 70, 3) := by decide +kernel
theorem dX11_same_65 : decode cX11_same 65 = .ok (.ireturn, 1) := by decide +kernel
theorem dX11_same_66 : decode cX11_same 66 = .ok (.aload_n 0, 1) := by decide +kernel
theorem dX11_same_67 : decode cX11_same 67 = .ok (.getfield 38, 3) := by decide +kernel
theorem dX11_same_70 : decode cX11_same 70 = .ok (.getfield 186, 3) := by decide +kernel
theorem dX11_same_73 : decode cX11_same 73 = .ok (.aload_n 0, 1) := by decide +kernel
theorem dX11_same_74 : decode cX11_same 74 = .ok (.getfield 41, 3) := by decide +kernel
theorem dX11_same_77 : decode cX11_same 77 = .ok (.getfield 186, 3) := by decide +kernel
theorem dX11_same_80 : decode cX11_same 80 = .ok (.lcmp, 1) := by decide +kernel
theorem dX11_same_81 : decode cX11_same 81 = .ok (.ifCond .ne 25, 3) := by decide +kernel
theorem dX11_same_84 : decode cX11_same 84 = .ok (.aload_n 0, 1) := by decide +kernel
theorem dX11_same_85 : decode cX11_same 85 = .ok (.getfield 38, 3) := by decide +kernel
theorem dX11_same_88 : decode cX11_same 88 = .ok (.getfield 190, 3) := by decide +kernel
theorem dX11_same_91 : decode cX11_same 91 = .ok (.aload_n 0, 1) := by decide +kernel
theorem dX11_same_92 : decode cX11_same 92 = .ok (.getfield 41, 3) := by decide +kernel
theorem dX11_same_95 : decode cX11_same 95 = .ok (.getfield 190, 3) := by decide +kernel
theorem dX11_same_98 : decode cX11_same 98 = .ok (.lcmp, 1) := by decide +kernel
theorem dX11_same_99 : decode cX11_same 99 = .ok (.ifCond .ne 7, 3) := by decide +kernel
theorem dX11_same_102 : decode cX11_same 102 = .ok (.iconst 1, 1) := by decide +kernel
theorem dX11_same_103 : decode cX11_same 103 = .ok (.goto 4, 3) := by decide +kernel
theorem dX11_same_106 : decode cX11_same 106 = .ok (.iconst 0, 1) := by decide +kernel
theorem dX11_same_107 : decode cX11_same 107 = .ok (.istore 6, 2) := by decide +kernel
theorem dX11_same_109 : decode cX11_same 109 = .ok (.iload 6, 2) := by decide +kernel
theorem dX11_same_111 : decode cX11_same 111 = .ok (.ifCond .eq 26, 3) := by decide +kernel
theorem dX11_same_114 : decode cX11_same 114 = .ok (.iload 4, 2) := by decide +kernel
theorem dX11_same_116 : decode cX11_same 116 = .ok (.ifCond .eq 17, 3) := by decide +kernel
theorem dX11_same_119 : decode cX11_same 119 = .ok (.aload_n 0, 1) := by decide +kernel
theorem dX11_same_120 : decode cX11_same 120 = .ok (.getfield 38, 3) := by decide +kernel
theorem dX11_same_123 : decode cX11_same 123 = .ok (.aload_n 0, 1) := by decide +kernel
theorem dX11_same_124 : decode cX11_same 124 = .ok (.getfield 41, 3) := by decide +kernel
theorem dX11_same_127 : decode cX11_same 127 = .ok (.invokevirtual 220, 3) := by decide +kernel
theorem dX11_same_130 : decode cX11_same 130 = .ok (.ifCond .eq 7, 3) := by decide +kernel
theorem dX11_same_133 : decode cX11_same 133 = .ok (.iconst 1, 1) := by decide +kernel
theorem dX11_same_134 : decode cX11_same 134 = .ok (.goto 4, 3) := by decide +kernel
theorem dX11_same_137 : decode cX11_same 137 = .ok (.iconst 0, 1) := by decide +kernel
theorem dX11_same_138 : decode cX11_same 138 = .ok (.ireturn, 1) := by decide +kernel
theorem dX11_undo_0 : decode cX11_undo 0 = .ok (.aload_n 0, 1) := by decide +kernel
theorem dX11_undo_1 : decode cX11_undo 1 = .ok (.getfield 31, 3) := by decide +kernel
theorem dX11_undo_4 : decode cX11_undo 4 = .ok (.getfield 186, 3) := by decide +kernel
theorem dX11_undo_7 : decode cX11_undo 7 = .ok (.aload_n 0, 1) := by decide +kernel
theorem dX11_undo_8 : decode cX11_undo 8 = .ok (.getfield 31, 3) := by decide +kernel
theorem dX11_undo_11 : decode cX11_undo 11 = .ok (.getfield 190, 3) := by decide +kernel
theorem dX11_undo_14 : decode cX11_undo 14 = .ok (.ldc2_w 224, 3) := by decide +kernel
theorem dX11_undo_17 : decode cX11_undo 17 = .ok (.invokestatic 226, 3) := by decide +kernel
theorem dX11_undo_20 : decode cX11_undo 20 = .ok (.lreturn, 1) := by decide +kernel
theorem dX11_undoes_0 : decode cX11_undoes 0 = .ok (.lload_n 1, 1) := by decide +kernel
theorem dX11_undoes_1 : decode cX11_undoes 1 = .ok (.lconst 0, 1) := by decide +kernel
theorem dX11_undoes_2 : decode cX11_undoes 2 = .ok (.lcmp, 1) := by decide +kernel
theorem dX11_undoes_3 : decode cX11_undoes 3 = .ok (.ifCond .ge 9, 3) := by decide +kernel
theorem dX11_undoes_6 : decode cX11_undoes 6 = .ok (.ldc2_w 224, 3) := by decide +kernel
theorem dX11_undoes_9 : decode cX11_undoes 9 = .ok (.goto 21, 3) := by decide +kernel
theorem dX11_undoes_12 : decode cX11_undoes 12 = .ok (.aload_n 0, 1) := by decide +kernel
theorem dX11_undoes_13 : decode cX11_undoes 13 = .ok (.getfield 31, 3) := by decide +kernel
theorem dX11_undoes_16 : decode cX11_undoes 16 = .ok (.getfield 186, 3) := by decide +kernel
theorem dX11_undoes_19 : decode cX11_undoes 19 = .ok (.aload_n 0, 1) := by decide +kernel
theorem dX11_undoes_20 : decode cX11_undoes 20 = .ok (.getfield 31, 3) := by decide +kernel
theorem dX11_undoes_23 : decode cX11_undoes 23 = .ok (.getfield 190, 3) := by decide +kernel
theorem dX11_undoes_26 : decode cX11_undoes 26 = .ok (.lload_n 1, 1) := by decide +kernel
theorem dX11_undoes_27 : decode cX11_undoes 27 = .ok (.invokestatic 226, 3) := by decide +kernel
theorem dX11_undoes_30 : decode cX11_undoes 30 = .ok (.lstore_n 3, 1) := by decide +kernel
theorem dX11_undoes_31 : decode cX11_undoes 31 = .ok (.lload_n 3, 1) := by decide +kernel
theorem dX11_undoes_32 : decode cX11_undoes 32 = .ok (.ldc2_w 224, 3) := by decide +kernel
theorem dX11_undoes_35 : decode cX11_undoes 35 = .ok (.lcmp, 1) := by decide +kernel
theorem dX11_undoes_36 : decode cX11_undoes 36 = .ok (.ifCond .ne 11, 3) := by decide +kernel
theorem dX11_undoes_39 : decode cX11_undoes 39 = .ok (.aload_n 0, 1) := by decide +kernel
theorem dX11_undoes_40 : decode cX11_undoes 40 = .ok (.iconst 5, 1) := by decide +kernel
theorem dX11_undoes_41 : decode cX11_undoes 41 = .ok (.invokevirtual 70, 3) := by decide +kernel
theorem dX11_undoes_44 : decode cX11_undoes 44 = .ok (.goto 5, 3) := by decide +kernel
theorem dX11_undoes_47 : decode cX11_undoes 47 = .ok (.lload_n 3, 1) := by decide +kernel
theorem dX11_undoes_48 : decode cX11_undoes 48 = .ok (.l2i, 1) := by decide +kernel
theorem dX11_undoes_49 : decode cX11_undoes 49 = .ok (.ireturn, 1) := by decide +kernel
theorem dX11_made_0 : decode cX11_made 0 = .ok (.lload_n 1, 1) := by decide +kernel
theorem dX11_made_1 : decode cX11_made 1 = .ok (.lload_n 3, 1) := by decide +kernel
theorem dX11_made_2 : decode cX11_made 2 = .ok (.invokestatic 161, 3) := by decide +kernel
theorem dX11_made_5 : decode cX11_made 5 = .ok (.ifCond .ne 10, 3) := by decide +kernel
theorem dX11_made_8 : decode cX11_made 8 = .ok (.aload_n 0, 1) := by decide +kernel
theorem dX11_made_9 : decode cX11_made 9 = .ok (.bipush 6, 2) := by decide +kernel
theorem dX11_made_11 : decode cX11_made 11 = .ok (.invokevirtual 70, 3) := by decide +kernel
theorem dX11_made_14 : decode cX11_made 14 = .ok (.ireturn, 1) := by decide +kernel
theorem dX11_made_15 : decode cX11_made 15 = .ok (.lload_n 1, 1) := by decide +kernel
theorem dX11_made_16 : decode cX11_made 16 = .ok (.lload_n 3, 1) := by decide +kernel
theorem dX11_made_17 : decode cX11_made 17 = .ok (.ldc2_w 224, 3) := by decide +kernel
theorem dX11_made_20 : decode cX11_made 20 = .ok (.invokestatic 226, 3) := by decide +kernel
theorem dX11_made_23 : decode cX11_made 23 = .ok (.lstore 7, 2) := by decide +kernel
theorem dX11_made_25 : decode cX11_made 25 = .ok (.lload 5, 2) := by decide +kernel
theorem dX11_made_27 : decode cX11_made 27 = .ok (.lconst 0, 1) := by decide +kernel
theorem dX11_made_28 : decode cX11_made 28 = .ok (.lcmp, 1) := by decide +kernel
theorem dX11_made_29 : decode cX11_made 29 = .ok (.ifCond .lt 11, 3) := by decide +kernel
theorem dX11_made_32 : decode cX11_made 32 = .ok (.lload 5, 2) := by decide +kernel
theorem dX11_made_34 : decode cX11_made 34 = .ok (.lload 7, 2) := by decide +kernel
theorem dX11_made_36 : decode cX11_made 36 = .ok (.lcmp, 1) := by decide +kernel
theorem dX11_made_37 : decode cX11_made 37 = .ok (.ifCond .lt 9, 3) := by decide +kernel
theorem dX11_made_40 : decode cX11_made 40 = .ok (.aload_n 0, 1) := by decide +kernel
theorem dX11_made_41 : decode cX11_made 41 = .ok (.iconst 5, 1) := by decide +kernel
theorem dX11_made_42 : decode cX11_made 42 = .ok (.invokevirtual 70, 3) := by decide +kernel
theorem dX11_made_45 : decode cX11_made 45 = .ok (.ireturn, 1) := by decide +kernel
theorem dX11_made_46 : decode cX11_made 46 = .ok (.lload_n 1, 1) := by decide +kernel
theorem dX11_made_47 : decode cX11_made 47 = .ok (.lload_n 3, 1) := by decide +kernel
theorem dX11_made_48 : decode cX11_made 48 = .ok (.lload 7, 2) := by decide +kernel
theorem dX11_made_50 : decode cX11_made 50 = .ok (.lconst 1, 1) := by decide +kernel
theorem dX11_made_51 : decode cX11_made 51 = .ok (.lsub, 1) := by decide +kernel
theorem dX11_made_52 : decode cX11_made 52 = .ok (.lload 5, 2) := by decide +kernel
theorem dX11_made_54 : decode cX11_made 54 = .ok (.lsub, 1) := by decide +kernel
theorem dX11_made_55 : decode cX11_made 55 = .ok (.invokestatic 226, 3) := by decide +kernel
theorem dX11_made_58 : decode cX11_made 58 = .ok (.lconst 0, 1) := by decide +kernel
theorem dX11_made_59 : decode cX11_made 59 = .ok (.lcmp, 1) := by decide +kernel
theorem dX11_made_60 : decode cX11_made 60 = .ok (.ifCond .ne 7, 3) := by decide +kernel
theorem dX11_made_63 : decode cX11_made 63 = .ok (.iconst 1, 1) := by decide +kernel
theorem dX11_made_64 : decode cX11_made 64 = .ok (.goto 4, 3) := by decide +kernel
theorem dX11_made_67 : decode cX11_made 67 = .ok (.iconst 2, 1) := by decide +kernel
theorem dX11_made_68 : decode cX11_made 68 = .ok (.ireturn, 1) := by decide +kernel
theorem dX11_least_0 : decode cX11_least 0 = .ok (.lload_n 1, 1) := by decide +kernel
theorem dX11_least_1 : decode cX11_least 1 = .ok (.lload_n 3, 1) := by decide +kernel
theorem dX11_least_2 : decode cX11_least 2 = .ok (.invokestatic 161, 3) := by decide +kernel
theorem dX11_least_5 : decode cX11_least 5 = .ok (.ifCond .ne 10, 3) := by decide +kernel
theorem dX11_least_8 : decode cX11_least 8 = .ok (.aload_n 0, 1) := by decide +kernel
theorem dX11_least_9 : decode cX11_least 9 = .ok (.bipush 6, 2) := by decide +kernel
theorem dX11_least_11 : decode cX11_least 11 = .ok (.invokevirtual 230, 3) := by decide +kernel
theorem dX11_least_14 : decode cX11_least 14 = .ok (.ireturn, 1) := by decide +kernel
theorem dX11_least_15 : decode cX11_least 15 = .ok (.aload_n 0, 1) := by decide +kernel
theorem dX11_least_16 : decode cX11_least 16 = .ok (.getfield 47, 3) := by decide +kernel
theorem dX11_least_19 : decode cX11_least 19 = .ok (.iconst 1, 1) := by decide +kernel
theorem dX11_least_20 : decode cX11_least 20 = .ok (.iconst 1, 1) := by decide +kernel
theorem dX11_least_21 : decode cX11_least 21 = .ok (.iconst 1, 1) := by decide +kernel
theorem dX11_least_22 : decode cX11_least 22 = .ok (.invokevirtual 233, 3) := by decide +kernel
theorem dX11_least_25 : decode cX11_least 25 = .ok (.aload_n 0, 1) := by decide +kernel
theorem dX11_least_26 : decode cX11_least 26 = .ok (.getfield 47, 3) := by decide +kernel
theorem dX11_least_29 : decode cX11_least 29 = .ok (.lconst 0, 1) := by decide +kernel
theorem dX11_least_30 : decode cX11_least 30 = .ok (.lconst 1, 1) := by decide +kernel
theorem dX11_least_31 : decode cX11_least 31 = .ok (.invokevirtual 236, 3) := by decide +kernel
theorem dX11_least_34 : decode cX11_least 34 = .ok (.aload_n 0, 1) := by decide +kernel
theorem dX11_least_35 : decode cX11_least 35 = .ok (.getfield 47, 3) := by decide +kernel
theorem dX11_least_38 : decode cX11_least 38 = .ok (.iconst 0, 1) := by decide +kernel
theorem dX11_least_39 : decode cX11_least 39 = .ok (.lload_n 1, 1) := by decide +kernel
theorem dX11_least_40 : decode cX11_least 40 = .ok (.lload_n 3, 1) := by decide +kernel
theorem dX11_least_41 : decode cX11_least 41 = .ok (.bipush 9, 2) := by decide +kernel
theorem dX11_least_43 : decode cX11_least 43 = .ok (.invokevirtual 239, 3) := by decide +kernel
theorem dX11_least_46 : decode cX11_least 46 = .ok (.iload 5, 2) := by decide +kernel
theorem dX11_least_48 : decode cX11_least 48 = .ok (.iconst (-1), 1) := by decide +kernel
theorem dX11_least_49 : decode cX11_least 49 = .ok (.if_icmp .ne 23, 3) := by decide +kernel
theorem dX11_least_52 : decode cX11_least 52 = .ok (.aload_n 0, 1) := by decide +kernel
theorem dX11_least_53 : decode cX11_least 53 = .ok (.getfield 47, 3) := by decide +kernel
theorem dX11_least_56 : decode cX11_least 56 = .ok (.invokevirtual 243, 3) := by decide +kernel
theorem dX11_least_59 : decode cX11_least 59 = .ok (.ifCond .eq 13, 3) := by decide +kernel
theorem dX11_least_62 : decode cX11_least 62 = .ok (.aload_n 0, 1) := by decide +kernel
theorem dX11_least_63 : decode cX11_least 63 = .ok (.getfield 47, 3) := by decide +kernel
theorem dX11_least_66 : decode cX11_least 66 = .ok (.getfield 246, 3) := by decide +kernel
theorem dX11_least_69 : decode cX11_least 69 = .ok (.goto 9, 3) := by decide +kernel
theorem dX11_least_72 : decode cX11_least 72 = .ok (.aload_n 0, 1) := by decide +kernel
theorem dX11_least_73 : decode cX11_least 73 = .ok (.iload 5, 2) := by decide +kernel
theorem dX11_least_75 : decode cX11_least 75 = .ok (.invokevirtual 249, 3) := by decide +kernel
theorem dX11_least_78 : decode cX11_least 78 = .ok (.ireturn, 1) := by decide +kernel
theorem dX11_cheapest_0 : decode cX11_cheapest 0 = .ok (.lload_n 1, 1) := by decide +kernel
theorem dX11_cheapest_1 : decode cX11_cheapest 1 = .ok (.lload_n 3, 1) := by decide +kernel
theorem dX11_cheapest_2 : decode cX11_cheapest 2 = .ok (.invokestatic 161, 3) := by decide +kernel
theorem dX11_cheapest_5 : decode cX11_cheapest 5 = .ok (.ifCond .eq 27, 3) := by decide +kernel
theorem dX11_cheapest_8 : decode cX11_cheapest 8 = .ok (.iload 5, 2) := by decide +kernel
theorem dX11_cheapest_10 : decode cX11_cheapest 10 = .ok (.invokestatic 148, 3) := by decide +kernel
theorem dX11_cheapest_13 : decode cX11_cheapest 13 = .ok (.ifCond .eq 19, 3) := by decide +kernel
theorem dX11_cheapest_16 : decode cX11_cheapest 16 = .ok (.iload 6, 2) := by decide +kernel
theorem dX11_cheapest_18 : decode cX11_cheapest 18 = .ok (.invokestatic 148, 3) := by decide +kernel
theorem dX11_cheapest_21 : decode cX11_cheapest 21 = .ok (.ifCond .eq 11, 3) := by decide +kernel
theorem dX11_cheapest_24 : decode cX11_cheapest 24 = .ok (.iload 7, 2) := by decide +kernel
theorem dX11_cheapest_26 : decode cX11_cheapest 26 = .ok (.invokestatic 148, 3) := by decide +kernel
theorem dX11_cheapest_29 : decode cX11_cheapest 29 = .ok (.ifCond .ne 10, 3) := by decide +kernel
theorem dX11_cheapest_32 : decode cX11_cheapest 32 = .ok (.aload_n 0, 1) := by decide +kernel
theorem dX11_cheapest_33 : decode cX11_cheapest 33 = .ok (.bipush 6, 2) := by decide +kernel
theorem dX11_cheapest_35 : decode cX11_cheapest 35 = .ok (.invokevirtual 230, 3) := by decide +kernel
theorem dX11_cheapest_38 : decode cX11_cheapest 38 = .ok (.ireturn, 1) := by decide +kernel
theorem dX11_cheapest_39 : decode cX11_cheapest 39 = .ok (.aload_n 0, 1) := by decide +kernel
theorem dX11_cheapest_40 : decode cX11_cheapest 40 = .ok (.getfield 47, 3) := by decide +kernel
theorem dX11_cheapest_43 : decode cX11_cheapest 43 = .ok (.iload 5, 2) := by decide +kernel
theorem dX11_cheapest_45 : decode cX11_cheapest 45 = .ok (.iload 6, 2) := by decide +kernel
theorem dX11_cheapest_47 : decode cX11_cheapest 47 = .ok (.iload 7, 2) := by decide +kernel
theorem dX11_cheapest_49 : decode cX11_cheapest 49 = .ok (.invokevirtual 233, 3) := by decide +kernel
theorem dX11_cheapest_52 : decode cX11_cheapest 52 = .ok (.aload_n 0, 1) := by decide +kernel
theorem dX11_cheapest_53 : decode cX11_cheapest 53 = .ok (.getfield 47, 3) := by decide +kernel
theorem dX11_cheapest_56 : decode cX11_cheapest 56 = .ok (.lconst 0, 1) := by decide +kernel
theorem dX11_cheapest_57 : decode cX11_cheapest 57 = .ok (.lconst 1, 1) := by decide +kernel
theorem dX11_cheapest_58 : decode cX11_cheapest 58 = .ok (.invokevirtual 236, 3) := by decide +kernel
theorem dX11_cheapest_61 : decode cX11_cheapest 61 = .ok (.aload_n 0, 1) := by decide +kernel
theorem dX11_cheapest_62 : decode cX11_cheapest 62 = .ok (.getfield 47, 3) := by decide +kernel
theorem dX11_cheapest_65 : decode cX11_cheapest 65 = .ok (.iconst 0, 1) := by decide +kernel
theorem dX11_cheapest_66 : decode cX11_cheapest 66 = .ok (.lload_n 1, 1) := by decide +kernel
theorem dX11_cheapest_67 : decode cX11_cheapest 67 = .ok (.lload_n 3, 1) := by decide +kernel
theorem dX11_cheapest_68 : decode cX11_cheapest 68 = .ok (.bipush 7, 2) := by decide +kernel
theorem dX11_cheapest_70 : decode cX11_cheapest 70 = .ok (.invokevirtual 239, 3) := by decide +kernel
theorem dX11_cheapest_73 : decode cX11_cheapest 73 = .ok (.iload 8, 2) := by decide +kernel
theorem dX11_cheapest_75 : decode cX11_cheapest 75 = .ok (.iconst (-1), 1) := by decide +kernel
theorem dX11_cheapest_76 : decode cX11_cheapest 76 = .ok (.if_icmp .ne 23, 3) := by decide +kernel
theorem dX11_cheapest_79 : decode cX11_cheapest 79 = .ok (.aload_n 0, 1) := by decide +kernel
theorem dX11_cheapest_80 : decode cX11_cheapest 80 = .ok (.getfield 47, 3) := by decide +kernel
theorem dX11_cheapest_83 : decode cX11_cheapest 83 = .ok (.invokevirtual 243, 3) := by decide +kernel
theorem dX11_cheapest_86 : decode cX11_cheapest 86 = .ok (.ifCond .eq 13, 3) := by decide +kernel
theorem dX11_cheapest_89 : decode cX11_cheapest 89 = .ok (.aload_n 0, 1) := by decide +kernel
theorem dX11_cheapest_90 : decode cX11_cheapest 90 = .ok (.getfield 47, 3) := by decide +kernel
theorem dX11_cheapest_93 : decode cX11_cheapest 93 = .ok (.getfield 252, 3) := by decide +kernel
theorem dX11_cheapest_96 : decode cX11_cheapest 96 = .ok (.goto 9, 3) := by decide +kernel
theorem dX11_cheapest_99 : decode cX11_cheapest 99 = .ok (.aload_n 0, 1) := by decide +kernel
theorem dX11_cheapest_100 : decode cX11_cheapest 100 = .ok (.iload 8, 2) := by decide +kernel
theorem dX11_cheapest_102 : decode cX11_cheapest 102 = .ok (.invokevirtual 249, 3) := by decide +kernel
theorem dX11_cheapest_105 : decode cX11_cheapest 105 = .ok (.ireturn, 1) := by decide +kernel
theorem dX11_side_0 : decode cX11_side 0 = .ok (.aload_n 0, 1) := by decide +kernel
theorem dX11_side_1 : decode cX11_side 1 = .ok (.lload_n 1, 1) := by decide +kernel
theorem dX11_side_2 : decode cX11_side 2 = .ok (.lload_n 3, 1) := by decide +kernel
theorem dX11_side_3 : decode cX11_side 3 = .ok (.iload 5, 2) := by decide +kernel
theorem dX11_side_5 : decode cX11_side 5 = .ok (.invokevirtual 255, 3) := by decide +kernel
theorem dX11_side_8 : decode cX11_side 8 = .ok (.istore 6, 2) := by decide +kernel
theorem dX11_side_10 : decode cX11_side 10 = .ok (.iload 6, 2) := by decide +kernel
theorem dX11_side_12 : decode cX11_side 12 = .ok (.ifCond .eq 10, 3) := by decide +kernel
theorem dX11_side_15 : decode cX11_side 15 = .ok (.aload_n 0, 1) := by decide +kernel
theorem dX11_side_16 : decode cX11_side 16 = .ok (.iload 6, 2) := by decide +kernel
theorem dX11_side_18 : decode cX11_side 18 = .ok (.invokevirtual 183, 3) := by decide +kernel
theorem dX11_side_21 : decode cX11_side 21 = .ok (.lreturn, 1) := by decide +kernel
theorem dX11_side_22 : decode cX11_side 22 = .ok (.aload_n 0, 1) := by decide +kernel
theorem dX11_side_23 : decode cX11_side 23 = .ok (.getfield 38, 3) := by decide +kernel
theorem dX11_side_26 : decode cX11_side 26 = .ok (.aload_n 0, 1) := by decide +kernel
theorem dX11_side_27 : decode cX11_side 27 = .ok (.getfield 31, 3) := by decide +kernel
theorem dX11_side_30 : decode cX11_side 30 = .ok (.getfield 186, 3) := by decide +kernel
theorem dX11_side_33 : decode cX11_side 33 = .ok (.aload_n 0, 1) := by decide +kernel
theorem dX11_side_34 : decode cX11_side 34 = .ok (.getfield 31, 3) := by decide +kernel
theorem dX11_side_37 : decode cX11_side 37 = .ok (.getfield 190, 3) := by decide +kernel
theorem dX11_side_40 : decode cX11_side 40 = .ok (.invokevirtual 165, 3) := by decide +kernel
theorem dX11_side_43 : decode cX11_side 43 = .ok (.aload_n 0, 1) := by decide +kernel
theorem dX11_side_44 : decode cX11_side 44 = .ok (.getfield 38, 3) := by decide +kernel
theorem dX11_side_47 : decode cX11_side 47 = .ok (.lload_n 1, 1) := by decide +kernel
theorem dX11_side_48 : decode cX11_side 48 = .ok (.lload_n 3, 1) := by decide +kernel
theorem dX11_side_49 : decode cX11_side 49 = .ok (.invokevirtual 259, 3) := by decide +kernel
theorem dX11_side_52 : decode cX11_side 52 = .ok (.aload_n 0, 1) := by decide +kernel
theorem dX11_side_53 : decode cX11_side 53 = .ok (.iload 5, 2) := by decide +kernel
theorem dX11_side_55 : decode cX11_side 55 = .ok (.invokevirtual 262, 3) := by decide +kernel
theorem dX11_side_58 : decode cX11_side 58 = .ok (.lreturn, 1) := by decide +kernel
theorem dX11_over_0 : decode cX11_over 0 = .ok (.aload_n 0, 1) := by decide +kernel
theorem dX11_over_1 : decode cX11_over 1 = .ok (.lload_n 1, 1) := by decide +kernel
theorem dX11_over_2 : decode cX11_over 2 = .ok (.lload_n 3, 1) := by decide +kernel
theorem dX11_over_3 : decode cX11_over 3 = .ok (.iload 5, 2) := by decide +kernel
theorem dX11_over_5 : decode cX11_over 5 = .ok (.invokevirtual 255, 3) := by decide +kernel
theorem dX11_over_8 : decode cX11_over 8 = .ok (.istore 6, 2) := by decide +kernel
theorem dX11_over_10 : decode cX11_over 10 = .ok (.iload 6, 2) := by decide +kernel
theorem dX11_over_12 : decode cX11_over 12 = .ok (.ifCond .eq 10, 3) := by decide +kernel
theorem dX11_over_15 : decode cX11_over 15 = .ok (.aload_n 0, 1) := by decide +kernel
theorem dX11_over_16 : decode cX11_over 16 = .ok (.iload 6, 2) := by decide +kernel
theorem dX11_over_18 : decode cX11_over 18 = .ok (.invokevirtual 183, 3) := by decide +kernel
theorem dX11_over_21 : decode cX11_over 21 = .ok (.lreturn, 1) := by decide +kernel
theorem dX11_over_22 : decode cX11_over 22 = .ok (.aload_n 0, 1) := by decide +kernel
theorem dX11_over_23 : decode cX11_over 23 = .ok (.getfield 38, 3) := by decide +kernel
theorem dX11_over_26 : decode cX11_over 26 = .ok (.aload_n 0, 1) := by decide +kernel
theorem dX11_over_27 : decode cX11_over 27 = .ok (.getfield 31, 3) := by decide +kernel
theorem dX11_over_30 : decode cX11_over 30 = .ok (.getfield 186, 3) := by decide +kernel
theorem dX11_over_33 : decode cX11_over 33 = .ok (.aload_n 0, 1) := by decide +kernel
theorem dX11_over_34 : decode cX11_over 34 = .ok (.getfield 31, 3) := by decide +kernel
theorem dX11_over_37 : decode cX11_over 37 = .ok (.getfield 190, 3) := by decide +kernel
theorem dX11_over_40 : decode cX11_over 40 = .ok (.invokevirtual 165, 3) := by decide +kernel
theorem dX11_over_43 : decode cX11_over 43 = .ok (.aload_n 0, 1) := by decide +kernel
theorem dX11_over_44 : decode cX11_over 44 = .ok (.getfield 38, 3) := by decide +kernel
theorem dX11_over_47 : decode cX11_over 47 = .ok (.invokevirtual 265, 3) := by decide +kernel
theorem dX11_over_50 : decode cX11_over 50 = .ok (.aload_n 0, 1) := by decide +kernel
theorem dX11_over_51 : decode cX11_over 51 = .ok (.getfield 41, 3) := by decide +kernel
theorem dX11_over_54 : decode cX11_over 54 = .ok (.lload_n 1, 1) := by decide +kernel
theorem dX11_over_55 : decode cX11_over 55 = .ok (.lload_n 3, 1) := by decide +kernel
theorem dX11_over_56 : decode cX11_over 56 = .ok (.invokevirtual 165, 3) := by decide +kernel
theorem dX11_over_59 : decode cX11_over 59 = .ok (.aload_n 0, 1) := by decide +kernel
theorem dX11_over_60 : decode cX11_over 60 = .ok (.getfield 41, 3) := by decide +kernel
theorem dX11_over_63 : decode cX11_over 63 = .ok (.invokevirtual 265, 3) := by decide +kernel
theorem dX11_over_66 : decode cX11_over 66 = .ok (.aload_n 0, 1) := by decide +kernel
theorem dX11_over_67 : decode cX11_over 67 = .ok (.getfield 38, 3) := by decide +kernel
theorem dX11_over_70 : decode cX11_over 70 = .ok (.aload_n 0, 1) := by decide +kernel
theorem dX11_over_71 : decode cX11_over 71 = .ok (.getfield 41, 3) := by decide +kernel
theorem dX11_over_74 : decode cX11_over 74 = .ok (.getfield 186, 3) := by decide +kernel
theorem dX11_over_77 : decode cX11_over 77 = .ok (.aload_n 0, 1) := by decide +kernel
theorem dX11_over_78 : decode cX11_over 78 = .ok (.getfield 41, 3) := by decide +kernel
theorem dX11_over_81 : decode cX11_over 81 = .ok (.getfield 190, 3) := by decide +kernel
theorem dX11_over_84 : decode cX11_over 84 = .ok (.invokevirtual 259, 3) := by decide +kernel
theorem dX11_over_87 : decode cX11_over 87 = .ok (.aload_n 0, 1) := by decide +kernel
theorem dX11_over_88 : decode cX11_over 88 = .ok (.getfield 38, 3) := by decide +kernel
theorem dX11_over_91 : decode cX11_over 91 = .ok (.invokevirtual 265, 3) := by decide +kernel
theorem dX11_over_94 : decode cX11_over 94 = .ok (.aload_n 0, 1) := by decide +kernel
theorem dX11_over_95 : decode cX11_over 95 = .ok (.iload 5, 2) := by decide +kernel
theorem dX11_over_97 : decode cX11_over 97 = .ok (.invokevirtual 262, 3) := by decide +kernel
theorem dX11_over_100 : decode cX11_over 100 = .ok (.lreturn, 1) := by decide +kernel
theorem dX11_closed_0 : decode cX11_closed 0 = .ok (.iload_n 1, 1) := by decide +kernel
theorem dX11_closed_1 : decode cX11_closed 1 = .ok (.ifCond .eq 13, 3) := by decide +kernel
theorem dX11_closed_4 : decode cX11_closed 4 = .ok (.aload_n 0, 1) := by decide +kernel
theorem dX11_closed_5 : decode cX11_closed 5 = .ok (.getfield 31, 3) := by decide +kernel
theorem dX11_closed_8 : decode cX11_closed 8 = .ok (.getfield 190, 3) := by decide +kernel
theorem dX11_closed_11 : decode cX11_closed 11 = .ok (.goto 10, 3) := by decide +kernel
theorem dX11_closed_14 : decode cX11_closed 14 = .ok (.aload_n 0, 1) := by decide +kernel
theorem dX11_closed_15 : decode cX11_closed 15 = .ok (.getfield 31, 3) := by decide +kernel
theorem dX11_closed_18 : decode cX11_closed 18 = .ok (.getfield 186, 3) := by decide +kernel
theorem dX11_closed_21 : decode cX11_closed 21 = .ok (.lconst 1, 1) := by decide +kernel
theorem dX11_closed_22 : decode cX11_closed 22 = .ok (.land, 1) := by decide +kernel
theorem dX11_closed_23 : decode cX11_closed 23 = .ok (.lconst 0, 1) := by decide +kernel
theorem dX11_closed_24 : decode cX11_closed 24 = .ok (.lcmp, 1) := by decide +kernel
theorem dX11_closed_25 : decode cX11_closed 25 = .ok (.ifCond .ne 7, 3) := by decide +kernel
theorem dX11_closed_28 : decode cX11_closed 28 = .ok (.iconst 2, 1) := by decide +kernel
theorem dX11_closed_29 : decode cX11_closed 29 = .ok (.goto 4, 3) := by decide +kernel
theorem dX11_closed_32 : decode cX11_closed 32 = .ok (.iconst 1, 1) := by decide +kernel
theorem dX11_closed_33 : decode cX11_closed 33 = .ok (.ireturn, 1) := by decide +kernel
theorem dX11_coloured_0 : decode cX11_coloured 0 = .ok (.iload_n 1, 1) := by decide +kernel
theorem dX11_coloured_1 : decode cX11_coloured 1 = .ok (.iconst 2, 1) := by decide +kernel
theorem dX11_coloured_2 : decode cX11_coloured 2 = .ok (.if_icmp .lt 9, 3) := by decide +kernel
theorem dX11_coloured_5 : decode cX11_coloured 5 = .ok (.iload_n 1, 1) := by decide +kernel
theorem dX11_coloured_6 : decode cX11_coloured 6 = .ok (.bipush 99, 2) := by decide +kernel
theorem dX11_coloured_8 : decode cX11_coloured 8 = .ok (.if_icmp .le 11, 3) := by decide +kernel
theorem dX11_coloured_11 : decode cX11_coloured 11 = .ok (.aload_n 0, 1) := by decide +kernel
theorem dX11_coloured_12 : decode cX11_coloured 12 = .ok (.bipush 6, 2) := by decide +kernel
theorem dX11_coloured_14 : decode cX11_coloured 14 = .ok (.invokevirtual 70, 3) := by decide +kernel
theorem dX11_coloured_17 : decode cX11_coloured 17 = .ok (.i2l, 1) := by decide +kernel
theorem dX11_coloured_18 : decode cX11_coloured 18 = .ok (.lreturn, 1) := by decide +kernel
theorem dX11_coloured_19 : decode cX11_coloured 19 = .ok (.iload_n 1, 1) := by decide +kernel
theorem dX11_coloured_20 : decode cX11_coloured 20 = .ok (.i2l, 1) := by decide +kernel
theorem dX11_coloured_21 : decode cX11_coloured 21 = .ok (.aload_n 0, 1) := by decide +kernel
theorem dX11_coloured_22 : decode cX11_coloured 22 = .ok (.getfield 31, 3) := by decide +kernel
theorem dX11_coloured_25 : decode cX11_coloured 25 = .ok (.getfield 186, 3) := by decide +kernel
theorem dX11_coloured_28 : decode cX11_coloured 28 = .ok (.invokestatic 268, 3) := by decide +kernel
theorem dX11_coloured_31 : decode cX11_coloured 31 = .ok (.iload_n 1, 1) := by decide +kernel
theorem dX11_coloured_32 : decode cX11_coloured 32 = .ok (.i2l, 1) := by decide +kernel
theorem dX11_coloured_33 : decode cX11_coloured 33 = .ok (.invokestatic 274, 3) := by decide +kernel
theorem dX11_coloured_36 : decode cX11_coloured 36 = .ok (.lmul, 1) := by decide +kernel
theorem dX11_coloured_37 : decode cX11_coloured 37 = .ok (.lreturn, 1) := by decide +kernel
theorem dX11_forgot_0 : decode cX11_forgot 0 = .ok (.aload_n 0, 1) := by decide +kernel
theorem dX11_forgot_1 : decode cX11_forgot 1 = .ok (.iload_n 1, 1) := by decide +kernel
theorem dX11_forgot_2 : decode cX11_forgot 2 = .ok (.iload_n 2, 1) := by decide +kernel
theorem dX11_forgot_3 : decode cX11_forgot 3 = .ok (.invokevirtual 203, 3) := by decide +kernel
theorem dX11_forgot_6 : decode cX11_forgot 6 = .ok (.istore_n 3, 1) := by decide +kernel
theorem dX11_forgot_7 : decode cX11_forgot 7 = .ok (.iload_n 3, 1) := by decide +kernel
theorem dX11_forgot_8 : decode cX11_forgot 8 = .ok (.ifCond .ne 10, 3) := by decide +kernel
theorem dX11_forgot_11 : decode cX11_forgot 11 = .ok (.aload_n 0, 1) := by decide +kernel
theorem dX11_forgot_12 : decode cX11_forgot 12 = .ok (.iload_n 1, 1) := by decide +kernel
theorem dX11_forgot_13 : decode cX11_forgot 13 = .ok (.iload_n 2, 1) := by decide +kernel
theorem dX11_forgot_14 : decode cX11_forgot 14 = .ok (.invokevirtual 278, 3) := by decide +kernel
theorem dX11_forgot_17 : decode cX11_forgot 17 = .ok (.istore_n 3, 1) := by decide +kernel
theorem dX11_forgot_18 : decode cX11_forgot 18 = .ok (.iload_n 3, 1) := by decide +kernel
theorem dX11_forgot_19 : decode cX11_forgot 19 = .ok (.ifCond .ne 12, 3) := by decide +kernel
theorem dX11_forgot_22 : decode cX11_forgot 22 = .ok (.aload_n 0, 1) := by decide +kernel
theorem dX11_forgot_23 : decode cX11_forgot 23 = .ok (.iload_n 1, 1) := by decide +kernel
theorem dX11_forgot_24 : decode cX11_forgot 24 = .ok (.iload_n 2, 1) := by decide +kernel
theorem dX11_forgot_25 : decode cX11_forgot 25 = .ok (.invokevirtual 281, 3) := by decide +kernel
theorem dX11_forgot_28 : decode cX11_forgot 28 = .ok (.goto 4, 3) := by decide +kernel
theorem dX11_forgot_31 : decode cX11_forgot 31 = .ok (.aconst_null, 1) := by decide +kernel
theorem dX11_forgot_32 : decode cX11_forgot 32 = .ok (.astore 4, 2) := by decide +kernel
theorem dX11_forgot_34 : decode cX11_forgot 34 = .ok (.aload 4, 2) := by decide +kernel
theorem dX11_forgot_36 : decode cX11_forgot 36 = .ok (.ifnonnull 18, 3) := by decide +kernel
theorem dX11_forgot_39 : decode cX11_forgot 39 = .ok (.aload_n 0, 1) := by decide +kernel
theorem dX11_forgot_40 : decode cX11_forgot 40 = .ok (.iload_n 3, 1) := by decide +kernel
theorem dX11_forgot_41 : decode cX11_forgot 41 = .ok (.ifCond .ne 8, 3) := by decide +kernel
theorem dX11_forgot_44 : decode cX11_forgot 44 = .ok (.bipush 7, 2) := by decide +kernel
theorem dX11_forgot_46 : decode cX11_forgot 46 = .ok (.goto 4, 3) := by decide +kernel
theorem dX11_forgot_49 : decode cX11_forgot 49 = .ok (.iload_n 3, 1) := by decide +kernel
theorem dX11_forgot_50 : decode cX11_forgot 50 = .ok (.invokevirtual 70, 3) := by decide +kernel
theorem dX11_forgot_53 : decode cX11_forgot 53 = .ok (.ireturn, 1) := by decide +kernel
theorem dX11_forgot_54 : decode cX11_forgot 54 = .ok (.aload 4, 2) := by decide +kernel
theorem dX11_forgot_56 : decode cX11_forgot 56 = .ok (.getfield 285, 3) := by decide +kernel
theorem dX11_forgot_59 : decode cX11_forgot 59 = .ok (.ireturn, 1) := by decide +kernel
theorem dX11_may_0 : decode cX11_may 0 = .ok (.aload_n 0, 1) := by decide +kernel
theorem dX11_may_1 : decode cX11_may 1 = .ok (.iload_n 1, 1) := by decide +kernel
theorem dX11_may_2 : decode cX11_may 2 = .ok (.iload_n 2, 1) := by decide +kernel
theorem dX11_may_3 : decode cX11_may 3 = .ok (.invokevirtual 203, 3) := by decide +kernel
theorem dX11_may_6 : decode cX11_may 6 = .ok (.istore 4, 2) := by decide +kernel
theorem dX11_may_8 : decode cX11_may 8 = .ok (.iload 4, 2) := by decide +kernel
theorem dX11_may_10 : decode cX11_may 10 = .ok (.ifCond .ne 15, 3) := by decide +kernel
theorem dX11_may_13 : decode cX11_may 13 = .ok (.iload_n 3, 1) := by decide +kernel
theorem dX11_may_14 : decode cX11_may 14 = .ok (.ifCond .lt 8, 3) := by decide +kernel
theorem dX11_may_17 : decode cX11_may 17 = .ok (.iload_n 3, 1) := by decide +kernel
theorem dX11_may_18 : decode cX11_may 18 = .ok (.iconst 3, 1) := by decide +kernel
theorem dX11_may_19 : decode cX11_may 19 = .ok (.if_icmp .le 6, 3) := by decide +kernel
theorem dX11_may_22 : decode cX11_may 22 = .ok (.iconst 5, 1) := by decide +kernel
theorem dX11_may_23 : decode cX11_may 23 = .ok (.istore 4, 2) := by decide +kernel
theorem dX11_may_25 : decode cX11_may 25 = .ok (.iload 4, 2) := by decide +kernel
theorem dX11_may_27 : decode cX11_may 27 = .ok (.ifCond .ne 11, 3) := by decide +kernel
theorem dX11_may_30 : decode cX11_may 30 = .ok (.aload_n 0, 1) := by decide +kernel
theorem dX11_may_31 : decode cX11_may 31 = .ok (.iload_n 1, 1) := by decide +kernel
theorem dX11_may_32 : decode cX11_may 32 = .ok (.iload_n 2, 1) := by decide +kernel
theorem dX11_may_33 : decode cX11_may 33 = .ok (.invokevirtual 278, 3) := by decide +kernel
theorem dX11_may_36 : decode cX11_may 36 = .ok (.istore 4, 2) := by decide +kernel
theorem dX11_may_38 : decode cX11_may 38 = .ok (.iload 4, 2) := by decide +kernel
theorem dX11_may_40 : decode cX11_may 40 = .ok (.ifCond .ne 12, 3) := by decide +kernel
theorem dX11_may_43 : decode cX11_may 43 = .ok (.aload_n 0, 1) := by decide +kernel
theorem dX11_may_44 : decode cX11_may 44 = .ok (.iload_n 1, 1) := by decide +kernel
theorem dX11_may_45 : decode cX11_may 45 = .ok (.iload_n 2, 1) := by decide +kernel
theorem dX11_may_46 : decode cX11_may 46 = .ok (.invokevirtual 281, 3) := by decide +kernel
theorem dX11_may_49 : decode cX11_may 49 = .ok (.goto 4, 3) := by decide +kernel
theorem dX11_may_52 : decode cX11_may 52 = .ok (.aconst_null, 1) := by decide +kernel
theorem dX11_may_53 : decode cX11_may 53 = .ok (.astore 5, 2) := by decide +kernel
theorem dX11_may_55 : decode cX11_may 55 = .ok (.aload 5, 2) := by decide +kernel
theorem dX11_may_57 : decode cX11_may 57 = .ok (.ifnonnull 20, 3) := by decide +kernel
theorem dX11_may_60 : decode cX11_may 60 = .ok (.aload_n 0, 1) := by decide +kernel
theorem dX11_may_61 : decode cX11_may 61 = .ok (.iload 4, 2) := by decide +kernel
theorem dX11_may_63 : decode cX11_may 63 = .ok (.ifCond .ne 8, 3) := by decide +kernel
theorem dX11_may_66 : decode cX11_may 66 = .ok (.bipush 7, 2) := by decide +kernel
theorem dX11_may_68 : decode cX11_may 68 = .ok (.goto 5, 3) := by decide +kernel
theorem dX11_may_71 : decode cX11_may 71 = .ok (.iload 4, 2) := by decide +kernel
theorem dX11_may_73 : decode cX11_may 73 = .ok (.invokevirtual 183, 3) := by decide +kernel
theorem dX11_may_76 : decode cX11_may 76 = .ok (.lreturn, 1) := by decide +kernel
theorem dX11_may_77 : decode cX11_may 77 = .ok (.iload_n 3, 1) := by decide +kernel
theorem dX11_may_78 : decode cX11_may 78 = .ok (.iconst 2, 1) := by decide +kernel
theorem dX11_may_79 : decode cX11_may 79 = .ok (.if_icmp .ge 12, 3) := by decide +kernel
theorem dX11_may_82 : decode cX11_may 82 = .ok (.aload 5, 2) := by decide +kernel
theorem dX11_may_84 : decode cX11_may 84 = .ok (.iconst (-1), 1) := by decide +kernel
theorem dX11_may_85 : decode cX11_may 85 = .ok (.invokevirtual 288, 3) := by decide +kernel
theorem dX11_may_88 : decode cX11_may 88 = .ok (.goto 9, 3) := by decide +kernel
theorem dX11_may_91 : decode cX11_may 91 = .ok (.aload 5, 2) := by decide +kernel
theorem dX11_may_93 : decode cX11_may 93 = .ok (.iconst 1, 1) := by decide +kernel
theorem dX11_may_94 : decode cX11_may 94 = .ok (.invokevirtual 288, 3) := by decide +kernel
theorem dX11_may_97 : decode cX11_may 97 = .ok (.istore 6, 2) := by decide +kernel
theorem dX11_may_99 : decode cX11_may 99 = .ok (.iload_n 3, 1) := by decide +kernel
theorem dX11_may_100 : decode cX11_may 100 = .ok (.ifCond .eq 8, 3) := by decide +kernel
theorem dX11_may_103 : decode cX11_may 103 = .ok (.iload_n 3, 1) := by decide +kernel
theorem dX11_may_104 : decode cX11_may 104 = .ok (.iconst 2, 1) := by decide +kernel
theorem dX11_may_105 : decode cX11_may 105 = .ok (.if_icmp .ne 14, 3) := by decide +kernel
theorem dX11_may_108 : decode cX11_may 108 = .ok (.aload 5, 2) := by decide +kernel
theorem dX11_may_110 : decode cX11_may 110 = .ok (.getfield 291, 3) := by decide +kernel
theorem dX11_may_113 : decode cX11_may 113 = .ok (.iload 6, 2) := by decide +kernel
theorem dX11_may_115 : decode cX11_may 115 = .ok (.laload, 1) := by decide +kernel
theorem dX11_may_116 : decode cX11_may 116 = .ok (.goto 11, 3) := by decide +kernel
theorem dX11_may_119 : decode cX11_may 119 = .ok (.aload 5, 2) := by decide +kernel
theorem dX11_may_121 : decode cX11_may 121 = .ok (.getfield 294, 3) := by decide +kernel
theorem dX11_may_124 : decode cX11_may 124 = .ok (.iload 6, 2) := by decide +kernel
theorem dX11_may_126 : decode cX11_may 126 = .ok (.laload, 1) := by decide +kernel
theorem dX11_may_127 : decode cX11_may 127 = .ok (.lreturn, 1) := by decide +kernel
theorem dX11_kept_0 : decode cX11_kept 0 = .ok (.iload_n 1, 1) := by decide +kernel
theorem dX11_kept_1 : decode cX11_kept 1 = .ok (.ifCond .lt 23, 3) := by decide +kernel
theorem dX11_kept_4 : decode cX11_kept 4 = .ok (.iload_n 1, 1) := by decide +kernel
theorem dX11_kept_5 : decode cX11_kept 5 = .ok (.bipush 9, 2) := by decide +kernel
theorem dX11_kept_7 : decode cX11_kept 7 = .ok (.if_icmp .gt 17, 3) := by decide +kernel
theorem dX11_kept_10 : decode cX11_kept 10 = .ok (.lload_n 2, 1) := by decide +kernel
theorem dX11_kept_11 : decode cX11_kept 11 = .ok (.lconst 1, 1) := by decide +kernel
theorem dX11_kept_12 : decode cX11_kept 12 = .ok (.lcmp, 1) := by decide +kernel
theorem dX11_kept_13 : decode cX11_kept 13 = .ok (.ifCond .lt 11, 3) := by decide +kernel
theorem dX11_kept_16 : decode cX11_kept 16 = .ok (.lload_n 2, 1) := by decide +kernel
theorem dX11_kept_17 : decode cX11_kept 17 = .ok (.ldc2_w 297, 3) := by decide +kernel
theorem dX11_kept_20 : decode cX11_kept 20 = .ok (.lcmp, 1) := by decide +kernel
theorem dX11_kept_21 : decode cX11_kept 21 = .ok (.ifCond .le 10, 3) := by decide +kernel
theorem dX11_kept_24 : decode cX11_kept 24 = .ok (.aload_n 0, 1) := by decide +kernel
theorem dX11_kept_25 : decode cX11_kept 25 = .ok (.bipush 6, 2) := by decide +kernel
theorem dX11_kept_27 : decode cX11_kept 27 = .ok (.invokevirtual 70, 3) := by decide +kernel
theorem dX11_kept_30 : decode cX11_kept 30 = .ok (.ireturn, 1) := by decide +kernel
theorem dX11_kept_31 : decode cX11_kept 31 = .ok (.aload_n 0, 1) := by decide +kernel
theorem dX11_kept_32 : decode cX11_kept 32 = .ok (.iload_n 1, 1) := by decide +kernel
theorem dX11_kept_33 : decode cX11_kept 33 = .ok (.lload_n 2, 1) := by decide +kernel
theorem dX11_kept_34 : decode cX11_kept 34 = .ok (.invokevirtual 299, 3) := by decide +kernel
theorem dX11_kept_37 : decode cX11_kept 37 = .ok (.invokevirtual 303, 3) := by decide +kernel
theorem dX11_kept_40 : decode cX11_kept 40 = .ok (.ireturn, 1) := by decide +kernel
theorem dX11_lot_0 : decode cX11_lot 0 = .ok (.iload_n 1, 1) := by decide +kernel
theorem dX11_lot_1 : decode cX11_lot 1 = .ok (.ifCond .lt 18, 3) := by decide +kernel
theorem dX11_lot_4 : decode cX11_lot 4 = .ok (.iload_n 1, 1) := by decide +kernel
theorem dX11_lot_5 : decode cX11_lot 5 = .ok (.bipush 9, 2) := by decide +kernel
theorem dX11_lot_7 : decode cX11_lot 7 = .ok (.if_icmp .gt 12, 3) := by decide +kernel
theorem dX11_lot_10 : decode cX11_lot 10 = .ok (.lload_n 2, 1) := by decide +kernel
theorem dX11_lot_11 : decode cX11_lot 11 = .ok (.lload 4, 2) := by decide +kernel
theorem dX11_lot_13 : decode cX11_lot 13 = .ok (.invokestatic 161, 3) := by decide +kernel
theorem dX11_lot_16 : decode cX11_lot 16 = .ok (.ifCond .ne 10, 3) := by decide +kernel
theorem dX11_lot_19 : decode cX11_lot 19 = .ok (.aload_n 0, 1) := by decide +kernel
theorem dX11_lot_20 : decode cX11_lot 20 = .ok (.bipush 6, 2) := by decide +kernel
theorem dX11_lot_22 : decode cX11_lot 22 = .ok (.invokevirtual 70, 3) := by decide +kernel
theorem dX11_lot_25 : decode cX11_lot 25 = .ok (.ireturn, 1) := by decide +kernel
theorem dX11_lot_26 : decode cX11_lot 26 = .ok (.aload_n 0, 1) := by decide +kernel
theorem dX11_lot_27 : decode cX11_lot 27 = .ok (.iload_n 1, 1) := by decide +kernel
theorem dX11_lot_28 : decode cX11_lot 28 = .ok (.ldc2_w 306, 3) := by decide +kernel
theorem dX11_lot_31 : decode cX11_lot 31 = .ok (.invokevirtual 299, 3) := by decide +kernel
theorem dX11_lot_34 : decode cX11_lot 34 = .ok (.lload_n 2, 1) := by decide +kernel
theorem dX11_lot_35 : decode cX11_lot 35 = .ok (.lload 4, 2) := by decide +kernel
theorem dX11_lot_37 : decode cX11_lot 37 = .ok (.invokevirtual 308, 3) := by decide +kernel
theorem dX11_lot_40 : decode cX11_lot 40 = .ok (.ireturn, 1) := by decide +kernel
theorem dX11_bag_0 : decode cX11_bag 0 = .ok (.aload_n 0, 1) := by decide +kernel
theorem dX11_bag_1 : decode cX11_bag 1 = .ok (.iload_n 1, 1) := by decide +kernel
theorem dX11_bag_2 : decode cX11_bag 2 = .ok (.invokevirtual 78, 3) := by decide +kernel
theorem dX11_bag_5 : decode cX11_bag 5 = .ok (.istore 5, 2) := by decide +kernel
theorem dX11_bag_7 : decode cX11_bag 7 = .ok (.aload_n 0, 1) := by decide +kernel
theorem dX11_bag_8 : decode cX11_bag 8 = .ok (.iload_n 1, 1) := by decide +kernel
theorem dX11_bag_9 : decode cX11_bag 9 = .ok (.invokevirtual 66, 3) := by decide +kernel
theorem dX11_bag_12 : decode cX11_bag 12 = .ok (.astore 6, 2) := by decide +kernel
theorem dX11_bag_14 : decode cX11_bag 14 = .ok (.iload 5, 2) := by decide +kernel
theorem dX11_bag_16 : decode cX11_bag 16 = .ok (.ifCond .ne 8, 3) := by decide +kernel
theorem dX11_bag_19 : decode cX11_bag 19 = .ok (.aload 6, 2) := by decide +kernel
theorem dX11_bag_21 : decode cX11_bag 21 = .ok (.ifnonnull 10, 3) := by decide +kernel
theorem dX11_bag_24 : decode cX11_bag 24 = .ok (.aload_n 0, 1) := by decide +kernel
theorem dX11_bag_25 : decode cX11_bag 25 = .ok (.iload 5, 2) := by decide +kernel
theorem dX11_bag_27 : decode cX11_bag 27 = .ok (.invokevirtual 230, 3) := by decide +kernel
theorem dX11_bag_30 : decode cX11_bag 30 = .ok (.ireturn, 1) := by decide +kernel
theorem dX11_bag_31 : decode cX11_bag 31 = .ok (.iload_n 2, 1) := by decide +kernel
theorem dX11_bag_32 : decode cX11_bag 32 = .ok (.ifCond .ge 9, 3) := by decide +kernel
theorem dX11_bag_35 : decode cX11_bag 35 = .ok (.aload_n 0, 1) := by decide +kernel
theorem dX11_bag_36 : decode cX11_bag 36 = .ok (.iconst 4, 1) := by decide +kernel
theorem dX11_bag_37 : decode cX11_bag 37 = .ok (.invokevirtual 230, 3) := by decide +kernel
theorem dX11_bag_40 : decode cX11_bag 40 = .ok (.ireturn, 1) := by decide +kernel
theorem dX11_bag_41 : decode cX11_bag 41 = .ok (.ldc2_w 312, 3) := by decide +kernel
theorem dX11_bag_44 : decode cX11_bag 44 = .ok (.iload_n 2, 1) := by decide +kernel
theorem dX11_bag_45 : decode cX11_bag 45 = .ok (.i2l, 1) := by decide +kernel
theorem dX11_bag_46 : decode cX11_bag 46 = .ok (.lmul, 1) := by decide +kernel
theorem dX11_bag_47 : decode cX11_bag 47 = .ok (.aload 6, 2) := by decide +kernel
theorem dX11_bag_49 : decode cX11_bag 49 = .ok (.getfield 314, 3) := by decide +kernel
theorem dX11_bag_52 : decode cX11_bag 52 = .ok (.i2l, 1) := by decide +kernel
theorem dX11_bag_53 : decode cX11_bag 53 = .ok (.lcmp, 1) := by decide +kernel
theorem dX11_bag_54 : decode cX11_bag 54 = .ok (.ifCond .le 9, 3) := by decide +kernel
theorem dX11_bag_57 : decode cX11_bag 57 = .ok (.aload_n 0, 1) := by decide +kernel
theorem dX11_bag_58 : decode cX11_bag 58 = .ok (.iconst 5, 1) := by decide +kernel
theorem dX11_bag_59 : decode cX11_bag 59 = .ok (.invokevirtual 230, 3) := by decide +kernel
theorem dX11_bag_62 : decode cX11_bag 62 = .ok (.ireturn, 1) := by decide +kernel
theorem dX11_bag_63 : decode cX11_bag 63 = .ok (.iload_n 2, 1) := by decide +kernel
theorem dX11_bag_64 : decode cX11_bag 64 = .ok (.ifCond .eq 17, 3) := by decide +kernel
theorem dX11_bag_67 : decode cX11_bag 67 = .ok (.iload_n 2, 1) := by decide +kernel
theorem dX11_bag_68 : decode cX11_bag 68 = .ok (.iconst 4, 1) := by decide +kernel
theorem dX11_bag_69 : decode cX11_bag 69 = .ok (.if_icmp .gt 12, 3) := by decide +kernel
theorem dX11_bag_72 : decode cX11_bag 72 = .ok (.iload_n 3, 1) := by decide +kernel
theorem dX11_bag_73 : decode cX11_bag 73 = .ok (.ifCond .lt 8, 3) := by decide +kernel
theorem dX11_bag_76 : decode cX11_bag 76 = .ok (.iload_n 3, 1) := by decide +kernel
theorem dX11_bag_77 : decode cX11_bag 77 = .ok (.iload_n 2, 1) := by decide +kernel
theorem dX11_bag_78 : decode cX11_bag 78 = .ok (.if_icmp .lt 10, 3) := by decide +kernel
theorem dX11_bag_81 : decode cX11_bag 81 = .ok (.aload_n 0, 1) := by decide +kernel
theorem dX11_bag_82 : decode cX11_bag 82 = .ok (.bipush 6, 2) := by decide +kernel
theorem dX11_bag_84 : decode cX11_bag 84 = .ok (.invokevirtual 230, 3) := by decide +kernel
theorem dX11_bag_87 : decode cX11_bag 87 = .ok (.ireturn, 1) := by decide +kernel
theorem dX11_bag_88 : decode cX11_bag 88 = .ok (.aload_n 0, 1) := by decide +kernel
theorem dX11_bag_89 : decode cX11_bag 89 = .ok (.getfield 47, 3) := by decide +kernel
theorem dX11_bag_92 : decode cX11_bag 92 = .ok (.iconst 1, 1) := by decide +kernel
theorem dX11_bag_93 : decode cX11_bag 93 = .ok (.iconst 1, 1) := by decide +kernel
theorem dX11_bag_94 : decode cX11_bag 94 = .ok (.iconst 1, 1) := by decide +kernel
theorem dX11_bag_95 : decode cX11_bag 95 = .ok (.invokevirtual 233, 3) := by decide +kernel
theorem dX11_bag_98 : decode cX11_bag 98 = .ok (.iconst 0, 1) := by decide +kernel
theorem dX11_bag_99 : decode cX11_bag 99 = .ok (.istore 7, 2) := by decide +kernel
theorem dX11_bag_101 : decode cX11_bag 101 = .ok (.iload 7, 2) := by decide +kernel
theorem dX11_bag_103 : decode cX11_bag 103 = .ok (.iload_n 2, 1) := by decide +kernel
theorem dX11_bag_104 : decode cX11_bag 104 = .ok (.if_icmp .ge 61, 3) := by decide +kernel
theorem dX11_bag_107 : decode cX11_bag 107 = .ok (.aload 6, 2) := by decide +kernel
theorem dX11_bag_109 : decode cX11_bag 109 = .ok (.iconst 2, 1) := by decide +kernel
theorem dX11_bag_110 : decode cX11_bag 110 = .ok (.iload 7, 2) := by decide +kernel
theorem dX11_bag_112 : decode cX11_bag 112 = .ok (.imul, 1) := by decide +kernel
theorem dX11_bag_113 : decode cX11_bag 113 = .ok (.invokevirtual 110, 3) := by decide +kernel
theorem dX11_bag_116 : decode cX11_bag 116 = .ok (.lstore 8, 2) := by decide +kernel
theorem dX11_bag_118 : decode cX11_bag 118 = .ok (.aload 6, 2) := by decide +kernel
theorem dX11_bag_120 : decode cX11_bag 120 = .ok (.iconst 2, 1) := by decide +kernel
theorem dX11_bag_121 : decode cX11_bag 121 = .ok (.iload 7, 2) := by decide +kernel
theorem dX11_bag_123 : decode cX11_bag 123 = .ok (.imul, 1) := by decide +kernel
theorem dX11_bag_124 : decode cX11_bag 124 = .ok (.iconst 1, 1) := by decide +kernel
theorem dX11_bag_125 : decode cX11_bag 125 = .ok (.iadd, 1) := by decide +kernel
theorem dX11_bag_126 : decode cX11_bag 126 = .ok (.invokevirtual 110, 3) := by decide +kernel
theorem dX11_bag_129 : decode cX11_bag 129 = .ok (.lstore 10, 2) := by decide +kernel
theorem dX11_bag_131 : decode cX11_bag 131 = .ok (.lload 8, 2) := by decide +kernel
theorem dX11_bag_133 : decode cX11_bag 133 = .ok (.lload 10, 2) := by decide +kernel
theorem dX11_bag_135 : decode cX11_bag 135 = .ok (.invokestatic 161, 3) := by decide +kernel
theorem dX11_bag_138 : decode cX11_bag 138 = .ok (.ifCond .ne 10, 3) := by decide +kernel
theorem dX11_bag_141 : decode cX11_bag 141 = .ok (.aload_n 0, 1) := by decide +kernel
theorem dX11_bag_142 : decode cX11_bag 142 = .ok (.bipush 6, 2) := by decide +kernel
theorem dX11_bag_144 : decode cX11_bag 144 = .ok (.invokevirtual 230, 3) := by decide +kernel
theorem dX11_bag_147 : decode cX11_bag 147 = .ok (.ireturn, 1) := by decide +kernel
theorem dX11_bag_148 : decode cX11_bag 148 = .ok (.aload_n 0, 1) := by decide +kernel
theorem dX11_bag_149 : decode cX11_bag 149 = .ok (.getfield 47, 3) := by decide +kernel
theorem dX11_bag_152 : decode cX11_bag 152 = .ok (.lload 8, 2) := by decide +kernel
theorem dX11_bag_154 : decode cX11_bag 154 = .ok (.lload 10, 2) := by decide +kernel
theorem dX11_bag_156 : decode cX11_bag 156 = .ok (.invokevirtual 236, 3) := by decide +kernel
theorem dX11_bag_159 : decode cX11_bag 159 = .ok (.iinc 7 1, 3) := by decide +kernel
theorem dX11_bag_162 : decode cX11_bag 162 = .ok (.goto (-61), 3) := by decide +kernel
theorem dX11_bag_165 : decode cX11_bag 165 = .ok (.aload_n 0, 1) := by decide +kernel
theorem dX11_bag_166 : decode cX11_bag 166 = .ok (.getfield 47, 3) := by decide +kernel
theorem dX11_bag_169 : decode cX11_bag 169 = .ok (.iload_n 3, 1) := by decide +kernel
theorem dX11_bag_170 : decode cX11_bag 170 = .ok (.lconst 0, 1) := by decide +kernel
theorem dX11_bag_171 : decode cX11_bag 171 = .ok (.lconst 1, 1) := by decide +kernel
theorem dX11_bag_172 : decode cX11_bag 172 = .ok (.bipush 7, 2) := by decide +kernel
theorem dX11_bag_174 : decode cX11_bag 174 = .ok (.invokevirtual 239, 3) := by decide +kernel
theorem dX11_bag_177 : decode cX11_bag 177 = .ok (.iload 4, 2) := by decide +kernel
theorem dX11_bag_179 : decode cX11_bag 179 = .ok (.iconst (-1), 1) := by decide +kernel
theorem dX11_bag_180 : decode cX11_bag 180 = .ok (.if_icmp .ne 23, 3) := by decide +kernel
theorem dX11_bag_183 : decode cX11_bag 183 = .ok (.aload_n 0, 1) := by decide +kernel
theorem dX11_bag_184 : decode cX11_bag 184 = .ok (.getfield 47, 3) := by decide +kernel
theorem dX11_bag_187 : decode cX11_bag 187 = .ok (.invokevirtual 243, 3) := by decide +kernel
theorem dX11_bag_190 : decode cX11_bag 190 = .ok (.ifCond .eq 13, 3) := by decide +kernel
theorem dX11_bag_193 : decode cX11_bag 193 = .ok (.aload_n 0, 1) := by decide +kernel
theorem dX11_bag_194 : decode cX11_bag 194 = .ok (.getfield 47, 3) := by decide +kernel
theorem dX11_bag_197 : decode cX11_bag 197 = .ok (.getfield 246, 3) := by decide +kernel
theorem dX11_bag_200 : decode cX11_bag 200 = .ok (.goto 9, 3) := by decide +kernel
theorem dX11_bag_203 : decode cX11_bag 203 = .ok (.aload_n 0, 1) := by decide +kernel
theorem dX11_bag_204 : decode cX11_bag 204 = .ok (.iload 4, 2) := by decide +kernel
theorem dX11_bag_206 : decode cX11_bag 206 = .ok (.invokevirtual 249, 3) := by decide +kernel
theorem dX11_bag_209 : decode cX11_bag 209 = .ok (.ireturn, 1) := by decide +kernel
theorem dX11_frees_0 : decode cX11_frees 0 = .ok (.iload_n 1, 1) := by decide +kernel
theorem dX11_frees_1 : decode cX11_frees 1 = .ok (.ifCond .lt 9, 3) := by decide +kernel
theorem dX11_frees_4 : decode cX11_frees 4 = .ok (.iload_n 1, 1) := by decide +kernel
theorem dX11_frees_5 : decode cX11_frees 5 = .ok (.bipush 40, 2) := by decide +kernel
theorem dX11_frees_7 : decode cX11_frees 7 = .ok (.if_icmp .le 10, 3) := by decide +kernel
theorem dX11_frees_10 : decode cX11_frees 10 = .ok (.aload_n 0, 1) := by decide +kernel
theorem dX11_frees_11 : decode cX11_frees 11 = .ok (.bipush 6, 2) := by decide +kernel
theorem dX11_frees_13 : decode cX11_frees 13 = .ok (.invokevirtual 70, 3) := by decide +kernel
theorem dX11_frees_16 : decode cX11_frees 16 = .ok (.ireturn, 1) := by decide +kernel
theorem dX11_frees_17 : decode cX11_frees 17 = .ok (.iconst 0, 1) := by decide +kernel
theorem dX11_frees_18 : decode cX11_frees 18 = .ok (.istore_n 2, 1) := by decide +kernel
theorem dX11_frees_19 : decode cX11_frees 19 = .ok (.iload_n 2, 1) := by decide +kernel
theorem dX11_frees_20 : decode cX11_frees 20 = .ok (.iload_n 1, 1) := by decide +kernel
theorem dX11_frees_21 : decode cX11_frees 21 = .ok (.if_icmp .ge 41, 3) := by decide +kernel
theorem dX11_frees_24 : decode cX11_frees 24 = .ok (.aload_n 0, 1) := by decide +kernel
theorem dX11_frees_25 : decode cX11_frees 25 = .ok (.getfield 31, 3) := by decide +kernel
theorem dX11_frees_28 : decode cX11_frees 28 = .ok (.getfield 186, 3) := by decide +kernel
theorem dX11_frees_31 : decode cX11_frees 31 = .ok (.lconst 0, 1) := by decide +kernel
theorem dX11_frees_32 : decode cX11_frees 32 = .ok (.lcmp, 1) := by decide +kernel
theorem dX11_frees_33 : decode cX11_frees 33 = .ok (.ifCond .eq 29, 3) := by decide +kernel
theorem dX11_frees_36 : decode cX11_frees 36 = .ok (.aload_n 0, 1) := by decide +kernel
theorem dX11_frees_37 : decode cX11_frees 37 = .ok (.getfield 31, 3) := by decide +kernel
theorem dX11_frees_40 : decode cX11_frees 40 = .ok (.aload_n 0, 1) := by decide +kernel
theorem dX11_frees_41 : decode cX11_frees 41 = .ok (.getfield 31, 3) := by decide +kernel
theorem dX11_frees_44 : decode cX11_frees 44 = .ok (.getfield 186, 3) := by decide +kernel
theorem dX11_frees_47 : decode cX11_frees 47 = .ok (.invokestatic 315, 3) := by decide +kernel
theorem dX11_frees_50 : decode cX11_frees 50 = .ok (.invokevirtual 319, 3) := by decide +kernel
theorem dX11_frees_53 : decode cX11_frees 53 = .ok (.ifCond .eq 9, 3) := by decide +kernel
theorem dX11_frees_56 : decode cX11_frees 56 = .ok (.iinc 2 1, 3) := by decide +kernel
theorem dX11_frees_59 : decode cX11_frees 59 = .ok (.goto (-40), 3) := by decide +kernel
theorem dX11_frees_62 : decode cX11_frees 62 = .ok (.iload_n 2, 1) := by decide +kernel
theorem dX11_frees_63 : decode cX11_frees 63 = .ok (.ireturn, 1) := by decide +kernel
theorem dX11_draws_0 : decode cX11_draws 0 = .ok (.iload_n 1, 1) := by decide +kernel
theorem dX11_draws_1 : decode cX11_draws 1 = .ok (.iconst 1, 1) := by decide +kernel
theorem dX11_draws_2 : decode cX11_draws 2 = .ok (.if_icmp .lt 9, 3) := by decide +kernel
theorem dX11_draws_5 : decode cX11_draws 5 = .ok (.iload_n 1, 1) := by decide +kernel
theorem dX11_draws_6 : decode cX11_draws 6 = .ok (.bipush 40, 2) := by decide +kernel
theorem dX11_draws_8 : decode cX11_draws 8 = .ok (.if_icmp .le 10, 3) := by decide +kernel
theorem dX11_draws_11 : decode cX11_draws 11 = .ok (.aload_n 0, 1) := by decide +kernel
theorem dX11_draws_12 : decode cX11_draws 12 = .ok (.bipush 6, 2) := by decide +kernel
theorem dX11_draws_14 : decode cX11_draws 14 = .ok (.invokevirtual 70, 3) := by decide +kernel
theorem dX11_draws_17 : decode cX11_draws 17 = .ok (.ireturn, 1) := by decide +kernel
theorem dX11_draws_18 : decode cX11_draws 18 = .ok (.iconst 0, 1) := by decide +kernel
theorem dX11_draws_19 : decode cX11_draws 19 = .ok (.istore_n 2, 1) := by decide +kernel
theorem dX11_draws_20 : decode cX11_draws 20 = .ok (.iload_n 2, 1) := by decide +kernel
theorem dX11_draws_21 : decode cX11_draws 21 = .ok (.iload_n 1, 1) := by decide +kernel
theorem dX11_draws_22 : decode cX11_draws 22 = .ok (.if_icmp .ge 27, 3) := by decide +kernel
theorem dX11_draws_25 : decode cX11_draws 25 = .ok (.aload_n 0, 1) := by decide +kernel
theorem dX11_draws_26 : decode cX11_draws 26 = .ok (.getfield 31, 3) := by decide +kernel
theorem dX11_draws_29 : decode cX11_draws 29 = .ok (.aload_n 0, 1) := by decide +kernel
theorem dX11_draws_30 : decode cX11_draws 30 = .ok (.getfield 31, 3) := by decide +kernel
theorem dX11_draws_33 : decode cX11_draws 33 = .ok (.iconst 3, 1) := by decide +kernel
theorem dX11_draws_34 : decode cX11_draws 34 = .ok (.invokevirtual 322, 3) := by decide +kernel
theorem dX11_draws_37 : decode cX11_draws 37 = .ok (.invokevirtual 319, 3) := by decide +kernel
theorem dX11_draws_40 : decode cX11_draws 40 = .ok (.ifCond .eq 9, 3) := by decide +kernel
theorem dX11_draws_43 : decode cX11_draws 43 = .ok (.iinc 2 1, 3) := by decide +kernel
theorem dX11_draws_46 : decode cX11_draws 46 = .ok (.goto (-26), 3) := by decide +kernel
theorem dX11_draws_49 : decode cX11_draws 49 = .ok (.iload_n 2, 1) := by decide +kernel
theorem dX11_draws_50 : decode cX11_draws 50 = .ok (.ireturn, 1) := by decide +kernel
theorem dX11_seed_0 : decode cX11_seed 0 = .ok (.aload_n 0, 1) := by decide +kernel
theorem dX11_seed_1 : decode cX11_seed 1 = .ok (.getfield 31, 3) := by decide +kernel
theorem dX11_seed_4 : decode cX11_seed 4 = .ok (.getfield 325, 3) := by decide +kernel
theorem dX11_seed_7 : decode cX11_seed 7 = .ok (.istore_n 2, 1) := by decide +kernel
theorem dX11_seed_8 : decode cX11_seed 8 = .ok (.aload_n 0, 1) := by decide +kernel
theorem dX11_seed_9 : decode cX11_seed 9 = .ok (.getfield 31, 3) := by decide +kernel
theorem dX11_seed_12 : decode cX11_seed 12 = .ok (.iload_n 1, 1) := by decide +kernel
theorem dX11_seed_13 : decode cX11_seed 13 = .ok (.putfield 325, 3) := by decide +kernel
theorem dX11_seed_16 : decode cX11_seed 16 = .ok (.iload_n 2, 1) := by decide +kernel
theorem dX11_seed_17 : decode cX11_seed 17 = .ok (.ireturn, 1) := by decide +kernel
theorem dX11_act_0 : decode cX11_act 0 = .ok (.aload_n 0, 1) := by decide +kernel
theorem dX11_act_1 : decode cX11_act 1 = .ok (.getfield 25, 3) := by decide +kernel
theorem dX11_act_4 : decode cX11_act 4 = .ok (.iconst 0, 1) := by decide +kernel
theorem dX11_act_5 : decode cX11_act 5 = .ok (.iconst 0, 1) := by decide +kernel
theorem dX11_act_6 : decode cX11_act 6 = .ok (.iastore, 1) := by decide +kernel
theorem dX11_act_7 : decode cX11_act 7 = .ok (.aload_n 0, 1) := by decide +kernel
theorem dX11_act_8 : decode cX11_act 8 = .ok (.aload_n 0, 1) := by decide +kernel
theorem dX11_act_9 : decode cX11_act 9 = .ok (.getfield 31, 3) := by decide +kernel
theorem dX11_act_12 : decode cX11_act 12 = .ok (.iload_n 1, 1) := by decide +kernel
theorem dX11_act_13 : decode cX11_act 13 = .ok (.invokevirtual 114, 3) := by decide +kernel
theorem dX11_act_16 : decode cX11_act 16 = .ok (.astore 4, 2) := by decide +kernel
theorem dX11_act_18 : decode cX11_act 18 = .ok (.aload 4, 2) := by decide +kernel
theorem dX11_act_20 : decode cX11_act 20 = .ok (.ifnonnull 5, 3) := by decide +kernel
theorem dX11_act_23 : decode cX11_act 23 = .ok (.iconst 0, 1) := by decide +kernel
theorem dX11_act_24 : decode cX11_act 24 = .ok (.ireturn, 1) := by decide +kernel
theorem dX11_act_25 : decode cX11_act 25 = .ok (.iload_n 2, 1) := by decide +kernel
theorem dX11_act_26 : decode cX11_act 26 = .ok (.tableswitch 47 0 2 #[26, 33, 40], 26) := by decide +kernel
theorem dX11_act_52 : decode cX11_act 52 = .ok (.aload 4, 2) := by decide +kernel
theorem dX11_act_54 : decode cX11_act 54 = .ok (.iload_n 3, 1) := by decide +kernel
theorem dX11_act_55 : decode cX11_act 55 = .ok (.invokevirtual 328, 3) := by decide +kernel
theorem dX11_act_58 : decode cX11_act 58 = .ok (.ireturn, 1) := by decide +kernel
theorem dX11_act_59 : decode cX11_act 59 = .ok (.aload 4, 2) := by decide +kernel
theorem dX11_act_61 : decode cX11_act 61 = .ok (.iload_n 3, 1) := by decide +kernel
theorem dX11_act_62 : decode cX11_act 62 = .ok (.invokevirtual 331, 3) := by decide +kernel
theorem dX11_act_65 : decode cX11_act 65 = .ok (.ireturn, 1) := by decide +kernel
theorem dX11_act_66 : decode cX11_act 66 = .ok (.aload 4, 2) := by decide +kernel
theorem dX11_act_68 : decode cX11_act 68 = .ok (.iload_n 3, 1) := by decide +kernel
theorem dX11_act_69 : decode cX11_act 69 = .ok (.invokevirtual 333, 3) := by decide +kernel
theorem dX11_act_72 : decode cX11_act 72 = .ok (.ireturn, 1) := by decide +kernel
theorem dX11_act_73 : decode cX11_act 73 = .ok (.iconst 0, 1) := by decide +kernel
theorem dX11_act_74 : decode cX11_act 74 = .ok (.ireturn, 1) := by decide +kernel
theorem dX11_trace_0 : decode cX11_trace 0 = .ok (.iload_n 1, 1) := by decide +kernel
theorem dX11_trace_1 : decode cX11_trace 1 = .ok (.ifCond .lt 30, 3) := by decide +kernel
theorem dX11_trace_4 : decode cX11_trace 4 = .ok (.iload_n 1, 1) := by decide +kernel
theorem dX11_trace_5 : decode cX11_trace 5 = .ok (.aload_n 0, 1) := by decide +kernel
theorem dX11_trace_6 : decode cX11_trace 6 = .ok (.getfield 25, 3) := by decide +kernel
theorem dX11_trace_9 : decode cX11_trace 9 = .ok (.iconst 0, 1) := by decide +kernel
theorem dX11_trace_10 : decode cX11_trace 10 = .ok (.iaload, 1) := by decide +kernel
theorem dX11_trace_11 : decode cX11_trace 11 = .ok (.if_icmp .ge 20, 3) := by decide +kernel
theorem dX11_trace_14 : decode cX11_trace 14 = .ok (.iload_n 1, 1) := by decide +kernel
theorem dX11_trace_15 : decode cX11_trace 15 = .ok (.bipush 20, 2) := by decide +kernel
theorem dX11_trace_17 : decode cX11_trace 17 = .ok (.if_icmp .ge 14, 3) := by decide +kernel
theorem dX11_trace_20 : decode cX11_trace 20 = .ok (.aload_n 0, 1) := by decide +kernel
theorem dX11_trace_21 : decode cX11_trace 21 = .ok (.getfield 25, 3) := by decide +kernel
theorem dX11_trace_24 : decode cX11_trace 24 = .ok (.iconst 1, 1) := by decide +kernel
theorem dX11_trace_25 : decode cX11_trace 25 = .ok (.iload_n 1, 1) := by decide +kernel
theorem dX11_trace_26 : decode cX11_trace 26 = .ok (.iadd, 1) := by decide +kernel
theorem dX11_trace_27 : decode cX11_trace 27 = .ok (.iaload, 1) := by decide +kernel
theorem dX11_trace_28 : decode cX11_trace 28 = .ok (.goto 4, 3) := by decide +kernel
theorem dX11_trace_31 : decode cX11_trace 31 = .ok (.iconst (-1), 1) := by decide +kernel
theorem dX11_trace_32 : decode cX11_trace 32 = .ok (.ireturn, 1) := by decide +kernel
theorem dX11_image_0 : decode cX11_image 0 = .ok (.aload_n 0, 1) := by decide +kernel
theorem dX11_image_1 : decode cX11_image 1 = .ok (.getfield 35, 3) := by decide +kernel
theorem dX11_image_4 : decode cX11_image 4 = .ok (.aload_n 0, 1) := by decide +kernel
theorem dX11_image_5 : decode cX11_image 5 = .ok (.getfield 31, 3) := by decide +kernel
theorem dX11_image_8 : decode cX11_image 8 = .ok (.invokevirtual 169, 3) := by decide +kernel
theorem dX11_image_11 : decode cX11_image 11 = .ok (.aload_n 0, 1) := by decide +kernel
theorem dX11_image_12 : decode cX11_image 12 = .ok (.iconst 1, 1) := by decide +kernel
theorem dX11_image_13 : decode cX11_image 13 = .ok (.putfield 336, 3) := by decide +kernel
theorem dX11_image_16 : decode cX11_image 16 = .ok (.aload_n 0, 1) := by decide +kernel
theorem dX11_image_17 : decode cX11_image 17 = .ok (.getfield 31, 3) := by decide +kernel
theorem dX11_image_20 : decode cX11_image 20 = .ok (.getfield 151, 3) := by decide +kernel
theorem dX11_image_23 : decode cX11_image 23 = .ok (.ireturn, 1) := by decide +kernel
theorem dX11_restore_0 : decode cX11_restore 0 = .ok (.aload_n 0, 1) := by decide +kernel
theorem dX11_restore_1 : decode cX11_restore 1 = .ok (.getfield 336, 3) := by decide +kernel
theorem dX11_restore_4 : decode cX11_restore 4 = .ok (.ifCond .ne 10, 3) := by decide +kernel
theorem dX11_restore_7 : decode cX11_restore 7 = .ok (.aload_n 0, 1) := by decide +kernel
theorem dX11_restore_8 : decode cX11_restore 8 = .ok (.bipush 6, 2) := by decide +kernel
theorem dX11_restore_10 : decode cX11_restore 10 = .ok (.invokevirtual 70, 3) := by decide +kernel
theorem dX11_restore_13 : decode cX11_restore 13 = .ok (.ireturn, 1) := by decide +kernel
theorem dX11_restore_14 : decode cX11_restore 14 = .ok (.aload_n 0, 1) := by decide +kernel
theorem dX11_restore_15 : decode cX11_restore 15 = .ok (.getfield 31, 3) := by decide +kernel
theorem dX11_restore_18 : decode cX11_restore 18 = .ok (.aload_n 0, 1) := by decide +kernel
theorem dX11_restore_19 : decode cX11_restore 19 = .ok (.getfield 35, 3) := by decide +kernel
theorem dX11_restore_22 : decode cX11_restore 22 = .ok (.invokevirtual 169, 3) := by decide +kernel
theorem dX11_restore_25 : decode cX11_restore 25 = .ok (.iconst 0, 1) := by decide +kernel
theorem dX11_restore_26 : decode cX11_restore 26 = .ok (.istore_n 1, 1) := by decide +kernel
theorem dX11_restore_27 : decode cX11_restore 27 = .ok (.iload_n 1, 1) := by decide +kernel
theorem dX11_restore_28 : decode cX11_restore 28 = .ok (.bipush 8, 2) := by decide +kernel
theorem dX11_restore_30 : decode cX11_restore 30 = .ok (.if_icmp .ge 39, 3) := by decide +kernel
theorem dX11_restore_33 : decode cX11_restore 33 = .ok (.aload_n 0, 1) := by decide +kernel
theorem dX11_restore_34 : decode cX11_restore 34 = .ok (.getfield 11, 3) := by decide +kernel
theorem dX11_restore_37 : decode cX11_restore 37 = .ok (.iload_n 1, 1) := by decide +kernel
theorem dX11_restore_38 : decode cX11_restore 38 = .ok (.aaload, 1) := by decide +kernel
theorem dX11_restore_39 : decode cX11_restore 39 = .ok (.astore_n 2, 1) := by decide +kernel
theorem dX11_restore_40 : decode cX11_restore 40 = .ok (.aload_n 2, 1) := by decide +kernel
theorem dX11_restore_41 : decode cX11_restore 41 = .ok (.ifnull 22, 3) := by decide +kernel
theorem dX11_restore_44 : decode cX11_restore 44 = .ok (.aload_n 2, 1) := by decide +kernel
theorem dX11_restore_45 : decode cX11_restore 45 = .ok (.getfield 126, 3) := by decide +kernel
theorem dX11_restore_48 : decode cX11_restore 48 = .ok (.aload_n 0, 1) := by decide +kernel
theorem dX11_restore_49 : decode cX11_restore 49 = .ok (.getfield 31, 3) := by decide +kernel
theorem dX11_restore_52 : decode cX11_restore 52 = .ok (.getfield 151, 3) := by decide +kernel
theorem dX11_restore_55 : decode cX11_restore 55 = .ok (.if_icmp .lt 8, 3) := by decide +kernel
theorem dX11_restore_58 : decode cX11_restore 58 = .ok (.aload_n 2, 1) := by decide +kernel
theorem dX11_restore_59 : decode cX11_restore 59 = .ok (.iconst (-1), 1) := by decide +kernel
theorem dX11_restore_60 : decode cX11_restore 60 = .ok (.invokevirtual 118, 3) := by decide +kernel
theorem dX11_restore_63 : decode cX11_restore 63 = .ok (.iinc 1 1, 3) := by decide +kernel
theorem dX11_restore_66 : decode cX11_restore 66 = .ok (.goto (-39), 3) := by decide +kernel
theorem dX11_restore_69 : decode cX11_restore 69 = .ok (.aload_n 0, 1) := by decide +kernel
theorem dX11_restore_70 : decode cX11_restore 70 = .ok (.getfield 31, 3) := by decide +kernel
theorem dX11_restore_73 : decode cX11_restore 73 = .ok (.getfield 151, 3) := by decide +kernel
theorem dX11_restore_76 : decode cX11_restore 76 = .ok (.ireturn, 1) := by decide +kernel
theorem dX11_status_0 : decode cX11_status 0 = .ok (.iload_n 1, 1) := by decide +kernel
theorem dX11_status_1 : decode cX11_status 1 = .ok (.tableswitch 74 0 4 #[35, 43, 51, 59, 67], 35) := by decide +kernel
theorem dX11_status_36 : decode cX11_status 36 = .ok (.aload_n 0, 1) := by decide +kernel
theorem dX11_status_37 : decode cX11_status 37 = .ok (.getfield 31, 3) := by decide +kernel
theorem dX11_status_40 : decode cX11_status 40 = .ok (.getfield 151, 3) := by decide +kernel
theorem dX11_status_43 : decode cX11_status 43 = .ok (.ireturn, 1) := by decide +kernel
theorem dX11_status_44 : decode cX11_status 44 = .ok (.aload_n 0, 1) := by decide +kernel
theorem dX11_status_45 : decode cX11_status 45 = .ok (.getfield 31, 3) := by decide +kernel
theorem dX11_status_48 : decode cX11_status 48 = .ok (.getfield 200, 3) := by decide +kernel
theorem dX11_status_51 : decode cX11_status 51 = .ok (.ireturn, 1) := by decide +kernel
theorem dX11_status_52 : decode cX11_status 52 = .ok (.aload_n 0, 1) := by decide +kernel
theorem dX11_status_53 : decode cX11_status 53 = .ok (.getfield 31, 3) := by decide +kernel
theorem dX11_status_56 : decode cX11_status 56 = .ok (.getfield 210, 3) := by decide +kernel
theorem dX11_status_59 : decode cX11_status 59 = .ok (.ireturn, 1) := by decide +kernel
theorem dX11_status_60 : decode cX11_status 60 = .ok (.aload_n 0, 1) := by decide +kernel
theorem dX11_status_61 : decode cX11_status 61 = .ok (.getfield 31, 3) := by decide +kernel
theorem dX11_status_64 : decode cX11_status 64 = .ok (.getfield 325, 3) := by decide +kernel
theorem dX11_status_67 : decode cX11_status 67 = .ok (.ireturn, 1) := by decide +kernel
theorem dX11_status_68 : decode cX11_status 68 = .ok (.aload_n 0, 1) := by decide +kernel
theorem dX11_status_69 : decode cX11_status 69 = .ok (.getfield 25, 3) := by decide +kernel
theorem dX11_status_72 : decode cX11_status 72 = .ok (.iconst 0, 1) := by decide +kernel
theorem dX11_status_73 : decode cX11_status 73 = .ok (.iaload, 1) := by decide +kernel
theorem dX11_status_74 : decode cX11_status 74 = .ok (.ireturn, 1) := by decide +kernel
theorem dX11_status_75 : decode cX11_status 75 = .ok (.iload_n 1, 1) := by decide +kernel
theorem dX11_status_76 : decode cX11_status 76 = .ok (.bipush 10, 2) := by decide +kernel
theorem dX11_status_78 : decode cX11_status 78 = .ok (.if_icmp .le 21, 3) := by decide +kernel
theorem dX11_status_81 : decode cX11_status 81 = .ok (.iload_n 1, 1) := by decide +kernel
theorem dX11_status_82 : decode cX11_status 82 = .ok (.bipush 17, 2) := by decide +kernel
theorem dX11_status_84 : decode cX11_status 84 = .ok (.if_icmp .gt 15, 3) := by decide +kernel
theorem dX11_status_87 : decode cX11_status 87 = .ok (.aload_n 0, 1) := by decide +kernel
theorem dX11_status_88 : decode cX11_status 88 = .ok (.getfield 21, 3) := by decide +kernel
theorem dX11_status_91 : decode cX11_status 91 = .ok (.iload_n 1, 1) := by decide +kernel
theorem dX11_status_92 : decode cX11_status 92 = .ok (.bipush 10, 2) := by decide +kernel
theorem dX11_status_94 : decode cX11_status 94 = .ok (.isub, 1) := by decide +kernel
theorem dX11_status_95 : decode cX11_status 95 = .ok (.iaload, 1) := by decide +kernel
theorem dX11_status_96 : decode cX11_status 96 = .ok (.goto 4, 3) := by decide +kernel
theorem dX11_status_99 : decode cX11_status 99 = .ok (.iconst (-1), 1) := by decide +kernel
theorem dX11_status_100 : decode cX11_status 100 = .ok (.ireturn, 1) := by decide +kernel
theorem dX11_refuse_0 : decode cX11_refuse 0 = .ok (.iload_n 1, 1) := by decide +kernel
theorem dX11_refuse_1 : decode cX11_refuse 1 = .ok (.ifCond .lt 22, 3) := by decide +kernel
theorem dX11_refuse_4 : decode cX11_refuse 4 = .ok (.iload_n 1, 1) := by decide +kernel
theorem dX11_refuse_5 : decode cX11_refuse 5 = .ok (.aload_n 0, 1) := by decide +kernel
theorem dX11_refuse_6 : decode cX11_refuse 6 = .ok (.getfield 21, 3) := by decide +kernel
theorem dX11_refuse_9 : decode cX11_refuse 9 = .ok (.arraylength, 1) := by decide +kernel
theorem dX11_refuse_10 : decode cX11_refuse 10 = .ok (.if_icmp .ge 13, 3) := by decide +kernel
theorem dX11_refuse_13 : decode cX11_refuse 13 = .ok (.aload_n 0, 1) := by decide +kernel
theorem dX11_refuse_14 : decode cX11_refuse 14 = .ok (.getfield 21, 3) := by decide +kernel
theorem dX11_refuse_17 : decode cX11_refuse 17 = .ok (.iload_n 1, 1) := by decide +kernel
theorem dX11_refuse_18 : decode cX11_refuse 18 = .ok (.dup2, 1) := by decide +kernel
theorem dX11_refuse_19 : decode cX11_refuse 19 = .ok (.iaload, 1) := by decide +kernel
theorem dX11_refuse_20 : decode cX11_refuse 20 = .ok (.iconst 1, 1) := by decide +kernel
theorem dX11_refuse_21 : decode cX11_refuse 21 = .ok (.iadd, 1) := by decide +kernel
theorem dX11_refuse_22 : decode cX11_refuse 22 = .ok (.iastore, 1) := by decide +kernel
theorem dX11_refuse_23 : decode cX11_refuse 23 = .ok (.iload_n 1, 1) := by decide +kernel
theorem dX11_refuse_24 : decode cX11_refuse 24 = .ok (.ineg, 1) := by decide +kernel
theorem dX11_refuse_25 : decode cX11_refuse 25 = .ok (.ireturn, 1) := by decide +kernel
theorem dX11_refuseFar_0 : decode cX11_refuseFar 0 = .ok (.ldc2_w 340, 3) := by decide +kernel
theorem dX11_refuseFar_3 : decode cX11_refuseFar 3 = .ok (.aload_n 0, 1) := by decide +kernel
theorem dX11_refuseFar_4 : decode cX11_refuseFar 4 = .ok (.iload_n 1, 1) := by decide +kernel
theorem dX11_refuseFar_5 : decode cX11_refuseFar 5 = .ok (.invokevirtual 70, 3) := by decide +kernel
theorem dX11_refuseFar_8 : decode cX11_refuseFar 8 = .ok (.i2l, 1) := by decide +kernel
theorem dX11_refuseFar_9 : decode cX11_refuseFar 9 = .ok (.ladd, 1) := by decide +kernel
theorem dX11_refuseFar_10 : decode cX11_refuseFar 10 = .ok (.lreturn, 1) := by decide +kernel
theorem dX11_refuseTen_0 : decode cX11_refuseTen 0 = .ok (.bipush (-10), 2) := by decide +kernel
theorem dX11_refuseTen_2 : decode cX11_refuseTen 2 = .ok (.aload_n 0, 1) := by decide +kernel
theorem dX11_refuseTen_3 : decode cX11_refuseTen 3 = .ok (.iload_n 1, 1) := by decide +kernel
theorem dX11_refuseTen_4 : decode cX11_refuseTen 4 = .ok (.invokevirtual 70, 3) := by decide +kernel
theorem dX11_refuseTen_7 : decode cX11_refuseTen 7 = .ok (.iadd, 1) := by decide +kernel
theorem dX11_refuseTen_8 : decode cX11_refuseTen 8 = .ok (.ireturn, 1) := by decide +kernel
theorem dX11_firstOf_0 : decode cX11_firstOf 0 = .ok (.iload_n 0, 1) := by decide +kernel
theorem dX11_firstOf_1 : decode cX11_firstOf 1 = .ok (.ifCond .eq 7, 3) := by decide +kernel
theorem dX11_firstOf_4 : decode cX11_firstOf 4 = .ok (.iload_n 1, 1) := by decide +kernel
theorem dX11_firstOf_5 : decode cX11_firstOf 5 = .ok (.ifCond .ne 7, 3) := by decide +kernel
theorem dX11_firstOf_8 : decode cX11_firstOf 8 = .ok (.iload_n 0, 1) := by decide +kernel
theorem dX11_firstOf_9 : decode cX11_firstOf 9 = .ok (.iload_n 1, 1) := by decide +kernel
theorem dX11_firstOf_10 : decode cX11_firstOf 10 = .ok (.iadd, 1) := by decide +kernel
theorem dX11_firstOf_11 : decode cX11_firstOf 11 = .ok (.ireturn, 1) := by decide +kernel
theorem dX11_firstOf_12 : decode cX11_firstOf 12 = .ok (.iload_n 0, 1) := by decide +kernel
theorem dX11_firstOf_13 : decode cX11_firstOf 13 = .ok (.iload_n 1, 1) := by decide +kernel
theorem dX11_firstOf_14 : decode cX11_firstOf 14 = .ok (.invokestatic 342, 3) := by decide +kernel
theorem dX11_firstOf_17 : decode cX11_firstOf 17 = .ok (.ireturn, 1) := by decide +kernel
theorem dX11_shelfAt_0 : decode cX11_shelfAt 0 = .ok (.iload_n 1, 1) := by decide +kernel
theorem dX11_shelfAt_1 : decode cX11_shelfAt 1 = .ok (.ifCond .lt 18, 3) := by decide +kernel
theorem dX11_shelfAt_4 : decode cX11_shelfAt 4 = .ok (.iload_n 1, 1) := by decide +kernel
theorem dX11_shelfAt_5 : decode cX11_shelfAt 5 = .ok (.bipush 8, 2) := by decide +kernel
theorem dX11_shelfAt_7 : decode cX11_shelfAt 7 = .ok (.if_icmp .ge 12, 3) := by decide +kernel
theorem dX11_shelfAt_10 : decode cX11_shelfAt 10 = .ok (.aload_n 0, 1) := by decide +kernel
theorem dX11_shelfAt_11 : decode cX11_shelfAt 11 = .ok (.getfield 11, 3) := by decide +kernel
theorem dX11_shelfAt_14 : decode cX11_shelfAt 14 = .ok (.iload_n 1, 1) := by decide +kernel
theorem dX11_shelfAt_15 : decode cX11_shelfAt 15 = .ok (.aaload, 1) := by decide +kernel
theorem dX11_shelfAt_16 : decode cX11_shelfAt 16 = .ok (.goto 4, 3) := by decide +kernel
theorem dX11_shelfAt_19 : decode cX11_shelfAt 19 = .ok (.aconst_null, 1) := by decide +kernel
theorem dX11_shelfAt_20 : decode cX11_shelfAt 20 = .ok (.areturn, 1) := by decide +kernel
theorem dX11_figureAt_0 : decode cX11_figureAt 0 = .ok (.iload_n 2, 1) := by decide +kernel
theorem dX11_figureAt_1 : decode cX11_figureAt 1 = .ok (.ifCond .lt 26, 3) := by decide +kernel
theorem dX11_figureAt_4 : decode cX11_figureAt 4 = .ok (.iload_n 2, 1) := by decide +kernel
theorem dX11_figureAt_5 : decode cX11_figureAt 5 = .ok (.aload_n 1, 1) := by decide +kernel
theorem dX11_figureAt_6 : decode cX11_figureAt 6 = .ok (.getfield 151, 3) := by decide +kernel
theorem dX11_figureAt_9 : decode cX11_figureAt 9 = .ok (.if_icmp .ge 18, 3) := by decide +kernel
theorem dX11_figureAt_12 : decode cX11_figureAt 12 = .ok (.iload_n 2, 1) := by decide +kernel
theorem dX11_figureAt_13 : decode cX11_figureAt 13 = .ok (.bipush 8, 2) := by decide +kernel
theorem dX11_figureAt_15 : decode cX11_figureAt 15 = .ok (.if_icmp .ge 12, 3) := by decide +kernel
theorem dX11_figureAt_18 : decode cX11_figureAt 18 = .ok (.aload_n 0, 1) := by decide +kernel
theorem dX11_figureAt_19 : decode cX11_figureAt 19 = .ok (.getfield 17, 3) := by decide +kernel
theorem dX11_figureAt_22 : decode cX11_figureAt 22 = .ok (.iload_n 2, 1) := by decide +kernel
theorem dX11_figureAt_23 : decode cX11_figureAt 23 = .ok (.aaload, 1) := by decide +kernel
theorem dX11_figureAt_24 : decode cX11_figureAt 24 = .ok (.goto 4, 3) := by decide +kernel
theorem dX11_figureAt_27 : decode cX11_figureAt 27 = .ok (.aconst_null, 1) := by decide +kernel
theorem dX11_figureAt_28 : decode cX11_figureAt 28 = .ok (.areturn, 1) := by decide +kernel
theorem dX11_noRow_0 : decode cX11_noRow 0 = .ok (.aload_n 0, 1) := by decide +kernel
theorem dX11_noRow_1 : decode cX11_noRow 1 = .ok (.iload_n 1, 1) := by decide +kernel
theorem dX11_noRow_2 : decode cX11_noRow 2 = .ok (.invokevirtual 66, 3) := by decide +kernel
theorem dX11_noRow_5 : decode cX11_noRow 5 = .ok (.astore_n 2, 1) := by decide +kernel
theorem dX11_noRow_6 : decode cX11_noRow 6 = .ok (.aload_n 2, 1) := by decide +kernel
theorem dX11_noRow_7 : decode cX11_noRow 7 = .ok (.ifnonnull 5, 3) := by decide +kernel
theorem dX11_noRow_10 : decode cX11_noRow 10 = .ok (.iconst 1, 1) := by decide +kernel
theorem dX11_noRow_11 : decode cX11_noRow 11 = .ok (.ireturn, 1) := by decide +kernel
theorem dX11_noRow_12 : decode cX11_noRow 12 = .ok (.aload_n 2, 1) := by decide +kernel
theorem dX11_noRow_13 : decode cX11_noRow 13 = .ok (.invokevirtual 122, 3) := by decide +kernel
theorem dX11_noRow_16 : decode cX11_noRow 16 = .ok (.ifCond .eq 5, 3) := by decide +kernel
theorem dX11_noRow_19 : decode cX11_noRow 19 = .ok (.iconst 0, 1) := by decide +kernel
theorem dX11_noRow_20 : decode cX11_noRow 20 = .ok (.ireturn, 1) := by decide +kernel
theorem dX11_noRow_21 : decode cX11_noRow 21 = .ok (.aload_n 2, 1) := by decide +kernel
theorem dX11_noRow_22 : decode cX11_noRow 22 = .ok (.getfield 126, 3) := by decide +kernel
theorem dX11_noRow_25 : decode cX11_noRow 25 = .ok (.iconst (-1), 1) := by decide +kernel
theorem dX11_noRow_26 : decode cX11_noRow 26 = .ok (.if_icmp .ne 7, 3) := by decide +kernel
theorem dX11_noRow_29 : decode cX11_noRow 29 = .ok (.iconst 3, 1) := by decide +kernel
theorem dX11_noRow_30 : decode cX11_noRow 30 = .ok (.goto 4, 3) := by decide +kernel
theorem dX11_noRow_33 : decode cX11_noRow 33 = .ok (.iconst 2, 1) := by decide +kernel
theorem dX11_noRow_34 : decode cX11_noRow 34 = .ok (.ireturn, 1) := by decide +kernel
theorem dX11_noPart_0 : decode cX11_noPart 0 = .ok (.aload_n 0, 1) := by decide +kernel
theorem dX11_noPart_1 : decode cX11_noPart 1 = .ok (.iload_n 1, 1) := by decide +kernel
theorem dX11_noPart_2 : decode cX11_noPart 2 = .ok (.invokevirtual 78, 3) := by decide +kernel
theorem dX11_noPart_5 : decode cX11_noPart 5 = .ok (.istore_n 3, 1) := by decide +kernel
theorem dX11_noPart_6 : decode cX11_noPart 6 = .ok (.aload_n 0, 1) := by decide +kernel
theorem dX11_noPart_7 : decode cX11_noPart 7 = .ok (.iload_n 1, 1) := by decide +kernel
theorem dX11_noPart_8 : decode cX11_noPart 8 = .ok (.invokevirtual 66, 3) := by decide +kernel
theorem dX11_noPart_11 : decode cX11_noPart 11 = .ok (.astore 4, 2) := by decide +kernel
theorem dX11_noPart_13 : decode cX11_noPart 13 = .ok (.iload_n 3, 1) := by decide +kernel
theorem dX11_noPart_14 : decode cX11_noPart 14 = .ok (.ifCond .ne 8, 3) := by decide +kernel
theorem dX11_noPart_17 : decode cX11_noPart 17 = .ok (.aload 4, 2) := by decide +kernel
theorem dX11_noPart_19 : decode cX11_noPart 19 = .ok (.ifnonnull 5, 3) := by decide +kernel
theorem dX11_noPart_22 : decode cX11_noPart 22 = .ok (.iload_n 3, 1) := by decide +kernel
theorem dX11_noPart_23 : decode cX11_noPart 23 = .ok (.ireturn, 1) := by decide +kernel
theorem dX11_noPart_24 : decode cX11_noPart 24 = .ok (.iload_n 2, 1) := by decide +kernel
theorem dX11_noPart_25 : decode cX11_noPart 25 = .ok (.ifCond .ge 5, 3) := by decide +kernel
theorem dX11_noPart_28 : decode cX11_noPart 28 = .ok (.iconst 4, 1) := by decide +kernel
theorem dX11_noPart_29 : decode cX11_noPart 29 = .ok (.ireturn, 1) := by decide +kernel
theorem dX11_noPart_30 : decode cX11_noPart 30 = .ok (.iload_n 2, 1) := by decide +kernel
theorem dX11_noPart_31 : decode cX11_noPart 31 = .ok (.aload 4, 2) := by decide +kernel
theorem dX11_noPart_33 : decode cX11_noPart 33 = .ok (.getfield 314, 3) := by decide +kernel
theorem dX11_noPart_36 : decode cX11_noPart 36 = .ok (.if_icmp .le 7, 3) := by decide +kernel
theorem dX11_noPart_39 : decode cX11_noPart 39 = .ok (.iconst 5, 1) := by decide +kernel
theorem dX11_noPart_40 : decode cX11_noPart 40 = .ok (.goto 4, 3) := by decide +kernel
theorem dX11_noPart_43 : decode cX11_noPart 43 = .ok (.iconst 0, 1) := by decide +kernel
theorem dX11_noPart_44 : decode cX11_noPart 44 = .ok (.ireturn, 1) := by decide +kernel
theorem dX11_isKind_0 : decode cX11_isKind 0 = .ok (.iload_n 0, 1) := by decide +kernel
theorem dX11_isKind_1 : decode cX11_isKind 1 = .ok (.ifCond .lt 13, 3) := by decide +kernel
theorem dX11_isKind_4 : decode cX11_isKind 4 = .ok (.iload_n 0, 1) := by decide +kernel
theorem dX11_isKind_5 : decode cX11_isKind 5 = .ok (.bipush 7, 2) := by decide +kernel
theorem dX11_isKind_7 : decode cX11_isKind 7 = .ok (.if_icmp .ge 7, 3) := by decide +kernel
theorem dX11_isKind_10 : decode cX11_isKind 10 = .ok (.iconst 1, 1) := by decide +kernel
theorem dX11_isKind_11 : decode cX11_isKind 11 = .ok (.goto 4, 3) := by decide +kernel
theorem dX11_isKind_14 : decode cX11_isKind 14 = .ok (.iconst 0, 1) := by decide +kernel
theorem dX11_isKind_15 : decode cX11_isKind 15 = .ok (.ireturn, 1) := by decide +kernel
theorem dX11_isA_0 : decode cX11_isA 0 = .ok (.iload_n 0, 1) := by decide +kernel
theorem dX11_isA_1 : decode cX11_isA 1 = .ok (.ifCond .lt 13, 3) := by decide +kernel
theorem dX11_isA_4 : decode cX11_isA 4 = .ok (.iload_n 0, 1) := by decide +kernel
theorem dX11_isA_5 : decode cX11_isA 5 = .ok (.bipush 9, 2) := by decide +kernel
theorem dX11_isA_7 : decode cX11_isA 7 = .ok (.if_icmp .gt 7, 3) := by decide +kernel
theorem dX11_isA_10 : decode cX11_isA 10 = .ok (.iconst 1, 1) := by decide +kernel
theorem dX11_isA_11 : decode cX11_isA 11 = .ok (.goto 4, 3) := by decide +kernel
theorem dX11_isA_14 : decode cX11_isA 14 = .ok (.iconst 0, 1) := by decide +kernel
theorem dX11_isA_15 : decode cX11_isA 15 = .ok (.ireturn, 1) := by decide +kernel
theorem dX11_isCost_0 : decode cX11_isCost 0 = .ok (.iload_n 0, 1) := by decide +kernel
theorem dX11_isCost_1 : decode cX11_isCost 1 = .ok (.iconst 1, 1) := by decide +kernel
theorem dX11_isCost_2 : decode cX11_isCost 2 = .ok (.if_icmp .lt 13, 3) := by decide +kernel
theorem dX11_isCost_5 : decode cX11_isCost 5 = .ok (.iload_n 0, 1) := by decide +kernel
theorem dX11_isCost_6 : decode cX11_isCost 6 = .ok (.bipush 9, 2) := by decide +kernel
theorem dX11_isCost_8 : decode cX11_isCost 8 = .ok (.if_icmp .gt 7, 3) := by decide +kernel
theorem dX11_isCost_11 : decode cX11_isCost 11 = .ok (.iconst 1, 1) := by decide +kernel
theorem dX11_isCost_12 : decode cX11_isCost 12 = .ok (.goto 4, 3) := by decide +kernel
theorem dX11_isCost_15 : decode cX11_isCost 15 = .ok (.iconst 0, 1) := by decide +kernel
theorem dX11_isCost_16 : decode cX11_isCost 16 = .ok (.ireturn, 1) := by decide +kernel
theorem dX11_isUnder_0 : decode cX11_isUnder 0 = .ok (.iload_n 0, 1) := by decide +kernel
theorem dX11_isUnder_1 : decode cX11_isUnder 1 = .ok (.istore_n 2, 1) := by decide +kernel
theorem dX11_isUnder_2 : decode cX11_isUnder 2 = .ok (.iconst 0, 1) := by decide +kernel
theorem dX11_isUnder_3 : decode cX11_isUnder 3 = .ok (.istore_n 3, 1) := by decide +kernel
theorem dX11_isUnder_4 : decode cX11_isUnder 4 = .ok (.iload_n 3, 1) := by decide +kernel
theorem dX11_isUnder_5 : decode cX11_isUnder 5 = .ok (.bipush 7, 2) := by decide +kernel
theorem dX11_isUnder_7 : decode cX11_isUnder 7 = .ok (.if_icmp .ge 27, 3) := by decide +kernel
theorem dX11_isUnder_10 : decode cX11_isUnder 10 = .ok (.iload_n 2, 1) := by decide +kernel
theorem dX11_isUnder_11 : decode cX11_isUnder 11 = .ok (.invokestatic 129, 3) := by decide +kernel
theorem dX11_isUnder_14 : decode cX11_isUnder 14 = .ok (.ifCond .eq 20, 3) := by decide +kernel
theorem dX11_isUnder_17 : decode cX11_isUnder 17 = .ok (.iload_n 2, 1) := by decide +kernel
theorem dX11_isUnder_18 : decode cX11_isUnder 18 = .ok (.iload_n 1, 1) := by decide +kernel
theorem dX11_isUnder_19 : decode cX11_isUnder 19 = .ok (.if_icmp .eq 15, 3) := by decide +kernel
theorem dX11_isUnder_22 : decode cX11_isUnder 22 = .ok (.getstatic 345, 3) := by decide +kernel
theorem dX11_isUnder_25 : decode cX11_isUnder 25 = .ok (.iload_n 2, 1) := by decide +kernel
theorem dX11_isUnder_26 : decode cX11_isUnder 26 = .ok (.iaload, 1) := by decide +kernel
theorem dX11_isUnder_27 : decode cX11_isUnder 27 = .ok (.istore_n 2, 1) := by decide +kernel
theorem dX11_isUnder_28 : decode cX11_isUnder 28 = .ok (.iinc 3 1, 3) := by decide +kernel
theorem dX11_isUnder_31 : decode cX11_isUnder 31 = .ok (.goto (-27), 3) := by decide +kernel
theorem dX11_isUnder_34 : decode cX11_isUnder 34 = .ok (.iload_n 2, 1) := by decide +kernel
theorem dX11_isUnder_35 : decode cX11_isUnder 35 = .ok (.iload_n 1, 1) := by decide +kernel
theorem dX11_isUnder_36 : decode cX11_isUnder 36 = .ok (.if_icmp .ne 7, 3) := by decide +kernel
theorem dX11_isUnder_39 : decode cX11_isUnder 39 = .ok (.iconst 1, 1) := by decide +kernel
theorem dX11_isUnder_40 : decode cX11_isUnder 40 = .ok (.goto 4, 3) := by decide +kernel
theorem dX11_isUnder_43 : decode cX11_isUnder 43 = .ok (.iconst 0, 1) := by decide +kernel
theorem dX11_isUnder_44 : decode cX11_isUnder 44 = .ok (.ireturn, 1) := by decide +kernel
theorem dX11_isNumber_0 : decode cX11_isNumber 0 = .ok (.lload_n 2, 1) := by decide +kernel
theorem dX11_isNumber_1 : decode cX11_isNumber 1 = .ok (.lconst 0, 1) := by decide +kernel
theorem dX11_isNumber_2 : decode cX11_isNumber 2 = .ok (.lcmp, 1) := by decide +kernel
theorem dX11_isNumber_3 : decode cX11_isNumber 3 = .ok (.ifCond .lt 14, 3) := by decide +kernel
theorem dX11_isNumber_6 : decode cX11_isNumber 6 = .ok (.lload_n 0, 1) := by decide +kernel
theorem dX11_isNumber_7 : decode cX11_isNumber 7 = .ok (.lload_n 2, 1) := by decide +kernel
theorem dX11_isNumber_8 : decode cX11_isNumber 8 = .ok (.ldc2_w 348, 3) := by decide +kernel
theorem dX11_isNumber_11 : decode cX11_isNumber 11 = .ok (.invokestatic 350, 3) := by decide +kernel
theorem dX11_isNumber_14 : decode cX11_isNumber 14 = .ok (.ifCond .eq 5, 3) := by decide +kernel
theorem dX11_isNumber_17 : decode cX11_isNumber 17 = .ok (.iconst 0, 1) := by decide +kernel
theorem dX11_isNumber_18 : decode cX11_isNumber 18 = .ok (.ireturn, 1) := by decide +kernel
theorem dX11_isNumber_19 : decode cX11_isNumber 19 = .ok (.lload_n 2, 1) := by decide +kernel
theorem dX11_isNumber_20 : decode cX11_isNumber 20 = .ok (.lconst 0, 1) := by decide +kernel
theorem dX11_isNumber_21 : decode cX11_isNumber 21 = .ok (.lcmp, 1) := by decide +kernel
theorem dX11_isNumber_22 : decode cX11_isNumber 22 = .ok (.ifCond .ne 17, 3) := by decide +kernel
theorem dX11_isNumber_25 : decode cX11_isNumber 25 = .ok (.lload_n 0, 1) := by decide +kernel
theorem dX11_isNumber_26 : decode cX11_isNumber 26 = .ok (.lconst 1, 1) := by decide +kernel
theorem dX11_isNumber_27 : decode cX11_isNumber 27 = .ok (.lcmp, 1) := by decide +kernel
theorem dX11_isNumber_28 : decode cX11_isNumber 28 = .ok (.ifCond .ne 7, 3) := by decide +kernel
theorem dX11_isNumber_31 : decode cX11_isNumber 31 = .ok (.iconst 1, 1) := by decide +kernel
theorem dX11_isNumber_32 : decode cX11_isNumber 32 = .ok (.goto 25, 3) := by decide +kernel
theorem dX11_isNumber_35 : decode cX11_isNumber 35 = .ok (.iconst 0, 1) := by decide +kernel
theorem dX11_isNumber_36 : decode cX11_isNumber 36 = .ok (.goto 21, 3) := by decide +kernel
theorem dX11_isNumber_39 : decode cX11_isNumber 39 = .ok (.lload_n 0, 1) := by decide +kernel
theorem dX11_isNumber_40 : decode cX11_isNumber 40 = .ok (.invokestatic 268, 3) := by decide +kernel
theorem dX11_isNumber_43 : decode cX11_isNumber 43 = .ok (.lload_n 2, 1) := by decide +kernel
theorem dX11_isNumber_44 : decode cX11_isNumber 44 = .ok (.invokestatic 274, 3) := by decide +kernel
theorem dX11_isNumber_47 : decode cX11_isNumber 47 = .ok (.lconst 1, 1) := by decide +kernel
theorem dX11_isNumber_48 : decode cX11_isNumber 48 = .ok (.lcmp, 1) := by decide +kernel
theorem dX11_isNumber_49 : decode cX11_isNumber 49 = .ok (.ifCond .ne 7, 3) := by decide +kernel
theorem dX11_isNumber_52 : decode cX11_isNumber 52 = .ok (.iconst 1, 1) := by decide +kernel
theorem dX11_isNumber_53 : decode cX11_isNumber 53 = .ok (.goto 4, 3) := by decide +kernel
theorem dX11_isNumber_56 : decode cX11_isNumber 56 = .ok (.iconst 0, 1) := by decide +kernel
theorem dX11_isNumber_57 : decode cX11_isNumber 57 = .ok (.ireturn, 1) := by decide +kernel
theorem dX11_isWide_0 : decode cX11_isWide 0 = .ok (.lload_n 0, 1) := by decide +kernel
theorem dX11_isWide_1 : decode cX11_isWide 1 = .ok (.lload 4, 2) := by decide +kernel
theorem dX11_isWide_3 : decode cX11_isWide 3 = .ok (.lcmp, 1) := by decide +kernel
theorem dX11_isWide_4 : decode cX11_isWide 4 = .ok (.ifCond .gt 26, 3) := by decide +kernel
theorem dX11_isWide_7 : decode cX11_isWide 7 = .ok (.lload_n 0, 1) := by decide +kernel
theorem dX11_isWide_8 : decode cX11_isWide 8 = .ok (.lload 4, 2) := by decide +kernel
theorem dX11_isWide_10 : decode cX11_isWide 10 = .ok (.lneg, 1) := by decide +kernel
theorem dX11_isWide_11 : decode cX11_isWide 11 = .ok (.lcmp, 1) := by decide +kernel
theorem dX11_isWide_12 : decode cX11_isWide 12 = .ok (.ifCond .lt 18, 3) := by decide +kernel
theorem dX11_isWide_15 : decode cX11_isWide 15 = .ok (.lload_n 2, 1) := by decide +kernel
theorem dX11_isWide_16 : decode cX11_isWide 16 = .ok (.lload 4, 2) := by decide +kernel
theorem dX11_isWide_18 : decode cX11_isWide 18 = .ok (.lcmp, 1) := by decide +kernel
theorem dX11_isWide_19 : decode cX11_isWide 19 = .ok (.ifCond .gt 11, 3) := by decide +kernel
theorem dX11_isWide_22 : decode cX11_isWide 22 = .ok (.lload_n 2, 1) := by decide +kernel
theorem dX11_isWide_23 : decode cX11_isWide 23 = .ok (.lload 4, 2) := by decide +kernel
theorem dX11_isWide_25 : decode cX11_isWide 25 = .ok (.lneg, 1) := by decide +kernel
theorem dX11_isWide_26 : decode cX11_isWide 26 = .ok (.lcmp, 1) := by decide +kernel
theorem dX11_isWide_27 : decode cX11_isWide 27 = .ok (.ifCond .ge 7, 3) := by decide +kernel
theorem dX11_isWide_30 : decode cX11_isWide 30 = .ok (.iconst 1, 1) := by decide +kernel
theorem dX11_isWide_31 : decode cX11_isWide 31 = .ok (.goto 4, 3) := by decide +kernel
theorem dX11_isWide_34 : decode cX11_isWide 34 = .ok (.iconst 0, 1) := by decide +kernel
theorem dX11_isWide_35 : decode cX11_isWide 35 = .ok (.ireturn, 1) := by decide +kernel
theorem dX11_divisor_0 : decode cX11_divisor 0 = .ok (.lload_n 0, 1) := by decide +kernel
theorem dX11_divisor_1 : decode cX11_divisor 1 = .ok (.lstore 4, 2) := by decide +kernel
theorem dX11_divisor_3 : decode cX11_divisor 3 = .ok (.lload_n 2, 1) := by decide +kernel
theorem dX11_divisor_4 : decode cX11_divisor 4 = .ok (.lstore 6, 2) := by decide +kernel
theorem dX11_divisor_6 : decode cX11_divisor 6 = .ok (.iconst 0, 1) := by decide +kernel
theorem dX11_divisor_7 : decode cX11_divisor 7 = .ok (.istore 8, 2) := by decide +kernel
theorem dX11_divisor_9 : decode cX11_divisor 9 = .ok (.iload 8, 2) := by decide +kernel
theorem dX11_divisor_11 : decode cX11_divisor 11 = .ok (.sipush 1000, 3) := by decide +kernel
theorem dX11_divisor_14 : decode cX11_divisor 14 = .ok (.if_icmp .ge 31, 3) := by decide +kernel
theorem dX11_divisor_17 : decode cX11_divisor 17 = .ok (.lload 6, 2) := by decide +kernel
theorem dX11_divisor_19 : decode cX11_divisor 19 = .ok (.lconst 0, 1) := by decide +kernel
theorem dX11_divisor_20 : decode cX11_divisor 20 = .ok (.lcmp, 1) := by decide +kernel
theorem dX11_divisor_21 : decode cX11_divisor 21 = .ok (.ifCond .eq 24, 3) := by decide +kernel
theorem dX11_divisor_24 : decode cX11_divisor 24 = .ok (.lload 4, 2) := by decide +kernel
theorem dX11_divisor_26 : decode cX11_divisor 26 = .ok (.lload 6, 2) := by decide +kernel
theorem dX11_divisor_28 : decode cX11_divisor 28 = .ok (.lrem, 1) := by decide +kernel
theorem dX11_divisor_29 : decode cX11_divisor 29 = .ok (.lstore 9, 2) := by decide +kernel
theorem dX11_divisor_31 : decode cX11_divisor 31 = .ok (.lload 6, 2) := by decide +kernel
theorem dX11_divisor_33 : decode cX11_divisor 33 = .ok (.lstore 4, 2) := by decide +kernel
theorem dX11_divisor_35 : decode cX11_divisor 35 = .ok (.lload 9, 2) := by decide +kernel
theorem dX11_divisor_37 : decode cX11_divisor 37 = .ok (.lstore 6, 2) := by decide +kernel
theorem dX11_divisor_39 : decode cX11_divisor 39 = .ok (.iinc 8 1, 3) := by decide +kernel
theorem dX11_divisor_42 : decode cX11_divisor 42 = .ok (.goto (-33), 3) := by decide +kernel
theorem dX11_divisor_45 : decode cX11_divisor 45 = .ok (.lload 4, 2) := by decide +kernel
theorem dX11_divisor_47 : decode cX11_divisor 47 = .ok (.lreturn, 1) := by decide +kernel
theorem dX11_stepP_0 : decode cX11_stepP 0 = .ok (.iload_n 0, 1) := by decide +kernel
theorem dX11_stepP_1 : decode cX11_stepP 1 = .ok (.ifCond .ne 7, 3) := by decide +kernel
theorem dX11_stepP_4 : decode cX11_stepP 4 = .ok (.lload_n 1, 1) := by decide +kernel
theorem dX11_stepP_5 : decode cX11_stepP 5 = .ok (.lload_n 3, 1) := by decide +kernel
theorem dX11_stepP_6 : decode cX11_stepP 6 = .ok (.ladd, 1) := by decide +kernel
theorem dX11_stepP_7 : decode cX11_stepP 7 = .ok (.lreturn, 1) := by decide +kernel
theorem dX11_stepP_8 : decode cX11_stepP 8 = .ok (.iload_n 0, 1) := by decide +kernel
theorem dX11_stepP_9 : decode cX11_stepP 9 = .ok (.iconst 1, 1) := by decide +kernel
theorem dX11_stepP_10 : decode cX11_stepP 10 = .ok (.if_icmp .ne 7, 3) := by decide +kernel
theorem dX11_stepP_13 : decode cX11_stepP 13 = .ok (.lload_n 1, 1) := by decide +kernel
theorem dX11_stepP_14 : decode cX11_stepP 14 = .ok (.lload_n 3, 1) := by decide +kernel
theorem dX11_stepP_15 : decode cX11_stepP 15 = .ok (.lsub, 1) := by decide +kernel
theorem dX11_stepP_16 : decode cX11_stepP 16 = .ok (.lreturn, 1) := by decide +kernel
theorem dX11_stepP_17 : decode cX11_stepP 17 = .ok (.lload_n 1, 1) := by decide +kernel
theorem dX11_stepP_18 : decode cX11_stepP 18 = .ok (.lconst 0, 1) := by decide +kernel
theorem dX11_stepP_19 : decode cX11_stepP 19 = .ok (.lcmp, 1) := by decide +kernel
theorem dX11_stepP_20 : decode cX11_stepP 20 = .ok (.ifCond .ne 5, 3) := by decide +kernel
theorem dX11_stepP_23 : decode cX11_stepP 23 = .ok (.lconst 1, 1) := by decide +kernel
theorem dX11_stepP_24 : decode cX11_stepP 24 = .ok (.lreturn, 1) := by decide +kernel
theorem dX11_stepP_25 : decode cX11_stepP 25 = .ok (.lload_n 1, 1) := by decide +kernel
theorem dX11_stepP_26 : decode cX11_stepP 26 = .ok (.lconst 0, 1) := by decide +kernel
theorem dX11_stepP_27 : decode cX11_stepP 27 = .ok (.lcmp, 1) := by decide +kernel
theorem dX11_stepP_28 : decode cX11_stepP 28 = .ok (.ifCond .le 8, 3) := by decide +kernel
theorem dX11_stepP_31 : decode cX11_stepP 31 = .ok (.lload_n 3, 1) := by decide +kernel
theorem dX11_stepP_32 : decode cX11_stepP 32 = .ok (.lneg, 1) := by decide +kernel
theorem dX11_stepP_33 : decode cX11_stepP 33 = .ok (.goto 4, 3) := by decide +kernel
theorem dX11_stepP_36 : decode cX11_stepP 36 = .ok (.lload_n 3, 1) := by decide +kernel
theorem dX11_stepP_37 : decode cX11_stepP 37 = .ok (.lreturn, 1) := by decide +kernel
theorem dX11_stepQ_0 : decode cX11_stepQ 0 = .ok (.iload_n 0, 1) := by decide +kernel
theorem dX11_stepQ_1 : decode cX11_stepQ 1 = .ok (.iconst 2, 1) := by decide +kernel
theorem dX11_stepQ_2 : decode cX11_stepQ 2 = .ok (.if_icmp .ne 10, 3) := by decide +kernel
theorem dX11_stepQ_5 : decode cX11_stepQ 5 = .ok (.lload_n 1, 1) := by decide +kernel
theorem dX11_stepQ_6 : decode cX11_stepQ 6 = .ok (.invokestatic 268, 3) := by decide +kernel
theorem dX11_stepQ_9 : decode cX11_stepQ 9 = .ok (.goto 4, 3) := by decide +kernel
theorem dX11_stepQ_12 : decode cX11_stepQ 12 = .ok (.lload_n 3, 1) := by decide +kernel
theorem dX11_stepQ_13 : decode cX11_stepQ 13 = .ok (.lreturn, 1) := by decide +kernel
theorem dX11_compare_0 : decode cX11_compare 0 = .ok (.lload_n 0, 1) := by decide +kernel
theorem dX11_compare_1 : decode cX11_compare 1 = .ok (.lstore 8, 2) := by decide +kernel
theorem dX11_compare_3 : decode cX11_compare 3 = .ok (.lload_n 2, 1) := by decide +kernel
theorem dX11_compare_4 : decode cX11_compare 4 = .ok (.lstore 10, 2) := by decide +kernel
theorem dX11_compare_6 : decode cX11_compare 6 = .ok (.lload 4, 2) := by decide +kernel
theorem dX11_compare_8 : decode cX11_compare 8 = .ok (.lstore 12, 2) := by decide +kernel
theorem dX11_compare_10 : decode cX11_compare 10 = .ok (.lload 6, 2) := by decide +kernel
theorem dX11_compare_12 : decode cX11_compare 12 = .ok (.lstore 14, 2) := by decide +kernel
theorem dX11_compare_14 : decode cX11_compare 14 = .ok (.iconst 1, 1) := by decide +kernel
theorem dX11_compare_15 : decode cX11_compare 15 = .ok (.istore 16, 2) := by decide +kernel
theorem dX11_compare_17 : decode cX11_compare 17 = .ok (.iconst 0, 1) := by decide +kernel
theorem dX11_compare_18 : decode cX11_compare 18 = .ok (.istore 17, 2) := by decide +kernel
theorem dX11_compare_20 : decode cX11_compare 20 = .ok (.iload 17, 2) := by decide +kernel
theorem dX11_compare_22 : decode cX11_compare 22 = .ok (.sipush 1000, 3) := by decide +kernel
theorem dX11_compare_25 : decode cX11_compare 25 = .ok (.if_icmp .ge 101, 3) := by decide +kernel
theorem dX11_compare_28 : decode cX11_compare 28 = .ok (.lload 10, 2) := by decide +kernel
theorem dX11_compare_30 : decode cX11_compare 30 = .ok (.lconst 0, 1) := by decide +kernel
theorem dX11_compare_31 : decode cX11_compare 31 = .ok (.lcmp, 1) := by decide +kernel
theorem dX11_compare_32 : decode cX11_compare 32 = .ok (.ifCond .eq 94, 3) := by decide +kernel
theorem dX11_compare_35 : decode cX11_compare 35 = .ok (.lload 14, 2) := by decide +kernel
theorem dX11_compare_37 : decode cX11_compare 37 = .ok (.lconst 0, 1) := by decide +kernel
theorem dX11_compare_38 : decode cX11_compare 38 = .ok (.lcmp, 1) := by decide +kernel
theorem dX11_compare_39 : decode cX11_compare 39 = .ok (.ifCond .eq 87, 3) := by decide +kernel
theorem dX11_compare_42 : decode cX11_compare 42 = .ok (.lload 8, 2) := by decide +kernel
theorem dX11_compare_44 : decode cX11_compare 44 = .ok (.lload 10, 2) := by decide +kernel
theorem dX11_compare_46 : decode cX11_compare 46 = .ok (.invokestatic 354, 3) := by decide +kernel
theorem dX11_compare_49 : decode cX11_compare 49 = .ok (.lstore 18, 2) := by decide +kernel
theorem dX11_compare_51 : decode cX11_compare 51 = .ok (.lload 12, 2) := by decide +kernel
theorem dX11_compare_53 : decode cX11_compare 53 = .ok (.lload 14, 2) := by decide +kernel
theorem dX11_compare_55 : decode cX11_compare 55 = .ok (.invokestatic 354, 3) := by decide +kernel
theorem dX11_compare_58 : decode cX11_compare 58 = .ok (.lstore 20, 2) := by decide +kernel
theorem dX11_compare_60 : decode cX11_compare 60 = .ok (.lload 18, 2) := by decide +kernel
theorem dX11_compare_62 : decode cX11_compare 62 = .ok (.lload 20, 2) := by decide +kernel
theorem dX11_compare_64 : decode cX11_compare 64 = .ok (.lcmp, 1) := by decide +kernel
theorem dX11_compare_65 : decode cX11_compare 65 = .ok (.ifCond .eq 14, 3) := by decide +kernel
theorem dX11_compare_68 : decode cX11_compare 68 = .ok (.iload 16, 2) := by decide +kernel
theorem dX11_compare_70 : decode cX11_compare 70 = .ok (.lload 18, 2) := by decide +kernel
theorem dX11_compare_72 : decode cX11_compare 72 = .ok (.lload 20, 2) := by decide +kernel
theorem dX11_compare_74 : decode cX11_compare 74 = .ok (.invokestatic 357, 3) := by decide +kernel
theorem dX11_compare_77 : decode cX11_compare 77 = .ok (.imul, 1) := by decide +kernel
theorem dX11_compare_78 : decode cX11_compare 78 = .ok (.ireturn, 1) := by decide +kernel
theorem dX11_compare_79 : decode cX11_compare 79 = .ok (.lload 8, 2) := by decide +kernel
theorem dX11_compare_81 : decode cX11_compare 81 = .ok (.lload 18, 2) := by decide +kernel
theorem dX11_compare_83 : decode cX11_compare 83 = .ok (.lload 10, 2) := by decide +kernel
theorem dX11_compare_85 : decode cX11_compare 85 = .ok (.lmul, 1) := by decide +kernel
theorem dX11_compare_86 : decode cX11_compare 86 = .ok (.lsub, 1) := by decide +kernel
theorem dX11_compare_87 : decode cX11_compare 87 = .ok (.lstore 22, 2) := by decide +kernel
theorem dX11_compare_89 : decode cX11_compare 89 = .ok (.lload 12, 2) := by decide +kernel
theorem dX11_compare_91 : decode cX11_compare 91 = .ok (.lload 18, 2) := by decide +kernel
theorem dX11_compare_93 : decode cX11_compare 93 = .ok (.lload 14, 2) := by decide +kernel
theorem dX11_compare_95 : decode cX11_compare 95 = .ok (.lmul, 1) := by decide +kernel
theorem dX11_compare_96 : decode cX11_compare 96 = .ok (.lsub, 1) := by decide +kernel
theorem dX11_compare_97 : decode cX11_compare 97 = .ok (.lstore 24, 2) := by decide +kernel
theorem dX11_compare_99 : decode cX11_compare 99 = .ok (.lload 10, 2) := by decide +kernel
theorem dX11_compare_101 : decode cX11_compare 101 = .ok (.lstore 8, 2) := by decide +kernel
theorem dX11_compare_103 : decode cX11_compare 103 = .ok (.lload 22, 2) := by decide +kernel
theorem dX11_compare_105 : decode cX11_compare 105 = .ok (.lstore 10, 2) := by decide +kernel
theorem dX11_compare_107 : decode cX11_compare 107 = .ok (.lload 14, 2) := by decide +kernel
theorem dX11_compare_109 : decode cX11_compare 109 = .ok (.lstore 12, 2) := by decide +kernel
theorem dX11_compare_111 : decode cX11_compare 111 = .ok (.lload 24, 2) := by decide +kernel
theorem dX11_compare_113 : decode cX11_compare 113 = .ok (.lstore 14, 2) := by decide +kernel
theorem dX11_compare_115 : decode cX11_compare 115 = .ok (.iload 16, 2) := by decide +kernel
theorem dX11_compare_117 : decode cX11_compare 117 = .ok (.ineg, 1) := by decide +kernel
theorem dX11_compare_118 : decode cX11_compare 118 = .ok (.istore 16, 2) := by decide +kernel
theorem dX11_compare_120 : decode cX11_compare 120 = .ok (.iinc 17 1, 3) := by decide +kernel
theorem dX11_compare_123 : decode cX11_compare 123 = .ok (.goto (-103), 3) := by decide +kernel
theorem dX11_compare_126 : decode cX11_compare 126 = .ok (.iload 16, 2) := by decide +kernel
theorem dX11_compare_128 : decode cX11_compare 128 = .ok (.lload 10, 2) := by decide +kernel
theorem dX11_compare_130 : decode cX11_compare 130 = .ok (.lconst 0, 1) := by decide +kernel
theorem dX11_compare_131 : decode cX11_compare 131 = .ok (.lcmp, 1) := by decide +kernel
theorem dX11_compare_132 : decode cX11_compare 132 = .ok (.ifCond .ne 7, 3) := by decide +kernel
theorem dX11_compare_135 : decode cX11_compare 135 = .ok (.iconst 1, 1) := by decide +kernel
theorem dX11_compare_136 : decode cX11_compare 136 = .ok (.goto 4, 3) := by decide +kernel
theorem dX11_compare_139 : decode cX11_compare 139 = .ok (.iconst 0, 1) := by decide +kernel
theorem dX11_compare_140 : decode cX11_compare 140 = .ok (.lload 14, 2) := by decide +kernel
theorem dX11_compare_142 : decode cX11_compare 142 = .ok (.lconst 0, 1) := by decide +kernel
theorem dX11_compare_143 : decode cX11_compare 143 = .ok (.lcmp, 1) := by decide +kernel
theorem dX11_compare_144 : decode cX11_compare 144 = .ok (.ifCond .ne 7, 3) := by decide +kernel
theorem dX11_compare_147 : decode cX11_compare 147 = .ok (.iconst 1, 1) := by decide +kernel
theorem dX11_compare_148 : decode cX11_compare 148 = .ok (.goto 4, 3) := by decide +kernel
theorem dX11_compare_151 : decode cX11_compare 151 = .ok (.iconst 0, 1) := by decide +kernel
theorem dX11_compare_152 : decode cX11_compare 152 = .ok (.invokestatic 362, 3) := by decide +kernel
theorem dX11_compare_155 : decode cX11_compare 155 = .ok (.imul, 1) := by decide +kernel
theorem dX11_compare_156 : decode cX11_compare 156 = .ok (.ireturn, 1) := by decide +kernel
theorem dX11_undoStep_0 : decode cX11_undoStep 0 = .ok (.lload_n 0, 1) := by decide +kernel
theorem dX11_undoStep_1 : decode cX11_undoStep 1 = .ok (.lconst 0, 1) := by decide +kernel
theorem dX11_undoStep_2 : decode cX11_undoStep 2 = .ok (.lcmp, 1) := by decide +kernel
theorem dX11_undoStep_3 : decode cX11_undoStep 3 = .ok (.ifCond .ge 7, 3) := by decide +kernel
theorem dX11_undoStep_6 : decode cX11_undoStep 6 = .ok (.iconst 0, 1) := by decide +kernel
theorem dX11_undoStep_7 : decode cX11_undoStep 7 = .ok (.goto 4, 3) := by decide +kernel
theorem dX11_undoStep_10 : decode cX11_undoStep 10 = .ok (.iconst 2, 1) := by decide +kernel
theorem dX11_undoStep_11 : decode cX11_undoStep 11 = .ok (.ireturn, 1) := by decide +kernel
theorem dX11_undoing_0 : decode cX11_undoing 0 = .ok (.lload_n 0, 1) := by decide +kernel
theorem dX11_undoing_1 : decode cX11_undoing 1 = .ok (.lstore 6, 2) := by decide +kernel
theorem dX11_undoing_3 : decode cX11_undoing 3 = .ok (.lload_n 2, 1) := by decide +kernel
theorem dX11_undoing_4 : decode cX11_undoing 4 = .ok (.lstore 8, 2) := by decide +kernel
theorem dX11_undoing_6 : decode cX11_undoing 6 = .ok (.lload 4, 2) := by decide +kernel
theorem dX11_undoing_8 : decode cX11_undoing 8 = .ok (.lstore 10, 2) := by decide +kernel
theorem dX11_undoing_10 : decode cX11_undoing 10 = .ok (.lconst 0, 1) := by decide +kernel
theorem dX11_undoing_11 : decode cX11_undoing 11 = .ok (.lstore 12, 2) := by decide +kernel
theorem dX11_undoing_13 : decode cX11_undoing 13 = .ok (.iconst 0, 1) := by decide +kernel
theorem dX11_undoing_14 : decode cX11_undoing 14 = .ok (.istore 14, 2) := by decide +kernel
theorem dX11_undoing_16 : decode cX11_undoing 16 = .ok (.iload 14, 2) := by decide +kernel
theorem dX11_undoing_18 : decode cX11_undoing 18 = .ok (.sipush 1000, 3) := by decide +kernel
theorem dX11_undoing_21 : decode cX11_undoing 21 = .ok (.if_icmp .ge 223, 3) := by decide +kernel
theorem dX11_undoing_24 : decode cX11_undoing 24 = .ok (.lload 6, 2) := by decide +kernel
theorem dX11_undoing_26 : decode cX11_undoing 26 = .ok (.lconst 0, 1) := by decide +kernel
theorem dX11_undoing_27 : decode cX11_undoing 27 = .ok (.lcmp, 1) := by decide +kernel
theorem dX11_undoing_28 : decode cX11_undoing 28 = .ok (.ifCond .eq 216, 3) := by decide +kernel
theorem dX11_undoing_31 : decode cX11_undoing 31 = .ok (.lload 8, 2) := by decide +kernel
theorem dX11_undoing_33 : decode cX11_undoing 33 = .ok (.lload 6, 2) := by decide +kernel
theorem dX11_undoing_35 : decode cX11_undoing 35 = .ok (.lsub, 1) := by decide +kernel
theorem dX11_undoing_36 : decode cX11_undoing 36 = .ok (.lstore 15, 2) := by decide +kernel
theorem dX11_undoing_38 : decode cX11_undoing 38 = .ok (.lload 6, 2) := by decide +kernel
theorem dX11_undoing_40 : decode cX11_undoing 40 = .ok (.lconst 0, 1) := by decide +kernel
theorem dX11_undoing_41 : decode cX11_undoing 41 = .ok (.lcmp, 1) := by decide +kernel
theorem dX11_undoing_42 : decode cX11_undoing 42 = .ok (.ifCond .ge 49, 3) := by decide +kernel
theorem dX11_undoing_45 : decode cX11_undoing 45 = .ok (.lload 8, 2) := by decide +kernel
theorem dX11_undoing_47 : decode cX11_undoing 47 = .ok (.lconst 0, 1) := by decide +kernel
theorem dX11_undoing_48 : decode cX11_undoing 48 = .ok (.lcmp, 1) := by decide +kernel
theorem dX11_undoing_49 : decode cX11_undoing 49 = .ok (.ifCond .le 42, 3) := by decide +kernel
theorem dX11_undoing_52 : decode cX11_undoing 52 = .ok (.lload 8, 2) := by decide +kernel
theorem dX11_undoing_54 : decode cX11_undoing 54 = .ok (.lconst 1, 1) := by decide +kernel
theorem dX11_undoing_55 : decode cX11_undoing 55 = .ok (.lsub, 1) := by decide +kernel
theorem dX11_undoing_56 : decode cX11_undoing 56 = .ok (.lload 6, 2) := by decide +kernel
theorem dX11_undoing_58 : decode cX11_undoing 58 = .ok (.lsub, 1) := by decide +kernel
theorem dX11_undoing_59 : decode cX11_undoing 59 = .ok (.lload 8, 2) := by decide +kernel
theorem dX11_undoing_61 : decode cX11_undoing 61 = .ok (.ldiv, 1) := by decide +kernel
theorem dX11_undoing_62 : decode cX11_undoing 62 = .ok (.lstore 17, 2) := by decide +kernel
theorem dX11_undoing_64 : decode cX11_undoing 64 = .ok (.lload 6, 2) := by decide +kernel
theorem dX11_undoing_66 : decode cX11_undoing 66 = .ok (.lload 17, 2) := by decide +kernel
theorem dX11_undoing_68 : decode cX11_undoing 68 = .ok (.lload 8, 2) := by decide +kernel
theorem dX11_undoing_70 : decode cX11_undoing 70 = .ok (.lmul, 1) := by decide +kernel
theorem dX11_undoing_71 : decode cX11_undoing 71 = .ok (.ladd, 1) := by decide +kernel
theorem dX11_undoing_72 : decode cX11_undoing 72 = .ok (.lstore 6, 2) := by decide +kernel
theorem dX11_undoing_74 : decode cX11_undoing 74 = .ok (.lload 10, 2) := by decide +kernel
theorem dX11_undoing_76 : decode cX11_undoing 76 = .ok (.lconst 0, 1) := by decide +kernel
theorem dX11_undoing_77 : decode cX11_undoing 77 = .ok (.lcmp, 1) := by decide +kernel
theorem dX11_undoing_78 : decode cX11_undoing 78 = .ok (.ifCond .lt 131, 3) := by decide +kernel
theorem dX11_undoing_81 : decode cX11_undoing 81 = .ok (.lload 10, 2) := by decide +kernel
theorem dX11_undoing_83 : decode cX11_undoing 83 = .ok (.lload 17, 2) := by decide +kernel
theorem dX11_undoing_85 : decode cX11_undoing 85 = .ok (.lcmp, 1) := by decide +kernel
theorem dX11_undoing_86 : decode cX11_undoing 86 = .ok (.ifCond .ge 123, 3) := by decide +kernel
theorem dX11_undoing_89 : decode cX11_undoing 89 = .ok (.lconst 0, 1) := by decide +kernel
theorem dX11_undoing_90 : decode cX11_undoing 90 = .ok (.lreturn, 1) := by decide +kernel
theorem dX11_undoing_91 : decode cX11_undoing 91 = .ok (.lload 15, 2) := by decide +kernel
theorem dX11_undoing_93 : decode cX11_undoing 93 = .ok (.lconst 0, 1) := by decide +kernel
theorem dX11_undoing_94 : decode cX11_undoing 94 = .ok (.lcmp, 1) := by decide +kernel
theorem dX11_undoing_95 : decode cX11_undoing 95 = .ok (.ifCond .le 87, 3) := by decide +kernel
theorem dX11_undoing_98 : decode cX11_undoing 98 = .ok (.lload 8, 2) := by decide +kernel
theorem dX11_undoing_100 : decode cX11_undoing 100 = .ok (.lload 15, 2) := by decide +kernel
theorem dX11_undoing_102 : decode cX11_undoing 102 = .ok (.ldiv, 1) := by decide +kernel
theorem dX11_undoing_103 : decode cX11_undoing 103 = .ok (.lconst 1, 1) := by decide +kernel
theorem dX11_undoing_104 : decode cX11_undoing 104 = .ok (.lcmp, 1) := by decide +kernel
theorem dX11_undoing_105 : decode cX11_undoing 105 = .ok (.ifCond .le 77, 3) := by decide +kernel
theorem dX11_undoing_108 : decode cX11_undoing 108 = .ok (.lload 8, 2) := by decide +kernel
theorem dX11_undoing_110 : decode cX11_undoing 110 = .ok (.lload 15, 2) := by decide +kernel
theorem dX11_undoing_112 : decode cX11_undoing 112 = .ok (.ldiv, 1) := by decide +kernel
theorem dX11_undoing_113 : decode cX11_undoing 113 = .ok (.lconst 1, 1) := by decide +kernel
theorem dX11_undoing_114 : decode cX11_undoing 114 = .ok (.lsub, 1) := by decide +kernel
theorem dX11_undoing_115 : decode cX11_undoing 115 = .ok (.lstore 19, 2) := by decide +kernel
theorem dX11_undoing_117 : decode cX11_undoing 117 = .ok (.ldc2_w 366, 3) := by decide +kernel
theorem dX11_undoing_120 : decode cX11_undoing 120 = .ok (.lload 19, 2) := by decide +kernel
theorem dX11_undoing_122 : decode cX11_undoing 122 = .ok (.lmul, 1) := by decide +kernel
theorem dX11_undoing_123 : decode cX11_undoing 123 = .ok (.lstore 17, 2) := by decide +kernel
theorem dX11_undoing_125 : decode cX11_undoing 125 = .ok (.lload 6, 2) := by decide +kernel
theorem dX11_undoing_127 : decode cX11_undoing 127 = .ok (.lload 19, 2) := by decide +kernel
theorem dX11_undoing_129 : decode cX11_undoing 129 = .ok (.lload 15, 2) := by decide +kernel
theorem dX11_undoing_131 : decode cX11_undoing 131 = .ok (.lmul, 1) := by decide +kernel
theorem dX11_undoing_132 : decode cX11_undoing 132 = .ok (.lsub, 1) := by decide +kernel
theorem dX11_undoing_133 : decode cX11_undoing 133 = .ok (.lstore 6, 2) := by decide +kernel
theorem dX11_undoing_135 : decode cX11_undoing 135 = .ok (.lload 8, 2) := by decide +kernel
theorem dX11_undoing_137 : decode cX11_undoing 137 = .ok (.lload 19, 2) := by decide +kernel
theorem dX11_undoing_139 : decode cX11_undoing 139 = .ok (.lload 15, 2) := by decide +kernel
theorem dX11_undoing_141 : decode cX11_undoing 141 = .ok (.lmul, 1) := by decide +kernel
theorem dX11_undoing_142 : decode cX11_undoing 142 = .ok (.lsub, 1) := by decide +kernel
theorem dX11_undoing_143 : decode cX11_undoing 143 = .ok (.lstore 8, 2) := by decide +kernel
theorem dX11_undoing_145 : decode cX11_undoing 145 = .ok (.lload 10, 2) := by decide +kernel
theorem dX11_undoing_147 : decode cX11_undoing 147 = .ok (.lconst 0, 1) := by decide +kernel
theorem dX11_undoing_148 : decode cX11_undoing 148 = .ok (.lcmp, 1) := by decide +kernel
theorem dX11_undoing_149 : decode cX11_undoing 149 = .ok (.ifCond .lt 30, 3) := by decide +kernel
theorem dX11_undoing_152 : decode cX11_undoing 152 = .ok (.lload 10, 2) := by decide +kernel
theorem dX11_undoing_154 : decode cX11_undoing 154 = .ok (.lload 17, 2) := by decide +kernel
theorem dX11_undoing_156 : decode cX11_undoing 156 = .ok (.lcmp, 1) := by decide +kernel
theorem dX11_undoing_157 : decode cX11_undoing 157 = .ok (.ifCond .ge 22, 3) := by decide +kernel
theorem dX11_undoing_160 : decode cX11_undoing 160 = .ok (.lload 10, 2) := by decide +kernel
theorem dX11_undoing_162 : decode cX11_undoing 162 = .ok (.ldc2_w 366, 3) := by decide +kernel
theorem dX11_undoing_165 : decode cX11_undoing 165 = .ok (.lrem, 1) := by decide +kernel
theorem dX11_undoing_166 : decode cX11_undoing 166 = .ok (.lconst 0, 1) := by decide +kernel
theorem dX11_undoing_167 : decode cX11_undoing 167 = .ok (.lcmp, 1) := by decide +kernel
theorem dX11_undoing_168 : decode cX11_undoing 168 = .ok (.ifCond .ne 9, 3) := by decide +kernel
theorem dX11_undoing_171 : decode cX11_undoing 171 = .ok (.ldc2_w 312, 3) := by decide +kernel
theorem dX11_undoing_174 : decode cX11_undoing 174 = .ok (.goto 4, 3) := by decide +kernel
theorem dX11_undoing_177 : decode cX11_undoing 177 = .ok (.lconst 0, 1) := by decide +kernel
theorem dX11_undoing_178 : decode cX11_undoing 178 = .ok (.lreturn, 1) := by decide +kernel
theorem dX11_undoing_179 : decode cX11_undoing 179 = .ok (.goto 30, 3) := by decide +kernel
theorem dX11_undoing_182 : decode cX11_undoing 182 = .ok (.lload 6, 2) := by decide +kernel
theorem dX11_undoing_184 : decode cX11_undoing 184 = .ok (.lstore 19, 2) := by decide +kernel
theorem dX11_undoing_186 : decode cX11_undoing 186 = .ok (.lconst 1, 1) := by decide +kernel
theorem dX11_undoing_187 : decode cX11_undoing 187 = .ok (.lstore 17, 2) := by decide +kernel
theorem dX11_undoing_189 : decode cX11_undoing 189 = .ok (.lload 8, 2) := by decide +kernel
theorem dX11_undoing_191 : decode cX11_undoing 191 = .ok (.lneg, 1) := by decide +kernel
theorem dX11_undoing_192 : decode cX11_undoing 192 = .ok (.lstore 6, 2) := by decide +kernel
theorem dX11_undoing_194 : decode cX11_undoing 194 = .ok (.lload 19, 2) := by decide +kernel
theorem dX11_undoing_196 : decode cX11_undoing 196 = .ok (.lstore 8, 2) := by decide +kernel
theorem dX11_undoing_198 : decode cX11_undoing 198 = .ok (.lload 10, 2) := by decide +kernel
theorem dX11_undoing_200 : decode cX11_undoing 200 = .ok (.lconst 0, 1) := by decide +kernel
theorem dX11_undoing_201 : decode cX11_undoing 201 = .ok (.lcmp, 1) := by decide +kernel
theorem dX11_undoing_202 : decode cX11_undoing 202 = .ok (.ifCond .ne 7, 3) := by decide +kernel
theorem dX11_undoing_205 : decode cX11_undoing 205 = .ok (.ldc2_w 312, 3) := by decide +kernel
theorem dX11_undoing_208 : decode cX11_undoing 208 = .ok (.lreturn, 1) := by decide +kernel
theorem dX11_undoing_209 : decode cX11_undoing 209 = .ok (.lload 12, 2) := by decide +kernel
theorem dX11_undoing_211 : decode cX11_undoing 211 = .ok (.lload 17, 2) := by decide +kernel
theorem dX11_undoing_213 : decode cX11_undoing 213 = .ok (.ladd, 1) := by decide +kernel
theorem dX11_undoing_214 : decode cX11_undoing 214 = .ok (.lstore 12, 2) := by decide +kernel
theorem dX11_undoing_216 : decode cX11_undoing 216 = .ok (.lload 4, 2) := by decide +kernel
theorem dX11_undoing_218 : decode cX11_undoing 218 = .ok (.ldc2_w 224, 3) := by decide +kernel
theorem dX11_undoing_221 : decode cX11_undoing 221 = .ok (.lcmp, 1) := by decide +kernel
theorem dX11_undoing_222 : decode cX11_undoing 222 = .ok (.ifCond .ne 9, 3) := by decide +kernel
theorem dX11_undoing_225 : decode cX11_undoing 225 = .ok (.ldc2_w 224, 3) := by decide +kernel
theorem dX11_undoing_228 : decode cX11_undoing 228 = .ok (.goto 8, 3) := by decide +kernel
theorem dX11_undoing_231 : decode cX11_undoing 231 = .ok (.lload 10, 2) := by decide +kernel
theorem dX11_undoing_233 : decode cX11_undoing 233 = .ok (.lload 17, 2) := by decide +kernel
theorem dX11_undoing_235 : decode cX11_undoing 235 = .ok (.lsub, 1) := by decide +kernel
theorem dX11_undoing_236 : decode cX11_undoing 236 = .ok (.lstore 10, 2) := by decide +kernel
theorem dX11_undoing_238 : decode cX11_undoing 238 = .ok (.iinc 14 1, 3) := by decide +kernel
theorem dX11_undoing_241 : decode cX11_undoing 241 = .ok (.goto (-225), 3) := by decide +kernel
theorem dX11_undoing_244 : decode cX11_undoing 244 = .ok (.lload 4, 2) := by decide +kernel
theorem dX11_undoing_246 : decode cX11_undoing 246 = .ok (.ldc2_w 224, 3) := by decide +kernel
theorem dX11_undoing_249 : decode cX11_undoing 249 = .ok (.lcmp, 1) := by decide +kernel
theorem dX11_undoing_250 : decode cX11_undoing 250 = .ok (.ifCond .ne 8, 3) := by decide +kernel
theorem dX11_undoing_253 : decode cX11_undoing 253 = .ok (.lload 12, 2) := by decide +kernel
theorem dX11_undoing_255 : decode cX11_undoing 255 = .ok (.goto 6, 3) := by decide +kernel
theorem dX11_undoing_258 : decode cX11_undoing 258 = .ok (.ldc2_w 224, 3) := by decide +kernel
theorem dX11_undoing_261 : decode cX11_undoing 261 = .ok (.lreturn, 1) := by decide +kernel
theorem dX11_foundStep_0 : decode cX11_foundStep 0 = .ok (.aload_n 0, 1) := by decide +kernel
theorem dX11_foundStep_1 : decode cX11_foundStep 1 = .ok (.getfield 47, 3) := by decide +kernel
theorem dX11_foundStep_4 : decode cX11_foundStep 4 = .ok (.invokevirtual 243, 3) := by decide +kernel
theorem dX11_foundStep_7 : decode cX11_foundStep 7 = .ok (.ifCond .eq 30, 3) := by decide +kernel
theorem dX11_foundStep_10 : decode cX11_foundStep 10 = .ok (.iload_n 1, 1) := by decide +kernel
theorem dX11_foundStep_11 : decode cX11_foundStep 11 = .ok (.ifCond .lt 26, 3) := by decide +kernel
theorem dX11_foundStep_14 : decode cX11_foundStep 14 = .ok (.iload_n 1, 1) := by decide +kernel
theorem dX11_foundStep_15 : decode cX11_foundStep 15 = .ok (.aload_n 0, 1) := by decide +kernel
theorem dX11_foundStep_16 : decode cX11_foundStep 16 = .ok (.getfield 47, 3) := by decide +kernel
theorem dX11_foundStep_19 : decode cX11_foundStep 19 = .ok (.getfield 246, 3) := by decide +kernel
theorem dX11_foundStep_22 : decode cX11_foundStep 22 = .ok (.if_icmp .ge 15, 3) := by decide +kernel
theorem dX11_foundStep_25 : decode cX11_foundStep 25 = .ok (.iload_n 1, 1) := by decide +kernel
theorem dX11_foundStep_26 : decode cX11_foundStep 26 = .ok (.aload_n 0, 1) := by decide +kernel
theorem dX11_foundStep_27 : decode cX11_foundStep 27 = .ok (.getfield 47, 3) := by decide +kernel
theorem dX11_foundStep_30 : decode cX11_foundStep 30 = .ok (.getfield 368, 3) := by decide +kernel
theorem dX11_foundStep_33 : decode cX11_foundStep 33 = .ok (.arraylength, 1) := by decide +kernel
theorem dX11_foundStep_34 : decode cX11_foundStep 34 = .ok (.if_icmp .lt 9, 3) := by decide +kernel
theorem dX11_foundStep_37 : decode cX11_foundStep 37 = .ok (.aload_n 0, 1) := by decide +kernel
theorem dX11_foundStep_38 : decode cX11_foundStep 38 = .ok (.iconst 5, 1) := by decide +kernel
theorem dX11_foundStep_39 : decode cX11_foundStep 39 = .ok (.invokevirtual 230, 3) := by decide +kernel
theorem dX11_foundStep_42 : decode cX11_foundStep 42 = .ok (.ireturn, 1) := by decide +kernel
theorem dX11_foundStep_43 : decode cX11_foundStep 43 = .ok (.aload_n 0, 1) := by decide +kernel
theorem dX11_foundStep_44 : decode cX11_foundStep 44 = .ok (.getfield 47, 3) := by decide +kernel
theorem dX11_foundStep_47 : decode cX11_foundStep 47 = .ok (.getfield 368, 3) := by decide +kernel
theorem dX11_foundStep_50 : decode cX11_foundStep 50 = .ok (.iload_n 1, 1) := by decide +kernel
theorem dX11_foundStep_51 : decode cX11_foundStep 51 = .ok (.iaload, 1) := by decide +kernel
theorem dX11_foundStep_52 : decode cX11_foundStep 52 = .ok (.ireturn, 1) := by decide +kernel
theorem dX11_notJoined_0 : decode cX11_notJoined 0 = .ok (.iload 5, 2) := by decide +kernel
theorem dX11_notJoined_2 : decode cX11_notJoined 2 = .ok (.ifCond .eq 11, 3) := by decide +kernel
theorem dX11_notJoined_5 : decode cX11_notJoined 5 = .ok (.iload 5, 2) := by decide +kernel
theorem dX11_notJoined_7 : decode cX11_notJoined 7 = .ok (.iconst 1, 1) := by decide +kernel
theorem dX11_notJoined_8 : decode cX11_notJoined 8 = .ok (.if_icmp .eq 5, 3) := by decide +kernel
theorem dX11_notJoined_11 : decode cX11_notJoined 11 = .ok (.iconst 5, 1) := by decide +kernel
theorem dX11_notJoined_12 : decode cX11_notJoined 12 = .ok (.ireturn, 1) := by decide +kernel
theorem dX11_notJoined_13 : decode cX11_notJoined 13 = .ok (.lload_n 1, 1) := by decide +kernel
theorem dX11_notJoined_14 : decode cX11_notJoined 14 = .ok (.lload_n 3, 1) := by decide +kernel
theorem dX11_notJoined_15 : decode cX11_notJoined 15 = .ok (.invokestatic 161, 3) := by decide +kernel
theorem dX11_notJoined_18 : decode cX11_notJoined 18 = .ok (.ifCond .ne 6, 3) := by decide +kernel
theorem dX11_notJoined_21 : decode cX11_notJoined 21 = .ok (.bipush 6, 2) := by decide +kernel
theorem dX11_notJoined_23 : decode cX11_notJoined 23 = .ok (.ireturn, 1) := by decide +kernel
theorem dX11_notJoined_24 : decode cX11_notJoined 24 = .ok (.lload_n 1, 1) := by decide +kernel
theorem dX11_notJoined_25 : decode cX11_notJoined 25 = .ok (.lload_n 3, 1) := by decide +kernel
theorem dX11_notJoined_26 : decode cX11_notJoined 26 = .ok (.ldc2_w 371, 3) := by decide +kernel
theorem dX11_notJoined_29 : decode cX11_notJoined 29 = .ok (.invokestatic 350, 3) := by decide +kernel
theorem dX11_notJoined_32 : decode cX11_notJoined 32 = .ok (.ifCond .ne 26, 3) := by decide +kernel
theorem dX11_notJoined_35 : decode cX11_notJoined 35 = .ok (.aload_n 0, 1) := by decide +kernel
theorem dX11_notJoined_36 : decode cX11_notJoined 36 = .ok (.getfield 31, 3) := by decide +kernel
theorem dX11_notJoined_39 : decode cX11_notJoined 39 = .ok (.getfield 186, 3) := by decide +kernel
theorem dX11_notJoined_42 : decode cX11_notJoined 42 = .ok (.aload_n 0, 1) := by decide +kernel
theorem dX11_notJoined_43 : decode cX11_notJoined 43 = .ok (.getfield 31, 3) := by decide +kernel
theorem dX11_notJoined_46 : decode cX11_notJoined 46 = .ok (.getfield 190, 3) := by decide +kernel
theorem dX11_notJoined_49 : decode cX11_notJoined 49 = .ok (.ldc2_w 371, 3) := by decide +kernel
theorem dX11_notJoined_52 : decode cX11_notJoined 52 = .ok (.invokestatic 350, 3) := by decide +kernel
theorem dX11_notJoined_55 : decode cX11_notJoined 55 = .ok (.ifCond .eq 8, 3) := by decide +kernel
theorem dX11_notJoined_58 : decode cX11_notJoined 58 = .ok (.bipush 7, 2) := by decide +kernel
theorem dX11_notJoined_60 : decode cX11_notJoined 60 = .ok (.goto 4, 3) := by decide +kernel
theorem dX11_notJoined_63 : decode cX11_notJoined 63 = .ok (.iconst 0, 1) := by decide +kernel
theorem dX11_notJoined_64 : decode cX11_notJoined 64 = .ok (.ireturn, 1) := by decide +kernel
theorem dX11_joined_0 : decode cX11_joined 0 = .ok (.aload_n 0, 1) := by decide +kernel
theorem dX11_joined_1 : decode cX11_joined 1 = .ok (.getfield 38, 3) := by decide +kernel
theorem dX11_joined_4 : decode cX11_joined 4 = .ok (.getfield 186, 3) := by decide +kernel
theorem dX11_joined_7 : decode cX11_joined 7 = .ok (.aload_n 0, 1) := by decide +kernel
theorem dX11_joined_8 : decode cX11_joined 8 = .ok (.getfield 38, 3) := by decide +kernel
theorem dX11_joined_11 : decode cX11_joined 11 = .ok (.getfield 190, 3) := by decide +kernel
theorem dX11_joined_14 : decode cX11_joined 14 = .ok (.ldc2_w 348, 3) := by decide +kernel
theorem dX11_joined_17 : decode cX11_joined 17 = .ok (.invokestatic 350, 3) := by decide +kernel
theorem dX11_joined_20 : decode cX11_joined 20 = .ok (.ifCond .eq 10, 3) := by decide +kernel
theorem dX11_joined_23 : decode cX11_joined 23 = .ok (.aload_n 0, 1) := by decide +kernel
theorem dX11_joined_24 : decode cX11_joined 24 = .ok (.bipush 7, 2) := by decide +kernel
theorem dX11_joined_26 : decode cX11_joined 26 = .ok (.invokevirtual 183, 3) := by decide +kernel
theorem dX11_joined_29 : decode cX11_joined 29 = .ok (.lreturn, 1) := by decide +kernel
theorem dX11_joined_30 : decode cX11_joined 30 = .ok (.iload_n 1, 1) := by decide +kernel
theorem dX11_joined_31 : decode cX11_joined 31 = .ok (.ifCond .ne 13, 3) := by decide +kernel
theorem dX11_joined_34 : decode cX11_joined 34 = .ok (.aload_n 0, 1) := by decide +kernel
theorem dX11_joined_35 : decode cX11_joined 35 = .ok (.getfield 38, 3) := by decide +kernel
theorem dX11_joined_38 : decode cX11_joined 38 = .ok (.getfield 186, 3) := by decide +kernel
theorem dX11_joined_41 : decode cX11_joined 41 = .ok (.goto 10, 3) := by decide +kernel
theorem dX11_joined_44 : decode cX11_joined 44 = .ok (.aload_n 0, 1) := by decide +kernel
theorem dX11_joined_45 : decode cX11_joined 45 = .ok (.getfield 38, 3) := by decide +kernel
theorem dX11_joined_48 : decode cX11_joined 48 = .ok (.getfield 190, 3) := by decide +kernel
theorem dX11_joined_51 : decode cX11_joined 51 = .ok (.lreturn, 1) := by decide +kernel
theorem dX11_addFigure_0 : decode cX11_addFigure 0 = .ok (.aload_n 1, 1) := by decide +kernel
theorem dX11_addFigure_1 : decode cX11_addFigure 1 = .ok (.getfield 151, 3) := by decide +kernel
theorem dX11_addFigure_4 : decode cX11_addFigure 4 = .ok (.istore 5, 2) := by decide +kernel
theorem dX11_addFigure_6 : decode cX11_addFigure 6 = .ok (.iload 5, 2) := by decide +kernel
theorem dX11_addFigure_8 : decode cX11_addFigure 8 = .ok (.ifCond .lt 37, 3) := by decide +kernel
theorem dX11_addFigure_11 : decode cX11_addFigure 11 = .ok (.iload 5, 2) := by decide +kernel
theorem dX11_addFigure_13 : decode cX11_addFigure 13 = .ok (.bipush 8, 2) := by decide +kernel
theorem dX11_addFigure_15 : decode cX11_addFigure 15 = .ok (.if_icmp .ge 30, 3) := by decide +kernel
theorem dX11_addFigure_18 : decode cX11_addFigure 18 = .ok (.aload_n 0, 1) := by decide +kernel
theorem dX11_addFigure_19 : decode cX11_addFigure 19 = .ok (.getfield 17, 3) := by decide +kernel
theorem dX11_addFigure_22 : decode cX11_addFigure 22 = .ok (.iload 5, 2) := by decide +kernel
theorem dX11_addFigure_24 : decode cX11_addFigure 24 = .ok (.aload_n 0, 1) := by decide +kernel
theorem dX11_addFigure_25 : decode cX11_addFigure 25 = .ok (.iload_n 2, 1) := by decide +kernel
theorem dX11_addFigure_26 : decode cX11_addFigure 26 = .ok (.iload 5, 2) := by decide +kernel
theorem dX11_addFigure_28 : decode cX11_addFigure 28 = .ok (.iload_n 3, 1) := by decide +kernel
theorem dX11_addFigure_29 : decode cX11_addFigure 29 = .ok (.iload 4, 2) := by decide +kernel
theorem dX11_addFigure_31 : decode cX11_addFigure 31 = .ok (.invokevirtual 373, 3) := by decide +kernel
theorem dX11_addFigure_34 : decode cX11_addFigure 34 = .ok (.aastore, 1) := by decide +kernel
theorem dX11_addFigure_35 : decode cX11_addFigure 35 = .ok (.aload_n 1, 1) := by decide +kernel
theorem dX11_addFigure_36 : decode cX11_addFigure 36 = .ok (.dup, 1) := by decide +kernel
theorem dX11_addFigure_37 : decode cX11_addFigure 37 = .ok (.getfield 151, 3) := by decide +kernel
theorem dX11_addFigure_40 : decode cX11_addFigure 40 = .ok (.iconst 1, 1) := by decide +kernel
theorem dX11_addFigure_41 : decode cX11_addFigure 41 = .ok (.iadd, 1) := by decide +kernel
theorem dX11_addFigure_42 : decode cX11_addFigure 42 = .ok (.putfield 151, 3) := by decide +kernel
theorem dX11_addFigure_45 : decode cX11_addFigure 45 = .ok (.return_, 1) := by decide +kernel
theorem dX11_newFigure_0 : decode cX11_newFigure 0 = .ok (.iload_n 1, 1) := by decide +kernel
theorem dX11_newFigure_1 : decode cX11_newFigure 1 = .ok (.tableswitch 141 1 6 #[39, 56, 73, 90, 107, 124], 39) := by decide +kernel
theorem dX11_newFigure_40 : decode cX11_newFigure 40 = .ok (.new 377, 3) := by decide +kernel
theorem dX11_newFigure_43 : decode cX11_newFigure 43 = .ok (.dup, 1) := by decide +kernel
theorem dX11_newFigure_44 : decode cX11_newFigure 44 = .ok (.iload_n 1, 1) := by decide +kernel
theorem dX11_newFigure_45 : decode cX11_newFigure 45 = .ok (.iload_n 2, 1) := by decide +kernel
theorem dX11_newFigure_46 : decode cX11_newFigure 46 = .ok (.iload_n 3, 1) := by decide +kernel
theorem dX11_newFigure_47 : decode cX11_newFigure 47 = .ok (.iload 4, 2) := by decide +kernel
theorem dX11_newFigure_49 : decode cX11_newFigure 49 = .ok (.aload_n 0, 1) := by decide +kernel
theorem dX11_newFigure_50 : decode cX11_newFigure 50 = .ok (.getfield 25, 3) := by decide +kernel
theorem dX11_newFigure_53 : decode cX11_newFigure 53 = .ok (.invokespecial 379, 3) := by decide +kernel
theorem dX11_newFigure_56 : decode cX11_newFigure 56 = .ok (.areturn, 1) := by decide +kernel
theorem dX11_newFigure_57 : decode cX11_newFigure 57 = .ok (.new 382, 3) := by decide +kernel
theorem dX11_newFigure_60 : decode cX11_newFigure 60 = .ok (.dup, 1) := by decide +kernel
theorem dX11_newFigure_61 : decode cX11_newFigure 61 = .ok (.iload_n 1, 1) := by decide +kernel
theorem dX11_newFigure_62 : decode cX11_newFigure 62 = .ok (.iload_n 2, 1) := by decide +kernel
theorem dX11_newFigure_63 : decode cX11_newFigure 63 = .ok (.iload_n 3, 1) := by decide +kernel
theorem dX11_newFigure_64 : decode cX11_newFigure 64 = .ok (.iload 4, 2) := by decide +kernel
theorem dX11_newFigure_66 : decode cX11_newFigure 66 = .ok (.aload_n 0, 1) := by decide +kernel
theorem dX11_newFigure_67 : decode cX11_newFigure 67 = .ok (.getfield 25, 3) := by decide +kernel
theorem dX11_newFigure_70 : decode cX11_newFigure 70 = .ok (.invokespecial 384, 3) := by decide +kernel
theorem dX11_newFigure_73 : decode cX11_newFigure 73 = .ok (.areturn, 1) := by decide +kernel
theorem dX11_newFigure_74 : decode cX11_newFigure 74 = .ok (.new 385, 3) := by decide +kernel
theorem dX11_newFigure_77 : decode cX11_newFigure 77 = .ok (.dup, 1) := by decide +kernel
theorem dX11_newFigure_78 : decode cX11_newFigure 78 = .ok (.iload_n 1, 1) := by decide +kernel
theorem dX11_newFigure_79 : decode cX11_newFigure 79 = .ok (.iload_n 2, 1) := by decide +kernel
theorem dX11_newFigure_80 : decode cX11_newFigure 80 = .ok (.iload_n 3, 1) := by decide +kernel
theorem dX11_newFigure_81 : decode cX11_newFigure 81 = .ok (.iload 4, 2) := by decide +kernel
theorem dX11_newFigure_83 : decode cX11_newFigure 83 = .ok (.aload_n 0, 1) := by decide +kernel
theorem dX11_newFigure_84 : decode cX11_newFigure 84 = .ok (.getfield 25, 3) := by decide +kernel
theorem dX11_newFigure_87 : decode cX11_newFigure 87 = .ok (.invokespecial 387, 3) := by decide +kernel
theorem dX11_newFigure_90 : decode cX11_newFigure 90 = .ok (.areturn, 1) := by decide +kernel
theorem dX11_newFigure_91 : decode cX11_newFigure 91 = .ok (.new 388, 3) := by decide +kernel
theorem dX11_newFigure_94 : decode cX11_newFigure 94 = .ok (.dup, 1) := by decide +kernel
theorem dX11_newFigure_95 : decode cX11_newFigure 95 = .ok (.iload_n 1, 1) := by decide +kernel
theorem dX11_newFigure_96 : decode cX11_newFigure 96 = .ok (.iload_n 2, 1) := by decide +kernel
theorem dX11_newFigure_97 : decode cX11_newFigure 97 = .ok (.iload_n 3, 1) := by decide +kernel
theorem dX11_newFigure_98 : decode cX11_newFigure 98 = .ok (.iload 4, 2) := by decide +kernel
theorem dX11_newFigure_100 : decode cX11_newFigure 100 = .ok (.aload_n 0, 1) := by decide +kernel
theorem dX11_newFigure_101 : decode cX11_newFigure 101 = .ok (.getfield 25, 3) := by decide +kernel
theorem dX11_newFigure_104 : decode cX11_newFigure 104 = .ok (.invokespecial 390, 3) := by decide +kernel
theorem dX11_newFigure_107 : decode cX11_newFigure 107 = .ok (.areturn, 1) := by decide +kernel
theorem dX11_newFigure_108 : decode cX11_newFigure 108 = .ok (.new 391, 3) := by decide +kernel
theorem dX11_newFigure_111 : decode cX11_newFigure 111 = .ok (.dup, 1) := by decide +kernel
theorem dX11_newFigure_112 : decode cX11_newFigure 112 = .ok (.iload_n 1, 1) := by decide +kernel
theorem dX11_newFigure_113 : decode cX11_newFigure 113 = .ok (.iload_n 2, 1) := by decide +kernel
theorem dX11_newFigure_114 : decode cX11_newFigure 114 = .ok (.iload_n 3, 1) := by decide +kernel
theorem dX11_newFigure_115 : decode cX11_newFigure 115 = .ok (.iload 4, 2) := by decide +kernel
theorem dX11_newFigure_117 : decode cX11_newFigure 117 = .ok (.aload_n 0, 1) := by decide +kernel
theorem dX11_newFigure_118 : decode cX11_newFigure 118 = .ok (.getfield 25, 3) := by decide +kernel
theorem dX11_newFigure_121 : decode cX11_newFigure 121 = .ok (.invokespecial 393, 3) := by decide +kernel
theorem dX11_newFigure_124 : decode cX11_newFigure 124 = .ok (.areturn, 1) := by decide +kernel
theorem dX11_newFigure_125 : decode cX11_newFigure 125 = .ok (.new 394, 3) := by decide +kernel
theorem dX11_newFigure_128 : decode cX11_newFigure 128 = .ok (.dup, 1) := by decide +kernel
theorem dX11_newFigure_129 : decode cX11_newFigure 129 = .ok (.iload_n 1, 1) := by decide +kernel
theorem dX11_newFigure_130 : decode cX11_newFigure 130 = .ok (.iload_n 2, 1) := by decide +kernel
theorem dX11_newFigure_131 : decode cX11_newFigure 131 = .ok (.iload_n 3, 1) := by decide +kernel
theorem dX11_newFigure_132 : decode cX11_newFigure 132 = .ok (.iload 4, 2) := by decide +kernel
theorem dX11_newFigure_134 : decode cX11_newFigure 134 = .ok (.aload_n 0, 1) := by decide +kernel
theorem dX11_newFigure_135 : decode cX11_newFigure 135 = .ok (.getfield 25, 3) := by decide +kernel
theorem dX11_newFigure_138 : decode cX11_newFigure 138 = .ok (.invokespecial 396, 3) := by decide +kernel
theorem dX11_newFigure_141 : decode cX11_newFigure 141 = .ok (.areturn, 1) := by decide +kernel
theorem dX11_newFigure_142 : decode cX11_newFigure 142 = .ok (.new 15, 3) := by decide +kernel
theorem dX11_newFigure_145 : decode cX11_newFigure 145 = .ok (.dup, 1) := by decide +kernel
theorem dX11_newFigure_146 : decode cX11_newFigure 146 = .ok (.iload_n 1, 1) := by decide +kernel
theorem dX11_newFigure_147 : decode cX11_newFigure 147 = .ok (.iload_n 2, 1) := by decide +kernel
theorem dX11_newFigure_148 : decode cX11_newFigure 148 = .ok (.iload_n 3, 1) := by decide +kernel
theorem dX11_newFigure_149 : decode cX11_newFigure 149 = .ok (.iload 4, 2) := by decide +kernel
theorem dX11_newFigure_151 : decode cX11_newFigure 151 = .ok (.aload_n 0, 1) := by decide +kernel
theorem dX11_newFigure_152 : decode cX11_newFigure 152 = .ok (.getfield 25, 3) := by decide +kernel
theorem dX11_newFigure_155 : decode cX11_newFigure 155 = .ok (.invokespecial 397, 3) := by decide +kernel
theorem dX11_newFigure_158 : decode cX11_newFigure 158 = .ok (.areturn, 1) := by decide +kernel
theorem dX11_areFigures_0 : decode cX11_areFigures 0 = .ok (.aload_n 0, 1) := by decide +kernel
theorem dX11_areFigures_1 : decode cX11_areFigures 1 = .ok (.iload_n 1, 1) := by decide +kernel
theorem dX11_areFigures_2 : decode cX11_areFigures 2 = .ok (.invokevirtual 66, 3) := by decide +kernel
theorem dX11_areFigures_5 : decode cX11_areFigures 5 = .ok (.astore_n 3, 1) := by decide +kernel
theorem dX11_areFigures_6 : decode cX11_areFigures 6 = .ok (.aload_n 3, 1) := by decide +kernel
theorem dX11_areFigures_7 : decode cX11_areFigures 7 = .ok (.ifnull 7, 3) := by decide +kernel
theorem dX11_areFigures_10 : decode cX11_areFigures 10 = .ok (.iconst 1, 1) := by decide +kernel
theorem dX11_areFigures_11 : decode cX11_areFigures 11 = .ok (.goto 4, 3) := by decide +kernel
theorem dX11_areFigures_14 : decode cX11_areFigures 14 = .ok (.iconst 0, 1) := by decide +kernel
theorem dX11_areFigures_15 : decode cX11_areFigures 15 = .ok (.istore 4, 2) := by decide +kernel
theorem dX11_areFigures_17 : decode cX11_areFigures 17 = .ok (.iconst 0, 1) := by decide +kernel
theorem dX11_areFigures_18 : decode cX11_areFigures 18 = .ok (.istore 5, 2) := by decide +kernel
theorem dX11_areFigures_20 : decode cX11_areFigures 20 = .ok (.iload 4, 2) := by decide +kernel
theorem dX11_areFigures_22 : decode cX11_areFigures 22 = .ok (.ifCond .eq 39, 3) := by decide +kernel
theorem dX11_areFigures_25 : decode cX11_areFigures 25 = .ok (.iload 5, 2) := by decide +kernel
theorem dX11_areFigures_27 : decode cX11_areFigures 27 = .ok (.iload_n 2, 1) := by decide +kernel
theorem dX11_areFigures_28 : decode cX11_areFigures 28 = .ok (.if_icmp .ge 33, 3) := by decide +kernel
theorem dX11_areFigures_31 : decode cX11_areFigures 31 = .ok (.aload_n 0, 1) := by decide +kernel
theorem dX11_areFigures_32 : decode cX11_areFigures 32 = .ok (.aload_n 0, 1) := by decide +kernel
theorem dX11_areFigures_33 : decode cX11_areFigures 33 = .ok (.getfield 31, 3) := by decide +kernel
theorem dX11_areFigures_36 : decode cX11_areFigures 36 = .ok (.aload_n 3, 1) := by decide +kernel
theorem dX11_areFigures_37 : decode cX11_areFigures 37 = .ok (.iload 5, 2) := by decide +kernel
theorem dX11_areFigures_39 : decode cX11_areFigures 39 = .ok (.invokevirtual 398, 3) := by decide +kernel
theorem dX11_areFigures_42 : decode cX11_areFigures 42 = .ok (.invokevirtual 114, 3) := by decide +kernel
theorem dX11_areFigures_45 : decode cX11_areFigures 45 = .ok (.ifnull 7, 3) := by decide +kernel
theorem dX11_areFigures_48 : decode cX11_areFigures 48 = .ok (.iconst 1, 1) := by decide +kernel
theorem dX11_areFigures_49 : decode cX11_areFigures 49 = .ok (.goto 4, 3) := by decide +kernel
theorem dX11_areFigures_52 : decode cX11_areFigures 52 = .ok (.iconst 0, 1) := by decide +kernel
theorem dX11_areFigures_53 : decode cX11_areFigures 53 = .ok (.istore 4, 2) := by decide +kernel
theorem dX11_areFigures_55 : decode cX11_areFigures 55 = .ok (.iinc 5 1, 3) := by decide +kernel
theorem dX11_areFigures_58 : decode cX11_areFigures 58 = .ok (.goto (-38), 3) := by decide +kernel
theorem dX11_areFigures_61 : decode cX11_areFigures 61 = .ok (.iload 4, 2) := by decide +kernel
theorem dX11_areFigures_63 : decode cX11_areFigures 63 = .ok (.ireturn, 1) := by decide +kernel
theorem dX11_tryRow_0 : decode cX11_tryRow 0 = .ok (.aload_n 1, 1) := by decide +kernel
theorem dX11_tryRow_1 : decode cX11_tryRow 1 = .ok (.aload_n 0, 1) := by decide +kernel
theorem dX11_tryRow_2 : decode cX11_tryRow 2 = .ok (.getfield 31, 3) := by decide +kernel
theorem dX11_tryRow_5 : decode cX11_tryRow 5 = .ok (.invokevirtual 169, 3) := by decide +kernel
theorem dX11_tryRow_8 : decode cX11_tryRow 8 = .ok (.aload_n 0, 1) := by decide +kernel
theorem dX11_tryRow_9 : decode cX11_tryRow 9 = .ok (.aload_n 1, 1) := by decide +kernel
theorem dX11_tryRow_10 : decode cX11_tryRow 10 = .ok (.iload_n 2, 1) := by decide +kernel
theorem dX11_tryRow_11 : decode cX11_tryRow 11 = .ok (.iload_n 3, 1) := by decide +kernel
theorem dX11_tryRow_12 : decode cX11_tryRow 12 = .ok (.iconst 1, 1) := by decide +kernel
theorem dX11_tryRow_13 : decode cX11_tryRow 13 = .ok (.invokevirtual 401, 3) := by decide +kernel
theorem dX11_tryRow_16 : decode cX11_tryRow 16 = .ok (.ireturn, 1) := by decide +kernel
theorem dX11_goOn_0 : decode cX11_goOn 0 = .ok (.aload_n 0, 1) := by decide +kernel
theorem dX11_goOn_1 : decode cX11_goOn 1 = .ok (.iload_n 2, 1) := by decide +kernel
theorem dX11_goOn_2 : decode cX11_goOn 2 = .ok (.invokevirtual 66, 3) := by decide +kernel
theorem dX11_goOn_5 : decode cX11_goOn 5 = .ok (.astore 5, 2) := by decide +kernel
theorem dX11_goOn_7 : decode cX11_goOn 7 = .ok (.iload_n 3, 1) := by decide +kernel
theorem dX11_goOn_8 : decode cX11_goOn 8 = .ok (.istore 6, 2) := by decide +kernel
theorem dX11_goOn_10 : decode cX11_goOn 10 = .ok (.iconst 0, 1) := by decide +kernel
theorem dX11_goOn_11 : decode cX11_goOn 11 = .ok (.istore 7, 2) := by decide +kernel
theorem dX11_goOn_13 : decode cX11_goOn 13 = .ok (.iload 6, 2) := by decide +kernel
theorem dX11_goOn_15 : decode cX11_goOn 15 = .ok (.iload_n 3, 1) := by decide +kernel
theorem dX11_goOn_16 : decode cX11_goOn 16 = .ok (.if_icmp .ne 55, 3) := by decide +kernel
theorem dX11_goOn_19 : decode cX11_goOn 19 = .ok (.iload 7, 2) := by decide +kernel
theorem dX11_goOn_21 : decode cX11_goOn 21 = .ok (.iload 4, 2) := by decide +kernel
theorem dX11_goOn_23 : decode cX11_goOn 23 = .ok (.if_icmp .ge 48, 3) := by decide +kernel
theorem dX11_goOn_26 : decode cX11_goOn 26 = .ok (.iconst 0, 1) := by decide +kernel
theorem dX11_goOn_27 : decode cX11_goOn 27 = .ok (.istore 6, 2) := by decide +kernel
theorem dX11_goOn_29 : decode cX11_goOn 29 = .ok (.aload 5, 2) := by decide +kernel
theorem dX11_goOn_31 : decode cX11_goOn 31 = .ok (.ifnull 34, 3) := by decide +kernel
theorem dX11_goOn_34 : decode cX11_goOn 34 = .ok (.iload 6, 2) := by decide +kernel
theorem dX11_goOn_36 : decode cX11_goOn 36 = .ok (.iload_n 3, 1) := by decide +kernel
theorem dX11_goOn_37 : decode cX11_goOn 37 = .ok (.if_icmp .ge 28, 3) := by decide +kernel
theorem dX11_goOn_40 : decode cX11_goOn 40 = .ok (.aload_n 1, 1) := by decide +kernel
theorem dX11_goOn_41 : decode cX11_goOn 41 = .ok (.aload_n 0, 1) := by decide +kernel
theorem dX11_goOn_42 : decode cX11_goOn 42 = .ok (.aload_n 1, 1) := by decide +kernel
theorem dX11_goOn_43 : decode cX11_goOn 43 = .ok (.aload 5, 2) := by decide +kernel
theorem dX11_goOn_45 : decode cX11_goOn 45 = .ok (.iload 6, 2) := by decide +kernel
theorem dX11_goOn_47 : decode cX11_goOn 47 = .ok (.invokevirtual 398, 3) := by decide +kernel
theorem dX11_goOn_50 : decode cX11_goOn 50 = .ok (.invokevirtual 114, 3) := by decide +kernel
theorem dX11_goOn_53 : decode cX11_goOn 53 = .ok (.invokevirtual 196, 3) := by decide +kernel
theorem dX11_goOn_56 : decode cX11_goOn 56 = .ok (.ifCond .eq 9, 3) := by decide +kernel
theorem dX11_goOn_59 : decode cX11_goOn 59 = .ok (.iinc 6 1, 3) := by decide +kernel
theorem dX11_goOn_62 : decode cX11_goOn 62 = .ok (.goto (-33), 3) := by decide +kernel
theorem dX11_goOn_65 : decode cX11_goOn 65 = .ok (.iinc 7 1, 3) := by decide +kernel
theorem dX11_goOn_68 : decode cX11_goOn 68 = .ok (.goto (-55), 3) := by decide +kernel
theorem dX11_goOn_71 : decode cX11_goOn 71 = .ok (.iload 6, 2) := by decide +kernel
theorem dX11_goOn_73 : decode cX11_goOn 73 = .ok (.ireturn, 1) := by decide +kernel
theorem dX11_tryOften_0 : decode cX11_tryOften 0 = .ok (.aload_n 0, 1) := by decide +kernel
theorem dX11_tryOften_1 : decode cX11_tryOften 1 = .ok (.getfield 38, 3) := by decide +kernel
theorem dX11_tryOften_4 : decode cX11_tryOften 4 = .ok (.aload_n 0, 1) := by decide +kernel
theorem dX11_tryOften_5 : decode cX11_tryOften 5 = .ok (.getfield 31, 3) := by decide +kernel
theorem dX11_tryOften_8 : decode cX11_tryOften 8 = .ok (.invokevirtual 169, 3) := by decide +kernel
theorem dX11_tryOften_11 : decode cX11_tryOften 11 = .ok (.iload_n 3, 1) := by decide +kernel
theorem dX11_tryOften_12 : decode cX11_tryOften 12 = .ok (.istore 4, 2) := by decide +kernel
theorem dX11_tryOften_14 : decode cX11_tryOften 14 = .ok (.iload_n 3, 1) := by decide +kernel
theorem dX11_tryOften_15 : decode cX11_tryOften 15 = .ok (.bipush 36, 2) := by decide +kernel
theorem dX11_tryOften_17 : decode cX11_tryOften 17 = .ok (.if_icmp .le 150, 3) := by decide +kernel
theorem dX11_tryOften_20 : decode cX11_tryOften 20 = .ok (.aload_n 0, 1) := by decide +kernel
theorem dX11_tryOften_21 : decode cX11_tryOften 21 = .ok (.aload_n 0, 1) := by decide +kernel
theorem dX11_tryOften_22 : decode cX11_tryOften 22 = .ok (.getfield 38, 3) := by decide +kernel
theorem dX11_tryOften_25 : decode cX11_tryOften 25 = .ok (.iload_n 1, 1) := by decide +kernel
theorem dX11_tryOften_26 : decode cX11_tryOften 26 = .ok (.iload_n 2, 1) := by decide +kernel
theorem dX11_tryOften_27 : decode cX11_tryOften 27 = .ok (.bipush 12, 2) := by decide +kernel
theorem dX11_tryOften_29 : decode cX11_tryOften 29 = .ok (.invokevirtual 401, 3) := by decide +kernel
theorem dX11_tryOften_32 : decode cX11_tryOften 32 = .ok (.iload_n 2, 1) := by decide +kernel
theorem dX11_tryOften_33 : decode cX11_tryOften 33 = .ok (.if_icmp .ge 5, 3) := by decide +kernel
theorem dX11_tryOften_36 : decode cX11_tryOften 36 = .ok (.iconst 0, 1) := by decide +kernel
theorem dX11_tryOften_37 : decode cX11_tryOften 37 = .ok (.ireturn, 1) := by decide +kernel
theorem dX11_tryOften_38 : decode cX11_tryOften 38 = .ok (.aload_n 0, 1) := by decide +kernel
theorem dX11_tryOften_39 : decode cX11_tryOften 39 = .ok (.getfield 41, 3) := by decide +kernel
theorem dX11_tryOften_42 : decode cX11_tryOften 42 = .ok (.aload_n 0, 1) := by decide +kernel
theorem dX11_tryOften_43 : decode cX11_tryOften 43 = .ok (.getfield 38, 3) := by decide +kernel
theorem dX11_tryOften_46 : decode cX11_tryOften 46 = .ok (.getfield 186, 3) := by decide +kernel
theorem dX11_tryOften_49 : decode cX11_tryOften 49 = .ok (.aload_n 0, 1) := by decide +kernel
theorem dX11_tryOften_50 : decode cX11_tryOften 50 = .ok (.getfield 38, 3) := by decide +kernel
theorem dX11_tryOften_53 : decode cX11_tryOften 53 = .ok (.getfield 190, 3) := by decide +kernel
theorem dX11_tryOften_56 : decode cX11_tryOften 56 = .ok (.invokevirtual 165, 3) := by decide +kernel
theorem dX11_tryOften_59 : decode cX11_tryOften 59 = .ok (.aload_n 0, 1) := by decide +kernel
theorem dX11_tryOften_60 : decode cX11_tryOften 60 = .ok (.aload_n 0, 1) := by decide +kernel
theorem dX11_tryOften_61 : decode cX11_tryOften 61 = .ok (.getfield 38, 3) := by decide +kernel
theorem dX11_tryOften_64 : decode cX11_tryOften 64 = .ok (.iload_n 1, 1) := by decide +kernel
theorem dX11_tryOften_65 : decode cX11_tryOften 65 = .ok (.iload_n 2, 1) := by decide +kernel
theorem dX11_tryOften_66 : decode cX11_tryOften 66 = .ok (.bipush 12, 2) := by decide +kernel
theorem dX11_tryOften_68 : decode cX11_tryOften 68 = .ok (.invokevirtual 401, 3) := by decide +kernel
theorem dX11_tryOften_71 : decode cX11_tryOften 71 = .ok (.iload_n 2, 1) := by decide +kernel
theorem dX11_tryOften_72 : decode cX11_tryOften 72 = .ok (.if_icmp .ge 5, 3) := by decide +kernel
theorem dX11_tryOften_75 : decode cX11_tryOften 75 = .ok (.iconst 0, 1) := by decide +kernel
theorem dX11_tryOften_76 : decode cX11_tryOften 76 = .ok (.ireturn, 1) := by decide +kernel
theorem dX11_tryOften_77 : decode cX11_tryOften 77 = .ok (.iinc 4 (-24), 3) := by decide +kernel
theorem dX11_tryOften_80 : decode cX11_tryOften 80 = .ok (.aload_n 0, 1) := by decide +kernel
theorem dX11_tryOften_81 : decode cX11_tryOften 81 = .ok (.invokevirtual 405, 3) := by decide +kernel
theorem dX11_tryOften_84 : decode cX11_tryOften 84 = .ok (.istore 5, 2) := by decide +kernel
theorem dX11_tryOften_86 : decode cX11_tryOften 86 = .ok (.iload 5, 2) := by decide +kernel
theorem dX11_tryOften_88 : decode cX11_tryOften 88 = .ok (.ifCond .eq 79, 3) := by decide +kernel
theorem dX11_tryOften_91 : decode cX11_tryOften 91 = .ok (.iload 4, 2) := by decide +kernel
theorem dX11_tryOften_93 : decode cX11_tryOften 93 = .ok (.iconst 1, 1) := by decide +kernel
theorem dX11_tryOften_94 : decode cX11_tryOften 94 = .ok (.isub, 1) := by decide +kernel
theorem dX11_tryOften_95 : decode cX11_tryOften 95 = .ok (.bipush 12, 2) := by decide +kernel
theorem dX11_tryOften_97 : decode cX11_tryOften 97 = .ok (.idiv, 1) := by decide +kernel
theorem dX11_tryOften_98 : decode cX11_tryOften 98 = .ok (.istore 6, 2) := by decide +kernel
theorem dX11_tryOften_100 : decode cX11_tryOften 100 = .ok (.iload 4, 2) := by decide +kernel
theorem dX11_tryOften_102 : decode cX11_tryOften 102 = .ok (.iload 6, 2) := by decide +kernel
theorem dX11_tryOften_104 : decode cX11_tryOften 104 = .ok (.bipush 12, 2) := by decide +kernel
theorem dX11_tryOften_106 : decode cX11_tryOften 106 = .ok (.imul, 1) := by decide +kernel
theorem dX11_tryOften_107 : decode cX11_tryOften 107 = .ok (.isub, 1) := by decide +kernel
theorem dX11_tryOften_108 : decode cX11_tryOften 108 = .ok (.istore 4, 2) := by decide +kernel
theorem dX11_tryOften_110 : decode cX11_tryOften 110 = .ok (.aload_n 0, 1) := by decide +kernel
theorem dX11_tryOften_111 : decode cX11_tryOften 111 = .ok (.getfield 38, 3) := by decide +kernel
theorem dX11_tryOften_114 : decode cX11_tryOften 114 = .ok (.aload_n 0, 1) := by decide +kernel
theorem dX11_tryOften_115 : decode cX11_tryOften 115 = .ok (.getfield 31, 3) := by decide +kernel
theorem dX11_tryOften_118 : decode cX11_tryOften 118 = .ok (.getfield 186, 3) := by decide +kernel
theorem dX11_tryOften_121 : decode cX11_tryOften 121 = .ok (.iload 5, 2) := by decide +kernel
theorem dX11_tryOften_123 : decode cX11_tryOften 123 = .ok (.i2l, 1) := by decide +kernel
theorem dX11_tryOften_124 : decode cX11_tryOften 124 = .ok (.aload_n 0, 1) := by decide +kernel
theorem dX11_tryOften_125 : decode cX11_tryOften 125 = .ok (.getfield 41, 3) := by decide +kernel
theorem dX11_tryOften_128 : decode cX11_tryOften 128 = .ok (.getfield 186, 3) := by decide +kernel
theorem dX11_tryOften_131 : decode cX11_tryOften 131 = .ok (.lmul, 1) := by decide +kernel
theorem dX11_tryOften_132 : decode cX11_tryOften 132 = .ok (.iload 6, 2) := by decide +kernel
theorem dX11_tryOften_134 : decode cX11_tryOften 134 = .ok (.iconst 2, 1) := by decide +kernel
theorem dX11_tryOften_135 : decode cX11_tryOften 135 = .ok (.iadd, 1) := by decide +kernel
theorem dX11_tryOften_136 : decode cX11_tryOften 136 = .ok (.invokestatic 408, 3) := by decide +kernel
theorem dX11_tryOften_139 : decode cX11_tryOften 139 = .ok (.aload_n 0, 1) := by decide +kernel
theorem dX11_tryOften_140 : decode cX11_tryOften 140 = .ok (.getfield 31, 3) := by decide +kernel
theorem dX11_tryOften_143 : decode cX11_tryOften 143 = .ok (.getfield 190, 3) := by decide +kernel
theorem dX11_tryOften_146 : decode cX11_tryOften 146 = .ok (.iload 5, 2) := by decide +kernel
theorem dX11_tryOften_148 : decode cX11_tryOften 148 = .ok (.i2l, 1) := by decide +kernel
theorem dX11_tryOften_149 : decode cX11_tryOften 149 = .ok (.aload_n 0, 1) := by decide +kernel
theorem dX11_tryOften_150 : decode cX11_tryOften 150 = .ok (.getfield 41, 3) := by decide +kernel
theorem dX11_tryOften_153 : decode cX11_tryOften 153 = .ok (.getfield 190, 3) := by decide +kernel
theorem dX11_tryOften_156 : decode cX11_tryOften 156 = .ok (.lmul, 1) := by decide +kernel
theorem dX11_tryOften_157 : decode cX11_tryOften 157 = .ok (.iload 6, 2) := by decide +kernel
theorem dX11_tryOften_159 : decode cX11_tryOften 159 = .ok (.iconst 2, 1) := by decide +kernel
theorem dX11_tryOften_160 : decode cX11_tryOften 160 = .ok (.iadd, 1) := by decide +kernel
theorem dX11_tryOften_161 : decode cX11_tryOften 161 = .ok (.invokestatic 408, 3) := by decide +kernel
theorem dX11_tryOften_164 : decode cX11_tryOften 164 = .ok (.invokevirtual 412, 3) := by decide +kernel
theorem dX11_tryOften_167 : decode cX11_tryOften 167 = .ok (.aload_n 0, 1) := by decide +kernel
theorem dX11_tryOften_168 : decode cX11_tryOften 168 = .ok (.getfield 38, 3) := by decide +kernel
theorem dX11_tryOften_171 : decode cX11_tryOften 171 = .ok (.getfield 186, 3) := by decide +kernel
theorem dX11_tryOften_174 : decode cX11_tryOften 174 = .ok (.aload_n 0, 1) := by decide +kernel
theorem dX11_tryOften_175 : decode cX11_tryOften 175 = .ok (.getfield 38, 3) := by decide +kernel
theorem dX11_tryOften_178 : decode cX11_tryOften 178 = .ok (.getfield 190, 3) := by decide +kernel
theorem dX11_tryOften_181 : decode cX11_tryOften 181 = .ok (.ldc2_w 348, 3) := by decide +kernel
theorem dX11_tryOften_184 : decode cX11_tryOften 184 = .ok (.invokestatic 350, 3) := by decide +kernel
theorem dX11_tryOften_187 : decode cX11_tryOften 187 = .ok (.ifCond .ne 23, 3) := by decide +kernel
theorem dX11_tryOften_190 : decode cX11_tryOften 190 = .ok (.aload_n 0, 1) := by decide +kernel
theorem dX11_tryOften_191 : decode cX11_tryOften 191 = .ok (.aload_n 0, 1) := by decide +kernel
theorem dX11_tryOften_192 : decode cX11_tryOften 192 = .ok (.getfield 38, 3) := by decide +kernel
theorem dX11_tryOften_195 : decode cX11_tryOften 195 = .ok (.iload_n 1, 1) := by decide +kernel
theorem dX11_tryOften_196 : decode cX11_tryOften 196 = .ok (.iload_n 2, 1) := by decide +kernel
theorem dX11_tryOften_197 : decode cX11_tryOften 197 = .ok (.iload 4, 2) := by decide +kernel
theorem dX11_tryOften_199 : decode cX11_tryOften 199 = .ok (.invokevirtual 401, 3) := by decide +kernel
theorem dX11_tryOften_202 : decode cX11_tryOften 202 = .ok (.iload_n 2, 1) := by decide +kernel
theorem dX11_tryOften_203 : decode cX11_tryOften 203 = .ok (.if_icmp .ne 7, 3) := by decide +kernel
theorem dX11_tryOften_206 : decode cX11_tryOften 206 = .ok (.iconst 1, 1) := by decide +kernel
theorem dX11_tryOften_207 : decode cX11_tryOften 207 = .ok (.goto 4, 3) := by decide +kernel
theorem dX11_tryOften_210 : decode cX11_tryOften 210 = .ok (.iconst 0, 1) := by decide +kernel
theorem dX11_tryOften_211 : decode cX11_tryOften 211 = .ok (.ireturn, 1) := by decide +kernel
theorem dX11_signOfStraight_0 : decode cX11_signOfStraight 0 = .ok (.iconst 1, 1) := by decide +kernel
theorem dX11_signOfStraight_1 : decode cX11_signOfStraight 1 = .ok (.istore_n 1, 1) := by decide +kernel
theorem dX11_signOfStraight_2 : decode cX11_signOfStraight 2 = .ok (.iload_n 1, 1) := by decide +kernel
theorem dX11_signOfStraight_3 : decode cX11_signOfStraight 3 = .ok (.iconst (-1), 1) := by decide +kernel
theorem dX11_signOfStraight_4 : decode cX11_signOfStraight 4 = .ok (.if_icmp .lt 108, 3) := by decide +kernel
theorem dX11_signOfStraight_7 : decode cX11_signOfStraight 7 = .ok (.aload_n 0, 1) := by decide +kernel
theorem dX11_signOfStraight_8 : decode cX11_signOfStraight 8 = .ok (.getfield 31, 3) := by decide +kernel
theorem dX11_signOfStraight_11 : decode cX11_signOfStraight 11 = .ok (.getfield 186, 3) := by decide +kernel
theorem dX11_signOfStraight_14 : decode cX11_signOfStraight 14 = .ok (.iload_n 1, 1) := by decide +kernel
theorem dX11_signOfStraight_15 : decode cX11_signOfStraight 15 = .ok (.i2l, 1) := by decide +kernel
theorem dX11_signOfStraight_16 : decode cX11_signOfStraight 16 = .ok (.aload_n 0, 1) := by decide +kernel
theorem dX11_signOfStraight_17 : decode cX11_signOfStraight 17 = .ok (.getfield 41, 3) := by decide +kernel
theorem dX11_signOfStraight_20 : decode cX11_signOfStraight 20 = .ok (.getfield 186, 3) := by decide +kernel
theorem dX11_signOfStraight_23 : decode cX11_signOfStraight 23 = .ok (.lmul, 1) := by decide +kernel
theorem dX11_signOfStraight_24 : decode cX11_signOfStraight 24 = .ok (.iconst 2, 1) := by decide +kernel
theorem dX11_signOfStraight_25 : decode cX11_signOfStraight 25 = .ok (.invokestatic 408, 3) := by decide +kernel
theorem dX11_signOfStraight_28 : decode cX11_signOfStraight 28 = .ok (.lstore_n 2, 1) := by decide +kernel
theorem dX11_signOfStraight_29 : decode cX11_signOfStraight 29 = .ok (.aload_n 0, 1) := by decide +kernel
theorem dX11_signOfStraight_30 : decode cX11_signOfStraight 30 = .ok (.getfield 31, 3) := by decide +kernel
theorem dX11_signOfStraight_33 : decode cX11_signOfStraight 33 = .ok (.getfield 190, 3) := by decide +kernel
theorem dX11_signOfStraight_36 : decode cX11_signOfStraight 36 = .ok (.iload_n 1, 1) := by decide +kernel
theorem dX11_signOfStraight_37 : decode cX11_signOfStraight 37 = .ok (.i2l, 1) := by decide +kernel
theorem dX11_signOfStraight_38 : decode cX11_signOfStraight 38 = .ok (.aload_n 0, 1) := by decide +kernel
theorem dX11_signOfStraight_39 : decode cX11_signOfStraight 39 = .ok (.getfield 41, 3) := by decide +kernel
theorem dX11_signOfStraight_42 : decode cX11_signOfStraight 42 = .ok (.getfield 190, 3) := by decide +kernel
theorem dX11_signOfStraight_45 : decode cX11_signOfStraight 45 = .ok (.lmul, 1) := by decide +kernel
theorem dX11_signOfStraight_46 : decode cX11_signOfStraight 46 = .ok (.iconst 2, 1) := by decide +kernel
theorem dX11_signOfStraight_47 : decode cX11_signOfStraight 47 = .ok (.invokestatic 408, 3) := by decide +kernel
theorem dX11_signOfStraight_50 : decode cX11_signOfStraight 50 = .ok (.lstore 4, 2) := by decide +kernel
theorem dX11_signOfStraight_52 : decode cX11_signOfStraight 52 = .ok (.lload_n 2, 1) := by decide +kernel
theorem dX11_signOfStraight_53 : decode cX11_signOfStraight 53 = .ok (.aload_n 0, 1) := by decide +kernel
theorem dX11_signOfStraight_54 : decode cX11_signOfStraight 54 = .ok (.getfield 38, 3) := by decide +kernel
theorem dX11_signOfStraight_57 : decode cX11_signOfStraight 57 = .ok (.getfield 186, 3) := by decide +kernel
theorem dX11_signOfStraight_60 : decode cX11_signOfStraight 60 = .ok (.lcmp, 1) := by decide +kernel
theorem dX11_signOfStraight_61 : decode cX11_signOfStraight 61 = .ok (.ifCond .ne 16, 3) := by decide +kernel
theorem dX11_signOfStraight_64 : decode cX11_signOfStraight 64 = .ok (.lload 4, 2) := by decide +kernel
theorem dX11_signOfStraight_66 : decode cX11_signOfStraight 66 = .ok (.aload_n 0, 1) := by decide +kernel
theorem dX11_signOfStraight_67 : decode cX11_signOfStraight 67 = .ok (.getfield 38, 3) := by decide +kernel
theorem dX11_signOfStraight_70 : decode cX11_signOfStraight 70 = .ok (.getfield 190, 3) := by decide +kernel
theorem dX11_signOfStraight_73 : decode cX11_signOfStraight 73 = .ok (.lcmp, 1) := by decide +kernel
theorem dX11_signOfStraight_74 : decode cX11_signOfStraight 74 = .ok (.ifCond .eq 30, 3) := by decide +kernel
theorem dX11_signOfStraight_77 : decode cX11_signOfStraight 77 = .ok (.lload_n 2, 1) := by decide +kernel
theorem dX11_signOfStraight_78 : decode cX11_signOfStraight 78 = .ok (.aload_n 0, 1) := by decide +kernel
theorem dX11_signOfStraight_79 : decode cX11_signOfStraight 79 = .ok (.getfield 38, 3) := by decide +kernel
theorem dX11_signOfStraight_82 : decode cX11_signOfStraight 82 = .ok (.getfield 186, 3) := by decide +kernel
theorem dX11_signOfStraight_85 : decode cX11_signOfStraight 85 = .ok (.lneg, 1) := by decide +kernel
theorem dX11_signOfStraight_86 : decode cX11_signOfStraight 86 = .ok (.lcmp, 1) := by decide +kernel
theorem dX11_signOfStraight_87 : decode cX11_signOfStraight 87 = .ok (.ifCond .ne 19, 3) := by decide +kernel
theorem dX11_signOfStraight_90 : decode cX11_signOfStraight 90 = .ok (.lload 4, 2) := by decide +kernel
theorem dX11_signOfStraight_92 : decode cX11_signOfStraight 92 = .ok (.aload_n 0, 1) := by decide +kernel
theorem dX11_signOfStraight_93 : decode cX11_signOfStraight 93 = .ok (.getfield 38, 3) := by decide +kernel
theorem dX11_signOfStraight_96 : decode cX11_signOfStraight 96 = .ok (.getfield 190, 3) := by decide +kernel
theorem dX11_signOfStraight_99 : decode cX11_signOfStraight 99 = .ok (.lneg, 1) := by decide +kernel
theorem dX11_signOfStraight_100 : decode cX11_signOfStraight 100 = .ok (.lcmp, 1) := by decide +kernel
theorem dX11_signOfStraight_101 : decode cX11_signOfStraight 101 = .ok (.ifCond .ne 5, 3) := by decide +kernel
theorem dX11_signOfStraight_104 : decode cX11_signOfStraight 104 = .ok (.iload_n 1, 1) := by decide +kernel
theorem dX11_signOfStraight_105 : decode cX11_signOfStraight 105 = .ok (.ireturn, 1) := by decide +kernel
theorem dX11_signOfStraight_106 : decode cX11_signOfStraight 106 = .ok (.iinc 1 (-2), 3) := by decide +kernel
theorem dX11_signOfStraight_109 : decode cX11_signOfStraight 109 = .ok (.goto (-107), 3) := by decide +kernel
theorem dX11_signOfStraight_112 : decode cX11_signOfStraight 112 = .ok (.iconst 0, 1) := by decide +kernel
theorem dX11_signOfStraight_113 : decode cX11_signOfStraight 113 = .ok (.ireturn, 1) := by decide +kernel
theorem dX11_straightOn_0 : decode cX11_straightOn 0 = .ok (.lload_n 0, 1) := by decide +kernel
theorem dX11_straightOn_1 : decode cX11_straightOn 1 = .ok (.iload 4, 2) := by decide +kernel
theorem dX11_straightOn_3 : decode cX11_straightOn 3 = .ok (.i2l, 1) := by decide +kernel
theorem dX11_straightOn_4 : decode cX11_straightOn 4 = .ok (.lload_n 2, 1) := by decide +kernel
theorem dX11_straightOn_5 : decode cX11_straightOn 5 = .ok (.lload_n 0, 1) := by decide +kernel
theorem dX11_straightOn_6 : decode cX11_straightOn 6 = .ok (.lsub, 1) := by decide +kernel
theorem dX11_straightOn_7 : decode cX11_straightOn 7 = .ok (.lmul, 1) := by decide +kernel
theorem dX11_straightOn_8 : decode cX11_straightOn 8 = .ok (.ladd, 1) := by decide +kernel
theorem dX11_straightOn_9 : decode cX11_straightOn 9 = .ok (.lreturn, 1) := by decide +kernel
theorem dX11_noForgotten_0 : decode cX11_noForgotten 0 = .ok (.aload_n 0, 1) := by decide +kernel
theorem dX11_noForgotten_1 : decode cX11_noForgotten 1 = .ok (.iload_n 1, 1) := by decide +kernel
theorem dX11_noForgotten_2 : decode cX11_noForgotten 2 = .ok (.invokevirtual 66, 3) := by decide +kernel
theorem dX11_noForgotten_5 : decode cX11_noForgotten 5 = .ok (.astore_n 3, 1) := by decide +kernel
theorem dX11_noForgotten_6 : decode cX11_noForgotten 6 = .ok (.aload_n 3, 1) := by decide +kernel
theorem dX11_noForgotten_7 : decode cX11_noForgotten 7 = .ok (.ifnull 9, 3) := by decide +kernel
theorem dX11_noForgotten_10 : decode cX11_noForgotten 10 = .ok (.iload_n 2, 1) := by decide +kernel
theorem dX11_noForgotten_11 : decode cX11_noForgotten 11 = .ok (.bipush 40, 2) := by decide +kernel
theorem dX11_noForgotten_13 : decode cX11_noForgotten 13 = .ok (.if_icmp .le 6, 3) := by decide +kernel
theorem dX11_noForgotten_16 : decode cX11_noForgotten 16 = .ok (.bipush 6, 2) := by decide +kernel
theorem dX11_noForgotten_18 : decode cX11_noForgotten 18 = .ok (.ireturn, 1) := by decide +kernel
theorem dX11_noForgotten_19 : decode cX11_noForgotten 19 = .ok (.iconst 0, 1) := by decide +kernel
theorem dX11_noForgotten_20 : decode cX11_noForgotten 20 = .ok (.istore 4, 2) := by decide +kernel
theorem dX11_noForgotten_22 : decode cX11_noForgotten 22 = .ok (.iconst 0, 1) := by decide +kernel
theorem dX11_noForgotten_23 : decode cX11_noForgotten 23 = .ok (.istore 5, 2) := by decide +kernel
theorem dX11_noForgotten_25 : decode cX11_noForgotten 25 = .ok (.iload 5, 2) := by decide +kernel
theorem dX11_noForgotten_27 : decode cX11_noForgotten 27 = .ok (.iload_n 2, 1) := by decide +kernel
theorem dX11_noForgotten_28 : decode cX11_noForgotten 28 = .ok (.if_icmp .ge 40, 3) := by decide +kernel
theorem dX11_noForgotten_31 : decode cX11_noForgotten 31 = .ok (.aload_n 3, 1) := by decide +kernel
theorem dX11_noForgotten_32 : decode cX11_noForgotten 32 = .ok (.iload 5, 2) := by decide +kernel
theorem dX11_noForgotten_34 : decode cX11_noForgotten 34 = .ok (.invokevirtual 398, 3) := by decide +kernel
theorem dX11_noForgotten_37 : decode cX11_noForgotten 37 = .ok (.istore 6, 2) := by decide +kernel
theorem dX11_noForgotten_39 : decode cX11_noForgotten 39 = .ok (.iload 6, 2) := by decide +kernel
theorem dX11_noForgotten_41 : decode cX11_noForgotten 41 = .ok (.ifCond .lt 9, 3) := by decide +kernel
theorem dX11_noForgotten_44 : decode cX11_noForgotten 44 = .ok (.iload 6, 2) := by decide +kernel
theorem dX11_noForgotten_46 : decode cX11_noForgotten 46 = .ok (.iconst 3, 1) := by decide +kernel
theorem dX11_noForgotten_47 : decode cX11_noForgotten 47 = .ok (.if_icmp .le 6, 3) := by decide +kernel
theorem dX11_noForgotten_50 : decode cX11_noForgotten 50 = .ok (.bipush 6, 2) := by decide +kernel
theorem dX11_noForgotten_52 : decode cX11_noForgotten 52 = .ok (.ireturn, 1) := by decide +kernel
theorem dX11_noForgotten_53 : decode cX11_noForgotten 53 = .ok (.iload 6, 2) := by decide +kernel
theorem dX11_noForgotten_55 : decode cX11_noForgotten 55 = .ok (.iconst 3, 1) := by decide +kernel
theorem dX11_noForgotten_56 : decode cX11_noForgotten 56 = .ok (.if_icmp .ne 6, 3) := by decide +kernel
theorem dX11_noForgotten_59 : decode cX11_noForgotten 59 = .ok (.iinc 4 1, 3) := by decide +kernel
theorem dX11_noForgotten_62 : decode cX11_noForgotten 62 = .ok (.iinc 5 1, 3) := by decide +kernel
theorem dX11_noForgotten_65 : decode cX11_noForgotten 65 = .ok (.goto (-40), 3) := by decide +kernel
theorem dX11_noForgotten_68 : decode cX11_noForgotten 68 = .ok (.iload 4, 2) := by decide +kernel
theorem dX11_noForgotten_70 : decode cX11_noForgotten 70 = .ok (.bipush 7, 2) := by decide +kernel
theorem dX11_noForgotten_72 : decode cX11_noForgotten 72 = .ok (.if_icmp .le 8, 3) := by decide +kernel
theorem dX11_noForgotten_75 : decode cX11_noForgotten 75 = .ok (.bipush 7, 2) := by decide +kernel
theorem dX11_noForgotten_77 : decode cX11_noForgotten 77 = .ok (.goto 4, 3) := by decide +kernel
theorem dX11_noForgotten_80 : decode cX11_noForgotten 80 = .ok (.iconst 0, 1) := by decide +kernel
theorem dX11_noForgotten_81 : decode cX11_noForgotten 81 = .ok (.ireturn, 1) := by decide +kernel
theorem dX11_forget_0 : decode cX11_forget 0 = .ok (.aload_n 0, 1) := by decide +kernel
theorem dX11_forget_1 : decode cX11_forget 1 = .ok (.iload_n 1, 1) := by decide +kernel
theorem dX11_forget_2 : decode cX11_forget 2 = .ok (.invokevirtual 66, 3) := by decide +kernel
theorem dX11_forget_5 : decode cX11_forget 5 = .ok (.astore_n 3, 1) := by decide +kernel
theorem dX11_forget_6 : decode cX11_forget 6 = .ok (.aload_n 0, 1) := by decide +kernel
theorem dX11_forget_7 : decode cX11_forget 7 = .ok (.getfield 54, 3) := by decide +kernel
theorem dX11_forget_10 : decode cX11_forget 10 = .ok (.astore 4, 2) := by decide +kernel
theorem dX11_forget_12 : decode cX11_forget 12 = .ok (.aload_n 0, 1) := by decide +kernel
theorem dX11_forget_13 : decode cX11_forget 13 = .ok (.getfield 58, 3) := by decide +kernel
theorem dX11_forget_16 : decode cX11_forget 16 = .ok (.astore 5, 2) := by decide +kernel
theorem dX11_forget_18 : decode cX11_forget 18 = .ok (.aload 4, 2) := by decide +kernel
theorem dX11_forget_20 : decode cX11_forget 20 = .ok (.aload_n 0, 1) := by decide +kernel
theorem dX11_forget_21 : decode cX11_forget 21 = .ok (.getfield 31, 3) := by decide +kernel
theorem dX11_forget_24 : decode cX11_forget 24 = .ok (.invokevirtual 415, 3) := by decide +kernel
theorem dX11_forget_27 : decode cX11_forget 27 = .ok (.iconst 0, 1) := by decide +kernel
theorem dX11_forget_28 : decode cX11_forget 28 = .ok (.istore 6, 2) := by decide +kernel
theorem dX11_forget_30 : decode cX11_forget 30 = .ok (.aload_n 3, 1) := by decide +kernel
theorem dX11_forget_31 : decode cX11_forget 31 = .ok (.ifnull 89, 3) := by decide +kernel
theorem dX11_forget_34 : decode cX11_forget 34 = .ok (.iload 6, 2) := by decide +kernel
theorem dX11_forget_36 : decode cX11_forget 36 = .ok (.iload_n 2, 1) := by decide +kernel
theorem dX11_forget_37 : decode cX11_forget 37 = .ok (.if_icmp .ge 83, 3) := by decide +kernel
theorem dX11_forget_40 : decode cX11_forget 40 = .ok (.aload_n 3, 1) := by decide +kernel
theorem dX11_forget_41 : decode cX11_forget 41 = .ok (.iload 6, 2) := by decide +kernel
theorem dX11_forget_43 : decode cX11_forget 43 = .ok (.invokevirtual 398, 3) := by decide +kernel
theorem dX11_forget_46 : decode cX11_forget 46 = .ok (.istore 7, 2) := by decide +kernel
theorem dX11_forget_48 : decode cX11_forget 48 = .ok (.aload 5, 2) := by decide +kernel
theorem dX11_forget_50 : decode cX11_forget 50 = .ok (.invokevirtual 418, 3) := by decide +kernel
theorem dX11_forget_53 : decode cX11_forget 53 = .ok (.aload 5, 2) := by decide +kernel
theorem dX11_forget_55 : decode cX11_forget 55 = .ok (.aload 4, 2) := by decide +kernel
theorem dX11_forget_57 : decode cX11_forget 57 = .ok (.iload 7, 2) := by decide +kernel
theorem dX11_forget_59 : decode cX11_forget 59 = .ok (.iconst 3, 1) := by decide +kernel
theorem dX11_forget_60 : decode cX11_forget 60 = .ok (.if_icmp .ne 7, 3) := by decide +kernel
theorem dX11_forget_63 : decode cX11_forget 63 = .ok (.iconst 0, 1) := by decide +kernel
theorem dX11_forget_64 : decode cX11_forget 64 = .ok (.goto 5, 3) := by decide +kernel
theorem dX11_forget_67 : decode cX11_forget 67 = .ok (.iload 7, 2) := by decide +kernel
theorem dX11_forget_69 : decode cX11_forget 69 = .ok (.ldc2_w 348, 3) := by decide +kernel
theorem dX11_forget_72 : decode cX11_forget 72 = .ok (.invokevirtual 421, 3) := by decide +kernel
theorem dX11_forget_75 : decode cX11_forget 75 = .ok (.iload 7, 2) := by decide +kernel
theorem dX11_forget_77 : decode cX11_forget 77 = .ok (.iconst 3, 1) := by decide +kernel
theorem dX11_forget_78 : decode cX11_forget 78 = .ok (.if_icmp .ne 14, 3) := by decide +kernel
theorem dX11_forget_81 : decode cX11_forget 81 = .ok (.aload 5, 2) := by decide +kernel
theorem dX11_forget_83 : decode cX11_forget 83 = .ok (.aload 4, 2) := by decide +kernel
theorem dX11_forget_85 : decode cX11_forget 85 = .ok (.iconst 1, 1) := by decide +kernel
theorem dX11_forget_86 : decode cX11_forget 86 = .ok (.ldc2_w 348, 3) := by decide +kernel
theorem dX11_forget_89 : decode cX11_forget 89 = .ok (.invokevirtual 421, 3) := by decide +kernel
theorem dX11_forget_92 : decode cX11_forget 92 = .ok (.aload 5, 2) := by decide +kernel
theorem dX11_forget_94 : decode cX11_forget 94 = .ok (.getfield 425, 3) := by decide +kernel
theorem dX11_forget_97 : decode cX11_forget 97 = .ok (.ifCond .eq 5, 3) := by decide +kernel
theorem dX11_forget_100 : decode cX11_forget 100 = .ok (.aconst_null, 1) := by decide +kernel
theorem dX11_forget_101 : decode cX11_forget 101 = .ok (.areturn, 1) := by decide +kernel
theorem dX11_forget_102 : decode cX11_forget 102 = .ok (.aload 4, 2) := by decide +kernel
theorem dX11_forget_104 : decode cX11_forget 104 = .ok (.astore 8, 2) := by decide +kernel
theorem dX11_forget_106 : decode cX11_forget 106 = .ok (.aload 5, 2) := by decide +kernel
theorem dX11_forget_108 : decode cX11_forget 108 = .ok (.astore 4, 2) := by decide +kernel
theorem dX11_forget_110 : decode cX11_forget 110 = .ok (.aload 8, 2) := by decide +kernel
theorem dX11_forget_112 : decode cX11_forget 112 = .ok (.astore 5, 2) := by decide +kernel
theorem dX11_forget_114 : decode cX11_forget 114 = .ok (.iinc 6 1, 3) := by decide +kernel
theorem dX11_forget_117 : decode cX11_forget 117 = .ok (.goto (-87), 3) := by decide +kernel
theorem dX11_forget_120 : decode cX11_forget 120 = .ok (.aload 4, 2) := by decide +kernel
theorem dX11_forget_122 : decode cX11_forget 122 = .ok (.areturn, 1) := by decide +kernel
theorem dX11_rowsOf_0 : decode cX11_rowsOf 0 = .ok (.aload_n 0, 1) := by decide +kernel
theorem dX11_rowsOf_1 : decode cX11_rowsOf 1 = .ok (.getfield 54, 3) := by decide +kernel
theorem dX11_rowsOf_4 : decode cX11_rowsOf 4 = .ok (.astore 4, 2) := by decide +kernel
theorem dX11_rowsOf_6 : decode cX11_rowsOf 6 = .ok (.aload_n 0, 1) := by decide +kernel
theorem dX11_rowsOf_7 : decode cX11_rowsOf 7 = .ok (.getfield 58, 3) := by decide +kernel
theorem dX11_rowsOf_10 : decode cX11_rowsOf 10 = .ok (.astore 5, 2) := by decide +kernel
theorem dX11_rowsOf_12 : decode cX11_rowsOf 12 = .ok (.aload 4, 2) := by decide +kernel
theorem dX11_rowsOf_14 : decode cX11_rowsOf 14 = .ok (.aload_n 0, 1) := by decide +kernel
theorem dX11_rowsOf_15 : decode cX11_rowsOf 15 = .ok (.getfield 31, 3) := by decide +kernel
theorem dX11_rowsOf_18 : decode cX11_rowsOf 18 = .ok (.invokevirtual 415, 3) := by decide +kernel
theorem dX11_rowsOf_21 : decode cX11_rowsOf 21 = .ok (.iconst 0, 1) := by decide +kernel
theorem dX11_rowsOf_22 : decode cX11_rowsOf 22 = .ok (.istore 6, 2) := by decide +kernel
theorem dX11_rowsOf_24 : decode cX11_rowsOf 24 = .ok (.iload 6, 2) := by decide +kernel
theorem dX11_rowsOf_26 : decode cX11_rowsOf 26 = .ok (.iload_n 1, 1) := by decide +kernel
theorem dX11_rowsOf_27 : decode cX11_rowsOf 27 = .ok (.if_icmp .ge 51, 3) := by decide +kernel
theorem dX11_rowsOf_30 : decode cX11_rowsOf 30 = .ok (.aload 5, 2) := by decide +kernel
theorem dX11_rowsOf_32 : decode cX11_rowsOf 32 = .ok (.invokevirtual 418, 3) := by decide +kernel
theorem dX11_rowsOf_35 : decode cX11_rowsOf 35 = .ok (.iconst 0, 1) := by decide +kernel
theorem dX11_rowsOf_36 : decode cX11_rowsOf 36 = .ok (.istore 7, 2) := by decide +kernel
theorem dX11_rowsOf_38 : decode cX11_rowsOf 38 = .ok (.iload 7, 2) := by decide +kernel
theorem dX11_rowsOf_40 : decode cX11_rowsOf 40 = .ok (.iconst 2, 1) := by decide +kernel
theorem dX11_rowsOf_41 : decode cX11_rowsOf 41 = .ok (.if_icmp .gt 19, 3) := by decide +kernel
theorem dX11_rowsOf_44 : decode cX11_rowsOf 44 = .ok (.aload 5, 2) := by decide +kernel
theorem dX11_rowsOf_46 : decode cX11_rowsOf 46 = .ok (.aload 4, 2) := by decide +kernel
theorem dX11_rowsOf_48 : decode cX11_rowsOf 48 = .ok (.iload 7, 2) := by decide +kernel
theorem dX11_rowsOf_50 : decode cX11_rowsOf 50 = .ok (.lload_n 2, 1) := by decide +kernel
theorem dX11_rowsOf_51 : decode cX11_rowsOf 51 = .ok (.invokevirtual 421, 3) := by decide +kernel
theorem dX11_rowsOf_54 : decode cX11_rowsOf 54 = .ok (.iinc 7 1, 3) := by decide +kernel
theorem dX11_rowsOf_57 : decode cX11_rowsOf 57 = .ok (.goto (-19), 3) := by decide +kernel
theorem dX11_rowsOf_60 : decode cX11_rowsOf 60 = .ok (.aload 4, 2) := by decide +kernel
theorem dX11_rowsOf_62 : decode cX11_rowsOf 62 = .ok (.astore 7, 2) := by decide +kernel
theorem dX11_rowsOf_64 : decode cX11_rowsOf 64 = .ok (.aload 5, 2) := by decide +kernel
theorem dX11_rowsOf_66 : decode cX11_rowsOf 66 = .ok (.astore 4, 2) := by decide +kernel
theorem dX11_rowsOf_68 : decode cX11_rowsOf 68 = .ok (.aload 7, 2) := by decide +kernel
theorem dX11_rowsOf_70 : decode cX11_rowsOf 70 = .ok (.astore 5, 2) := by decide +kernel
theorem dX11_rowsOf_72 : decode cX11_rowsOf 72 = .ok (.iinc 6 1, 3) := by decide +kernel
theorem dX11_rowsOf_75 : decode cX11_rowsOf 75 = .ok (.goto (-51), 3) := by decide +kernel
theorem dX11_rowsOf_78 : decode cX11_rowsOf 78 = .ok (.aload 4, 2) := by decide +kernel
theorem dX11_rowsOf_80 : decode cX11_rowsOf 80 = .ok (.areturn, 1) := by decide +kernel
theorem dX11_readItems_0 : decode cX11_readItems 0 = .ok (.iconst 1, 1) := by decide +kernel
theorem dX11_readItems_1 : decode cX11_readItems 1 = .ok (.istore_n 2, 1) := by decide +kernel
theorem dX11_readItems_2 : decode cX11_readItems 2 = .ok (.iload_n 2, 1) := by decide +kernel
theorem dX11_readItems_3 : decode cX11_readItems 3 = .ok (.sipush 160, 3) := by decide +kernel
theorem dX11_readItems_6 : decode cX11_readItems 6 = .ok (.if_icmp .gt 39, 3) := by decide +kernel
theorem dX11_readItems_9 : decode cX11_readItems 9 = .ok (.aload_n 0, 1) := by decide +kernel
theorem dX11_readItems_10 : decode cX11_readItems 10 = .ok (.aload_n 1, 1) := by decide +kernel
theorem dX11_readItems_11 : decode cX11_readItems 11 = .ok (.invokevirtual 428, 3) := by decide +kernel
theorem dX11_readItems_14 : decode cX11_readItems 14 = .ok (.ifCond .ne 5, 3) := by decide +kernel
theorem dX11_readItems_17 : decode cX11_readItems 17 = .ok (.iconst (-1), 1) := by decide +kernel
theorem dX11_readItems_18 : decode cX11_readItems 18 = .ok (.ireturn, 1) := by decide +kernel
theorem dX11_readItems_19 : decode cX11_readItems 19 = .ok (.aload_n 1, 1) := by decide +kernel
theorem dX11_readItems_20 : decode cX11_readItems 20 = .ok (.invokevirtual 432, 3) := by decide +kernel
theorem dX11_readItems_23 : decode cX11_readItems 23 = .ok (.ifCond .eq 5, 3) := by decide +kernel
theorem dX11_readItems_26 : decode cX11_readItems 26 = .ok (.iload_n 2, 1) := by decide +kernel
theorem dX11_readItems_27 : decode cX11_readItems 27 = .ok (.ireturn, 1) := by decide +kernel
theorem dX11_readItems_28 : decode cX11_readItems 28 = .ok (.aload_n 1, 1) := by decide +kernel
theorem dX11_readItems_29 : decode cX11_readItems 29 = .ok (.bipush 59, 2) := by decide +kernel
theorem dX11_readItems_31 : decode cX11_readItems 31 = .ok (.invokevirtual 435, 3) := by decide +kernel
theorem dX11_readItems_34 : decode cX11_readItems 34 = .ok (.ifCond .ne 5, 3) := by decide +kernel
theorem dX11_readItems_37 : decode cX11_readItems 37 = .ok (.iconst (-1), 1) := by decide +kernel
theorem dX11_readItems_38 : decode cX11_readItems 38 = .ok (.ireturn, 1) := by decide +kernel
theorem dX11_readItems_39 : decode cX11_readItems 39 = .ok (.iinc 2 1, 3) := by decide +kernel
theorem dX11_readItems_42 : decode cX11_readItems 42 = .ok (.goto (-40), 3) := by decide +kernel
theorem dX11_readItems_45 : decode cX11_readItems 45 = .ok (.iconst (-1), 1) := by decide +kernel
theorem dX11_readItems_46 : decode cX11_readItems 46 = .ok (.ireturn, 1) := by decide +kernel
theorem dX11_readItem_0 : decode cX11_readItem 0 = .ok (.aload_n 1, 1) := by decide +kernel
theorem dX11_readItem_1 : decode cX11_readItem 1 = .ok (.getfield 439, 3) := by decide +kernel
theorem dX11_readItem_4 : decode cX11_readItem 4 = .ok (.istore_n 2, 1) := by decide +kernel
theorem dX11_readItem_5 : decode cX11_readItem 5 = .ok (.aload_n 1, 1) := by decide +kernel
theorem dX11_readItem_6 : decode cX11_readItem 6 = .ok (.iload_n 2, 1) := by decide +kernel
theorem dX11_readItem_7 : decode cX11_readItem 7 = .ok (.invokevirtual 398, 3) := by decide +kernel
theorem dX11_readItem_10 : decode cX11_readItem 10 = .ok (.lookupswitch 131 #[(99, 83), (102, 34), (115, 107)], 34) := by decide +kernel
theorem dX11_readItem_44 : decode cX11_readItem 44 = .ok (.aload_n 1, 1) := by decide +kernel
theorem dX11_readItem_45 : decode cX11_readItem 45 = .ok (.ldc_w 442, 3) := by decide +kernel
theorem dX11_readItem_48 : decode cX11_readItem 48 = .ok (.invokevirtual 443, 3) := by decide +kernel
theorem dX11_readItem_51 : decode cX11_readItem 51 = .ok (.ifCond .eq 40, 3) := by decide +kernel
theorem dX11_readItem_54 : decode cX11_readItem 54 = .ok (.aload_n 1, 1) := by decide +kernel
theorem dX11_readItem_55 : decode cX11_readItem 55 = .ok (.iload_n 2, 1) := by decide +kernel
theorem dX11_readItem_56 : decode cX11_readItem 56 = .ok (.aload_n 0, 1) := by decide +kernel
theorem dX11_readItem_57 : decode cX11_readItem 57 = .ok (.getfield 38, 3) := by decide +kernel
theorem dX11_readItem_60 : decode cX11_readItem 60 = .ok (.getfield 151, 3) := by decide +kernel
theorem dX11_readItem_63 : decode cX11_readItem 63 = .ok (.bipush 8, 2) := by decide +kernel
theorem dX11_readItem_65 : decode cX11_readItem 65 = .ok (.if_icmp .ge 7, 3) := by decide +kernel
theorem dX11_readItem_68 : decode cX11_readItem 68 = .ok (.iconst 1, 1) := by decide +kernel
theorem dX11_readItem_69 : decode cX11_readItem 69 = .ok (.goto 4, 3) := by decide +kernel
theorem dX11_readItem_72 : decode cX11_readItem 72 = .ok (.iconst 0, 1) := by decide +kernel
theorem dX11_readItem_73 : decode cX11_readItem 73 = .ok (.invokevirtual 447, 3) := by decide +kernel
theorem dX11_readItem_76 : decode cX11_readItem 76 = .ok (.ifCond .eq 15, 3) := by decide +kernel
theorem dX11_readItem_79 : decode cX11_readItem 79 = .ok (.aload_n 0, 1) := by decide +kernel
theorem dX11_readItem_80 : decode cX11_readItem 80 = .ok (.aload_n 1, 1) := by decide +kernel
theorem dX11_readItem_81 : decode cX11_readItem 81 = .ok (.invokevirtual 451, 3) := by decide +kernel
theorem dX11_readItem_84 : decode cX11_readItem 84 = .ok (.ifCond .eq 7, 3) := by decide +kernel
theorem dX11_readItem_87 : decode cX11_readItem 87 = .ok (.iconst 1, 1) := by decide +kernel
theorem dX11_readItem_88 : decode cX11_readItem 88 = .ok (.goto 4, 3) := by decide +kernel
theorem dX11_readItem_91 : decode cX11_readItem 91 = .ok (.iconst 0, 1) := by decide +kernel
theorem dX11_readItem_92 : decode cX11_readItem 92 = .ok (.ireturn, 1) := by decide +kernel
theorem dX11_readItem_93 : decode cX11_readItem 93 = .ok (.aload_n 1, 1) := by decide +kernel
theorem dX11_readItem_94 : decode cX11_readItem 94 = .ok (.ldc_w 454, 3) := by decide +kernel
theorem dX11_readItem_97 : decode cX11_readItem 97 = .ok (.invokevirtual 443, 3) := by decide +kernel
theorem dX11_readItem_100 : decode cX11_readItem 100 = .ok (.ifCond .eq 15, 3) := by decide +kernel
theorem dX11_readItem_103 : decode cX11_readItem 103 = .ok (.aload_n 0, 1) := by decide +kernel
theorem dX11_readItem_104 : decode cX11_readItem 104 = .ok (.aload_n 1, 1) := by decide +kernel
theorem dX11_readItem_105 : decode cX11_readItem 105 = .ok (.invokevirtual 456, 3) := by decide +kernel
theorem dX11_readItem_108 : decode cX11_readItem 108 = .ok (.ifCond .eq 7, 3) := by decide +kernel
theorem dX11_readItem_111 : decode cX11_readItem 111 = .ok (.iconst 1, 1) := by decide +kernel
theorem dX11_readItem_112 : decode cX11_readItem 112 = .ok (.goto 4, 3) := by decide +kernel
theorem dX11_readItem_115 : decode cX11_readItem 115 = .ok (.iconst 0, 1) := by decide +kernel
theorem dX11_readItem_116 : decode cX11_readItem 116 = .ok (.ireturn, 1) := by decide +kernel
theorem dX11_readItem_117 : decode cX11_readItem 117 = .ok (.aload_n 1, 1) := by decide +kernel
theorem dX11_readItem_118 : decode cX11_readItem 118 = .ok (.ldc_w 459, 3) := by decide +kernel
theorem dX11_readItem_121 : decode cX11_readItem 121 = .ok (.invokevirtual 443, 3) := by decide +kernel
theorem dX11_readItem_124 : decode cX11_readItem 124 = .ok (.ifCond .eq 15, 3) := by decide +kernel
theorem dX11_readItem_127 : decode cX11_readItem 127 = .ok (.aload_n 0, 1) := by decide +kernel
theorem dX11_readItem_128 : decode cX11_readItem 128 = .ok (.aload_n 1, 1) := by decide +kernel
theorem dX11_readItem_129 : decode cX11_readItem 129 = .ok (.invokevirtual 461, 3) := by decide +kernel
theorem dX11_readItem_132 : decode cX11_readItem 132 = .ok (.ifCond .eq 7, 3) := by decide +kernel
theorem dX11_readItem_135 : decode cX11_readItem 135 = .ok (.iconst 1, 1) := by decide +kernel
theorem dX11_readItem_136 : decode cX11_readItem 136 = .ok (.goto 4, 3) := by decide +kernel
theorem dX11_readItem_139 : decode cX11_readItem 139 = .ok (.iconst 0, 1) := by decide +kernel
theorem dX11_readItem_140 : decode cX11_readItem 140 = .ok (.ireturn, 1) := by decide +kernel
theorem dX11_readItem_141 : decode cX11_readItem 141 = .ok (.aload_n 1, 1) := by decide +kernel
theorem dX11_readItem_142 : decode cX11_readItem 142 = .ok (.iload_n 2, 1) := by decide +kernel
theorem dX11_readItem_143 : decode cX11_readItem 143 = .ok (.iconst 0, 1) := by decide +kernel
theorem dX11_readItem_144 : decode cX11_readItem 144 = .ok (.invokevirtual 447, 3) := by decide +kernel
theorem dX11_readItem_147 : decode cX11_readItem 147 = .ok (.ireturn, 1) := by decide +kernel
theorem dX11_readFigure_0 : decode cX11_readFigure 0 = .ok (.aload_n 1, 1) := by decide +kernel
theorem dX11_readFigure_1 : decode cX11_readFigure 1 = .ok (.invokevirtual 464, 3) := by decide +kernel
theorem dX11_readFigure_4 : decode cX11_readFigure 4 = .ok (.istore_n 2, 1) := by decide +kernel
theorem dX11_readFigure_5 : decode cX11_readFigure 5 = .ok (.iload_n 2, 1) := by decide +kernel
theorem dX11_readFigure_6 : decode cX11_readFigure 6 = .ok (.iconst (-1), 1) := by decide +kernel
theorem dX11_readFigure_7 : decode cX11_readFigure 7 = .ok (.if_icmp .eq 18, 3) := by decide +kernel
theorem dX11_readFigure_10 : decode cX11_readFigure 10 = .ok (.aload_n 1, 1) := by decide +kernel
theorem dX11_readFigure_11 : decode cX11_readFigure 11 = .ok (.aload_n 1, 1) := by decide +kernel
theorem dX11_readFigure_12 : decode cX11_readFigure 12 = .ok (.getfield 467, 3) := by decide +kernel
theorem dX11_readFigure_15 : decode cX11_readFigure 15 = .ok (.iload_n 2, 1) := by decide +kernel
theorem dX11_readFigure_16 : decode cX11_readFigure 16 = .ok (.invokestatic 129, 3) := by decide +kernel
theorem dX11_readFigure_19 : decode cX11_readFigure 19 = .ok (.invokevirtual 447, 3) := by decide +kernel
theorem dX11_readFigure_22 : decode cX11_readFigure 22 = .ok (.ifCond .ne 5, 3) := by decide +kernel
theorem dX11_readFigure_25 : decode cX11_readFigure 25 = .ok (.iconst 0, 1) := by decide +kernel
theorem dX11_readFigure_26 : decode cX11_readFigure 26 = .ok (.ireturn, 1) := by decide +kernel
theorem dX11_readFigure_27 : decode cX11_readFigure 27 = .ok (.aload_n 1, 1) := by decide +kernel
theorem dX11_readFigure_28 : decode cX11_readFigure 28 = .ok (.invokevirtual 464, 3) := by decide +kernel
theorem dX11_readFigure_31 : decode cX11_readFigure 31 = .ok (.istore_n 3, 1) := by decide +kernel
theorem dX11_readFigure_32 : decode cX11_readFigure 32 = .ok (.iload_n 3, 1) := by decide +kernel
theorem dX11_readFigure_33 : decode cX11_readFigure 33 = .ok (.iconst (-1), 1) := by decide +kernel
theorem dX11_readFigure_34 : decode cX11_readFigure 34 = .ok (.if_icmp .eq 18, 3) := by decide +kernel
theorem dX11_readFigure_37 : decode cX11_readFigure 37 = .ok (.aload_n 1, 1) := by decide +kernel
theorem dX11_readFigure_38 : decode cX11_readFigure 38 = .ok (.aload_n 1, 1) := by decide +kernel
theorem dX11_readFigure_39 : decode cX11_readFigure 39 = .ok (.getfield 467, 3) := by decide +kernel
theorem dX11_readFigure_42 : decode cX11_readFigure 42 = .ok (.iload_n 3, 1) := by decide +kernel
theorem dX11_readFigure_43 : decode cX11_readFigure 43 = .ok (.invokestatic 145, 3) := by decide +kernel
theorem dX11_readFigure_46 : decode cX11_readFigure 46 = .ok (.invokevirtual 447, 3) := by decide +kernel
theorem dX11_readFigure_49 : decode cX11_readFigure 49 = .ok (.ifCond .ne 5, 3) := by decide +kernel
theorem dX11_readFigure_52 : decode cX11_readFigure 52 = .ok (.iconst 0, 1) := by decide +kernel
theorem dX11_readFigure_53 : decode cX11_readFigure 53 = .ok (.ireturn, 1) := by decide +kernel
theorem dX11_readFigure_54 : decode cX11_readFigure 54 = .ok (.aload_n 1, 1) := by decide +kernel
theorem dX11_readFigure_55 : decode cX11_readFigure 55 = .ok (.invokevirtual 464, 3) := by decide +kernel
theorem dX11_readFigure_58 : decode cX11_readFigure 58 = .ok (.istore 4, 2) := by decide +kernel
theorem dX11_readFigure_60 : decode cX11_readFigure 60 = .ok (.iload 4, 2) := by decide +kernel
theorem dX11_readFigure_62 : decode cX11_readFigure 62 = .ok (.iconst (-1), 1) := by decide +kernel
theorem dX11_readFigure_63 : decode cX11_readFigure 63 = .ok (.if_icmp .eq 19, 3) := by decide +kernel
theorem dX11_readFigure_66 : decode cX11_readFigure 66 = .ok (.aload_n 1, 1) := by decide +kernel
theorem dX11_readFigure_67 : decode cX11_readFigure 67 = .ok (.aload_n 1, 1) := by decide +kernel
theorem dX11_readFigure_68 : decode cX11_readFigure 68 = .ok (.getfield 467, 3) := by decide +kernel
theorem dX11_readFigure_71 : decode cX11_readFigure 71 = .ok (.iload 4, 2) := by decide +kernel
theorem dX11_readFigure_73 : decode cX11_readFigure 73 = .ok (.invokestatic 148, 3) := by decide +kernel
theorem dX11_readFigure_76 : decode cX11_readFigure 76 = .ok (.invokevirtual 447, 3) := by decide +kernel
theorem dX11_readFigure_79 : decode cX11_readFigure 79 = .ok (.ifCond .ne 5, 3) := by decide +kernel
theorem dX11_readFigure_82 : decode cX11_readFigure 82 = .ok (.iconst 0, 1) := by decide +kernel
theorem dX11_readFigure_83 : decode cX11_readFigure 83 = .ok (.ireturn, 1) := by decide +kernel
theorem dX11_readFigure_84 : decode cX11_readFigure 84 = .ok (.aload_n 0, 1) := by decide +kernel
theorem dX11_readFigure_85 : decode cX11_readFigure 85 = .ok (.aload_n 0, 1) := by decide +kernel
theorem dX11_readFigure_86 : decode cX11_readFigure 86 = .ok (.getfield 38, 3) := by decide +kernel
theorem dX11_readFigure_89 : decode cX11_readFigure 89 = .ok (.iload_n 2, 1) := by decide +kernel
theorem dX11_readFigure_90 : decode cX11_readFigure 90 = .ok (.iload_n 3, 1) := by decide +kernel
theorem dX11_readFigure_91 : decode cX11_readFigure 91 = .ok (.iload 4, 2) := by decide +kernel
theorem dX11_readFigure_93 : decode cX11_readFigure 93 = .ok (.invokevirtual 154, 3) := by decide +kernel
theorem dX11_readFigure_96 : decode cX11_readFigure 96 = .ok (.iconst 1, 1) := by decide +kernel
theorem dX11_readFigure_97 : decode cX11_readFigure 97 = .ok (.ireturn, 1) := by decide +kernel
theorem dX11_readCall_0 : decode cX11_readCall 0 = .ok (.aload_n 1, 1) := by decide +kernel
theorem dX11_readCall_1 : decode cX11_readCall 1 = .ok (.invokevirtual 464, 3) := by decide +kernel
theorem dX11_readCall_4 : decode cX11_readCall 4 = .ok (.istore_n 2, 1) := by decide +kernel
theorem dX11_readCall_5 : decode cX11_readCall 5 = .ok (.iload_n 2, 1) := by decide +kernel
theorem dX11_readCall_6 : decode cX11_readCall 6 = .ok (.iconst (-1), 1) := by decide +kernel
theorem dX11_readCall_7 : decode cX11_readCall 7 = .ok (.if_icmp .eq 34, 3) := by decide +kernel
theorem dX11_readCall_10 : decode cX11_readCall 10 = .ok (.aload_n 1, 1) := by decide +kernel
theorem dX11_readCall_11 : decode cX11_readCall 11 = .ok (.aload_n 1, 1) := by decide +kernel
theorem dX11_readCall_12 : decode cX11_readCall 12 = .ok (.getfield 467, 3) := by decide +kernel
theorem dX11_readCall_15 : decode cX11_readCall 15 = .ok (.aload_n 0, 1) := by decide +kernel
theorem dX11_readCall_16 : decode cX11_readCall 16 = .ok (.getfield 38, 3) := by decide +kernel
theorem dX11_readCall_19 : decode cX11_readCall 19 = .ok (.aload_n 0, 1) := by decide +kernel
theorem dX11_readCall_20 : decode cX11_readCall 20 = .ok (.aload_n 0, 1) := by decide +kernel
theorem dX11_readCall_21 : decode cX11_readCall 21 = .ok (.getfield 38, 3) := by decide +kernel
theorem dX11_readCall_24 : decode cX11_readCall 24 = .ok (.iload_n 2, 1) := by decide +kernel
theorem dX11_readCall_25 : decode cX11_readCall 25 = .ok (.invokevirtual 114, 3) := by decide +kernel
theorem dX11_readCall_28 : decode cX11_readCall 28 = .ok (.invokevirtual 196, 3) := by decide +kernel
theorem dX11_readCall_31 : decode cX11_readCall 31 = .ok (.invokevirtual 447, 3) := by decide +kernel
theorem dX11_readCall_34 : decode cX11_readCall 34 = .ok (.ifCond .eq 7, 3) := by decide +kernel
theorem dX11_readCall_37 : decode cX11_readCall 37 = .ok (.iconst 1, 1) := by decide +kernel
theorem dX11_readCall_38 : decode cX11_readCall 38 = .ok (.goto 4, 3) := by decide +kernel
theorem dX11_readCall_41 : decode cX11_readCall 41 = .ok (.iconst 0, 1) := by decide +kernel
theorem dX11_readCall_42 : decode cX11_readCall 42 = .ok (.ireturn, 1) := by decide +kernel
theorem dX11_readStart_0 : decode cX11_readStart 0 = .ok (.aload_n 1, 1) := by decide +kernel
theorem dX11_readStart_1 : decode cX11_readStart 1 = .ok (.invokevirtual 464, 3) := by decide +kernel
theorem dX11_readStart_4 : decode cX11_readStart 4 = .ok (.istore_n 2, 1) := by decide +kernel
theorem dX11_readStart_5 : decode cX11_readStart 5 = .ok (.iload_n 2, 1) := by decide +kernel
theorem dX11_readStart_6 : decode cX11_readStart 6 = .ok (.iconst (-1), 1) := by decide +kernel
theorem dX11_readStart_7 : decode cX11_readStart 7 = .ok (.if_icmp .ne 7, 3) := by decide +kernel
theorem dX11_readStart_10 : decode cX11_readStart 10 = .ok (.iconst (-1), 1) := by decide +kernel
theorem dX11_readStart_11 : decode cX11_readStart 11 = .ok (.goto 7, 3) := by decide +kernel
theorem dX11_readStart_14 : decode cX11_readStart 14 = .ok (.aload_n 1, 1) := by decide +kernel
theorem dX11_readStart_15 : decode cX11_readStart 15 = .ok (.invokevirtual 464, 3) := by decide +kernel
theorem dX11_readStart_18 : decode cX11_readStart 18 = .ok (.istore_n 3, 1) := by decide +kernel
theorem dX11_readStart_19 : decode cX11_readStart 19 = .ok (.iload_n 3, 1) := by decide +kernel
theorem dX11_readStart_20 : decode cX11_readStart 20 = .ok (.iconst (-1), 1) := by decide +kernel
theorem dX11_readStart_21 : decode cX11_readStart 21 = .ok (.if_icmp .eq 21, 3) := by decide +kernel
theorem dX11_readStart_24 : decode cX11_readStart 24 = .ok (.aload_n 1, 1) := by decide +kernel
theorem dX11_readStart_25 : decode cX11_readStart 25 = .ok (.aload_n 1, 1) := by decide +kernel
theorem dX11_readStart_26 : decode cX11_readStart 26 = .ok (.getfield 467, 3) := by decide +kernel
theorem dX11_readStart_29 : decode cX11_readStart 29 = .ok (.iload_n 2, 1) := by decide +kernel
theorem dX11_readStart_30 : decode cX11_readStart 30 = .ok (.i2l, 1) := by decide +kernel
theorem dX11_readStart_31 : decode cX11_readStart 31 = .ok (.iload_n 3, 1) := by decide +kernel
theorem dX11_readStart_32 : decode cX11_readStart 32 = .ok (.i2l, 1) := by decide +kernel
theorem dX11_readStart_33 : decode cX11_readStart 33 = .ok (.invokestatic 161, 3) := by decide +kernel
theorem dX11_readStart_36 : decode cX11_readStart 36 = .ok (.invokevirtual 447, 3) := by decide +kernel
theorem dX11_readStart_39 : decode cX11_readStart 39 = .ok (.ifCond .ne 5, 3) := by decide +kernel
theorem dX11_readStart_42 : decode cX11_readStart 42 = .ok (.iconst 0, 1) := by decide +kernel
theorem dX11_readStart_43 : decode cX11_readStart 43 = .ok (.ireturn, 1) := by decide +kernel
theorem dX11_readStart_44 : decode cX11_readStart 44 = .ok (.aload_n 0, 1) := by decide +kernel
theorem dX11_readStart_45 : decode cX11_readStart 45 = .ok (.getfield 38, 3) := by decide +kernel
theorem dX11_readStart_48 : decode cX11_readStart 48 = .ok (.iload_n 2, 1) := by decide +kernel
theorem dX11_readStart_49 : decode cX11_readStart 49 = .ok (.i2l, 1) := by decide +kernel
theorem dX11_readStart_50 : decode cX11_readStart 50 = .ok (.iload_n 3, 1) := by decide +kernel
theorem dX11_readStart_51 : decode cX11_readStart 51 = .ok (.i2l, 1) := by decide +kernel
theorem dX11_readStart_52 : decode cX11_readStart 52 = .ok (.invokevirtual 165, 3) := by decide +kernel
theorem dX11_readStart_55 : decode cX11_readStart 55 = .ok (.iconst 1, 1) := by decide +kernel
theorem dX11_readStart_56 : decode cX11_readStart 56 = .ok (.ireturn, 1) := by decide +kernel
theorem dJ6_compare_7cf53_0 : decode cJ6_compare_7cf53 0 = .ok (.iload_n 0, 1) := by decide +kernel
theorem dJ6_compare_7cf53_1 : decode cJ6_compare_7cf53 1 = .ok (.iload_n 1, 1) := by decide +kernel
theorem dJ6_compare_7cf53_2 : decode cJ6_compare_7cf53 2 = .ok (.if_icmp .ge 7, 3) := by decide +kernel
theorem dJ6_compare_7cf53_5 : decode cJ6_compare_7cf53 5 = .ok (.iconst (-1), 1) := by decide +kernel
theorem dJ6_compare_7cf53_6 : decode cJ6_compare_7cf53 6 = .ok (.goto 13, 3) := by decide +kernel
theorem dJ6_compare_7cf53_9 : decode cJ6_compare_7cf53 9 = .ok (.iload_n 0, 1) := by decide +kernel
theorem dJ6_compare_7cf53_10 : decode cJ6_compare_7cf53 10 = .ok (.iload_n 1, 1) := by decide +kernel
theorem dJ6_compare_7cf53_11 : decode cJ6_compare_7cf53 11 = .ok (.if_icmp .ne 7, 3) := by decide +kernel
theorem dJ6_compare_7cf53_14 : decode cJ6_compare_7cf53 14 = .ok (.iconst 0, 1) := by decide +kernel
theorem dJ6_compare_7cf53_15 : decode cJ6_compare_7cf53 15 = .ok (.goto 4, 3) := by decide +kernel
theorem dJ6_compare_7cf53_18 : decode cJ6_compare_7cf53 18 = .ok (.iconst 1, 1) := by decide +kernel
theorem dJ6_compare_7cf53_19 : decode cJ6_compare_7cf53 19 = .ok (.ireturn, 1) := by decide +kernel
theorem dJ13_compare_74951_0 : decode cJ13_compare_74951 0 = .ok (.lload_n 0, 1) := by decide +kernel
theorem dJ13_compare_74951_1 : decode cJ13_compare_74951 1 = .ok (.lload_n 2, 1) := by decide +kernel
theorem dJ13_compare_74951_2 : decode cJ13_compare_74951 2 = .ok (.lcmp, 1) := by decide +kernel
theorem dJ13_compare_74951_3 : decode cJ13_compare_74951 3 = .ok (.ifCond .ge 7, 3) := by decide +kernel
theorem dJ13_compare_74951_6 : decode cJ13_compare_74951 6 = .ok (.iconst (-1), 1) := by decide +kernel
theorem dJ13_compare_74951_7 : decode cJ13_compare_74951 7 = .ok (.goto 14, 3) := by decide +kernel
theorem dJ13_compare_74951_10 : decode cJ13_compare_74951 10 = .ok (.lload_n 0, 1) := by decide +kernel
theorem dJ13_compare_74951_11 : decode cJ13_compare_74951 11 = .ok (.lload_n 2, 1) := by decide +kernel
theorem dJ13_compare_74951_12 : decode cJ13_compare_74951 12 = .ok (.lcmp, 1) := by decide +kernel
theorem dJ13_compare_74951_13 : decode cJ13_compare_74951 13 = .ok (.ifCond .ne 7, 3) := by decide +kernel
theorem dJ13_compare_74951_16 : decode cJ13_compare_74951 16 = .ok (.iconst 0, 1) := by decide +kernel
theorem dJ13_compare_74951_17 : decode cJ13_compare_74951 17 = .ok (.goto 4, 3) := by decide +kernel
theorem dJ13_compare_74951_20 : decode cJ13_compare_74951 20 = .ok (.iconst 1, 1) := by decide +kernel
theorem dJ13_compare_74951_21 : decode cJ13_compare_74951 21 = .ok (.ireturn, 1) := by decide +kernel
theorem dJ9_floorDiv_f86c9_0 : decode cJ9_floorDiv_f86c9 0 = .ok (.lload_n 0, 1) := by decide +kernel
theorem dJ9_floorDiv_f86c9_1 : decode cJ9_floorDiv_f86c9 1 = .ok (.lload_n 2, 1) := by decide +kernel
theorem dJ9_floorDiv_f86c9_2 : decode cJ9_floorDiv_f86c9 2 = .ok (.ldiv, 1) := by decide +kernel
theorem dJ9_floorDiv_f86c9_3 : decode cJ9_floorDiv_f86c9 3 = .ok (.lstore 4, 2) := by decide +kernel
theorem dJ9_floorDiv_f86c9_5 : decode cJ9_floorDiv_f86c9 5 = .ok (.lload_n 0, 1) := by decide +kernel
theorem dJ9_floorDiv_f86c9_6 : decode cJ9_floorDiv_f86c9 6 = .ok (.lload_n 2, 1) := by decide +kernel
theorem dJ9_floorDiv_f86c9_7 : decode cJ9_floorDiv_f86c9 7 = .ok (.lxor, 1) := by decide +kernel
theorem dJ9_floorDiv_f86c9_8 : decode cJ9_floorDiv_f86c9 8 = .ok (.lconst 0, 1) := by decide +kernel
theorem dJ9_floorDiv_f86c9_9 : decode cJ9_floorDiv_f86c9 9 = .ok (.lcmp, 1) := by decide +kernel
theorem dJ9_floorDiv_f86c9_10 : decode cJ9_floorDiv_f86c9 10 = .ok (.ifCond .ge 17, 3) := by decide +kernel
theorem dJ9_floorDiv_f86c9_13 : decode cJ9_floorDiv_f86c9 13 = .ok (.lload 4, 2) := by decide +kernel
theorem dJ9_floorDiv_f86c9_15 : decode cJ9_floorDiv_f86c9 15 = .ok (.lload_n 2, 1) := by decide +kernel
theorem dJ9_floorDiv_f86c9_16 : decode cJ9_floorDiv_f86c9 16 = .ok (.lmul, 1) := by decide +kernel
theorem dJ9_floorDiv_f86c9_17 : decode cJ9_floorDiv_f86c9 17 = .ok (.lload_n 0, 1) := by decide +kernel
theorem dJ9_floorDiv_f86c9_18 : decode cJ9_floorDiv_f86c9 18 = .ok (.lcmp, 1) := by decide +kernel
theorem dJ9_floorDiv_f86c9_19 : decode cJ9_floorDiv_f86c9 19 = .ok (.ifCond .eq 8, 3) := by decide +kernel
theorem dJ9_floorDiv_f86c9_22 : decode cJ9_floorDiv_f86c9 22 = .ok (.lload 4, 2) := by decide +kernel
theorem dJ9_floorDiv_f86c9_24 : decode cJ9_floorDiv_f86c9 24 = .ok (.lconst 1, 1) := by decide +kernel
theorem dJ9_floorDiv_f86c9_25 : decode cJ9_floorDiv_f86c9 25 = .ok (.lsub, 1) := by decide +kernel
theorem dJ9_floorDiv_f86c9_26 : decode cJ9_floorDiv_f86c9 26 = .ok (.lreturn, 1) := by decide +kernel
theorem dJ9_floorDiv_f86c9_27 : decode cJ9_floorDiv_f86c9 27 = .ok (.lload 4, 2) := by decide +kernel
theorem dJ9_floorDiv_f86c9_29 : decode cJ9_floorDiv_f86c9 29 = .ok (.lreturn, 1) := by decide +kernel
theorem dJ9_abs_067f4_0 : decode cJ9_abs_067f4 0 = .ok (.lload_n 0, 1) := by decide +kernel
theorem dJ9_abs_067f4_1 : decode cJ9_abs_067f4 1 = .ok (.lconst 0, 1) := by decide +kernel
theorem dJ9_abs_067f4_2 : decode cJ9_abs_067f4 2 = .ok (.lcmp, 1) := by decide +kernel
theorem dJ9_abs_067f4_3 : decode cJ9_abs_067f4 3 = .ok (.ifCond .ge 8, 3) := by decide +kernel
theorem dJ9_abs_067f4_6 : decode cJ9_abs_067f4 6 = .ok (.lload_n 0, 1) := by decide +kernel
theorem dJ9_abs_067f4_7 : decode cJ9_abs_067f4 7 = .ok (.lneg, 1) := by decide +kernel
theorem dJ9_abs_067f4_8 : decode cJ9_abs_067f4 8 = .ok (.goto 4, 3) := by decide +kernel
theorem dJ9_abs_067f4_11 : decode cJ9_abs_067f4 11 = .ok (.lload_n 0, 1) := by decide +kernel
theorem dJ9_abs_067f4_12 : decode cJ9_abs_067f4 12 = .ok (.lreturn, 1) := by decide +kernel
theorem dJ9_min_7cf53_0 : decode cJ9_min_7cf53 0 = .ok (.iload_n 0, 1) := by decide +kernel
theorem dJ9_min_7cf53_1 : decode cJ9_min_7cf53 1 = .ok (.iload_n 1, 1) := by decide +kernel
theorem dJ9_min_7cf53_2 : decode cJ9_min_7cf53 2 = .ok (.if_icmp .gt 7, 3) := by decide +kernel
theorem dJ9_min_7cf53_5 : decode cJ9_min_7cf53 5 = .ok (.iload_n 0, 1) := by decide +kernel
theorem dJ9_min_7cf53_6 : decode cJ9_min_7cf53 6 = .ok (.goto 4, 3) := by decide +kernel
theorem dJ9_min_7cf53_9 : decode cJ9_min_7cf53 9 = .ok (.iload_n 1, 1) := by decide +kernel
theorem dJ9_min_7cf53_10 : decode cJ9_min_7cf53 10 = .ok (.ireturn, 1) := by decide +kernel
theorem dJ0_length_8abf5_0 : decode cJ0_length_8abf5 0 = .ok (.aload_n 0, 1) := by decide +kernel
theorem dJ0_length_8abf5_1 : decode cJ0_length_8abf5 1 = .ok (.getfield 9, 3) := by decide +kernel
theorem dJ0_length_8abf5_4 : decode cJ0_length_8abf5 4 = .ok (.arraylength, 1) := by decide +kernel
theorem dJ0_length_8abf5_5 : decode cJ0_length_8abf5 5 = .ok (.aload_n 0, 1) := by decide +kernel
theorem dJ0_length_8abf5_6 : decode cJ0_length_8abf5 6 = .ok (.invokevirtual 335, 3) := by decide +kernel
theorem dJ0_length_8abf5_9 : decode cJ0_length_8abf5 9 = .ok (.ishr, 1) := by decide +kernel
theorem dJ0_length_8abf5_10 : decode cJ0_length_8abf5 10 = .ok (.ireturn, 1) := by decide +kernel
theorem dJ0_charAt_5068e_0 : decode cJ0_charAt_5068e 0 = .ok (.aload_n 0, 1) := by decide +kernel
theorem dJ0_charAt_5068e_1 : decode cJ0_charAt_5068e 1 = .ok (.invokevirtual 492, 3) := by decide +kernel
theorem dJ0_charAt_5068e_4 : decode cJ0_charAt_5068e 4 = .ok (.ifCond .eq 12, 3) := by decide +kernel
theorem dJ0_charAt_5068e_7 : decode cJ0_charAt_5068e 7 = .ok (.aload_n 0, 1) := by decide +kernel
theorem dJ0_charAt_5068e_8 : decode cJ0_charAt_5068e 8 = .ok (.getfield 9, 3) := by decide +kernel
theorem dJ0_charAt_5068e_11 : decode cJ0_charAt_5068e 11 = .ok (.iload_n 1, 1) := by decide +kernel
theorem dJ0_charAt_5068e_12 : decode cJ0_charAt_5068e 12 = .ok (.invokestatic 495, 3) := by decide +kernel
theorem dJ0_charAt_5068e_15 : decode cJ0_charAt_5068e 15 = .ok (.ireturn, 1) := by decide +kernel
theorem dJ0_charAt_5068e_16 : decode cJ0_charAt_5068e 16 = .ok (.aload_n 0, 1) := by decide +kernel
theorem dJ0_charAt_5068e_17 : decode cJ0_charAt_5068e 17 = .ok (.getfield 9, 3) := by decide +kernel
theorem dJ0_charAt_5068e_20 : decode cJ0_charAt_5068e 20 = .ok (.iload_n 1, 1) := by decide +kernel
theorem dJ0_charAt_5068e_21 : decode cJ0_charAt_5068e 21 = .ok (.invokestatic 498, 3) := by decide +kernel
theorem dJ0_charAt_5068e_24 : decode cJ0_charAt_5068e 24 = .ok (.ireturn, 1) := by decide +kernel
theorem dJ0_coder_7d493_0 : decode cJ0_coder_7d493 0 = .ok (.getstatic 38, 3) := by decide +kernel
theorem dJ0_coder_7d493_3 : decode cJ0_coder_7d493 3 = .ok (.ifCond .eq 10, 3) := by decide +kernel
theorem dJ0_coder_7d493_6 : decode cJ0_coder_7d493 6 = .ok (.aload_n 0, 1) := by decide +kernel
theorem dJ0_coder_7d493_7 : decode cJ0_coder_7d493 7 = .ok (.getfield 15, 3) := by decide +kernel
theorem dJ0_coder_7d493_10 : decode cJ0_coder_7d493 10 = .ok (.goto 4, 3) := by decide +kernel
theorem dJ0_coder_7d493_13 : decode cJ0_coder_7d493 13 = .ok (.iconst 1, 1) := by decide +kernel
theorem dJ0_coder_7d493_14 : decode cJ0_coder_7d493 14 = .ok (.ireturn, 1) := by decide +kernel
theorem dJ0_isLatin1_aae02_0 : decode cJ0_isLatin1_aae02 0 = .ok (.getstatic 38, 3) := by decide +kernel
theorem dJ0_isLatin1_aae02_3 : decode cJ0_isLatin1_aae02 3 = .ok (.ifCond .eq 14, 3) := by decide +kernel
theorem dJ0_isLatin1_aae02_6 : decode cJ0_isLatin1_aae02 6 = .ok (.aload_n 0, 1) := by decide +kernel
theorem dJ0_isLatin1_aae02_7 : decode cJ0_isLatin1_aae02 7 = .ok (.getfield 15, 3) := by decide +kernel
theorem dJ0_isLatin1_aae02_10 : decode cJ0_isLatin1_aae02 10 = .ok (.ifCond .ne 7, 3) := by decide +kernel
theorem dJ0_isLatin1_aae02_13 : decode cJ0_isLatin1_aae02 13 = .ok (.iconst 1, 1) := by decide +kernel
theorem dJ0_isLatin1_aae02_14 : decode cJ0_isLatin1_aae02 14 = .ok (.goto 4, 3) := by decide +kernel
theorem dJ0_isLatin1_aae02_17 : decode cJ0_isLatin1_aae02 17 = .ok (.iconst 0, 1) := by decide +kernel
theorem dJ0_isLatin1_aae02_18 : decode cJ0_isLatin1_aae02 18 = .ok (.ireturn, 1) := by decide +kernel
theorem dJ0_checkIndex_df160_0 : decode cJ0_checkIndex_df160 0 = .ok (.iload_n 0, 1) := by decide +kernel
theorem dJ0_checkIndex_df160_1 : decode cJ0_checkIndex_df160 1 = .ok (.iload_n 1, 1) := by decide +kernel
theorem dJ0_checkIndex_df160_2 : decode cJ0_checkIndex_df160 2 = .ok (.getstatic 1053, 3) := by decide +kernel
theorem dJ0_checkIndex_df160_5 : decode cJ0_checkIndex_df160 5 = .ok (.invokestatic 1059, 3) := by decide +kernel
theorem dJ0_checkIndex_df160_8 : decode cJ0_checkIndex_df160 8 = .ok (.pop, 1) := by decide +kernel
theorem dJ0_checkIndex_df160_9 : decode cJ0_checkIndex_df160 9 = .ok (.return_, 1) := by decide +kernel
theorem dJ1_charAt_3b067_0 : decode cJ1_charAt_3b067 0 = .ok (.iload_n 1, 1) := by decide +kernel
theorem dJ1_charAt_3b067_1 : decode cJ1_charAt_3b067 1 = .ok (.aload_n 0, 1) := by decide +kernel
theorem dJ1_charAt_3b067_2 : decode cJ1_charAt_3b067 2 = .ok (.arraylength, 1) := by decide +kernel
theorem dJ1_charAt_3b067_3 : decode cJ1_charAt_3b067 3 = .ok (.invokestatic 9, 3) := by decide +kernel
theorem dJ1_charAt_3b067_6 : decode cJ1_charAt_3b067 6 = .ok (.aload_n 0, 1) := by decide +kernel
theorem dJ1_charAt_3b067_7 : decode cJ1_charAt_3b067 7 = .ok (.iload_n 1, 1) := by decide +kernel
theorem dJ1_charAt_3b067_8 : decode cJ1_charAt_3b067 8 = .ok (.baload, 1) := by decide +kernel
theorem dJ1_charAt_3b067_9 : decode cJ1_charAt_3b067 9 = .ok (.sipush 255, 3) := by decide +kernel
theorem dJ1_charAt_3b067_12 : decode cJ1_charAt_3b067 12 = .ok (.iand, 1) := by decide +kernel
theorem dJ1_charAt_3b067_13 : decode cJ1_charAt_3b067 13 = .ok (.i2c, 1) := by decide +kernel
theorem dJ1_charAt_3b067_14 : decode cJ1_charAt_3b067 14 = .ok (.ireturn, 1) := by decide +kernel
theorem dJ2_getChar_3b067_0 : decode cJ2_getChar_3b067 0 = .ok (.getstatic 44, 3) := by decide +kernel
theorem dJ2_getChar_3b067_3 : decode cJ2_getChar_3b067 3 = .ok (.ifCond .ne 25, 3) := by decide +kernel
theorem dJ2_getChar_3b067_6 : decode cJ2_getChar_3b067 6 = .ok (.iload_n 1, 1) := by decide +kernel
theorem dJ2_getChar_3b067_7 : decode cJ2_getChar_3b067 7 = .ok (.ifCond .lt 11, 3) := by decide +kernel
theorem dJ2_getChar_3b067_10 : decode cJ2_getChar_3b067 10 = .ok (.iload_n 1, 1) := by decide +kernel
theorem dJ2_getChar_3b067_11 : decode cJ2_getChar_3b067 11 = .ok (.aload_n 0, 1) := by decide +kernel
theorem dJ2_getChar_3b067_12 : decode cJ2_getChar_3b067 12 = .ok (.invokestatic 48, 3) := by decide +kernel
theorem dJ2_getChar_3b067_15 : decode cJ2_getChar_3b067 15 = .ok (.if_icmp .lt 13, 3) := by decide +kernel
theorem dJ2_getChar_3b067_18 : decode cJ2_getChar_3b067 18 = .ok (.new 52, 3) := by decide +kernel
theorem dJ2_getChar_3b067_21 : decode cJ2_getChar_3b067 21 = .ok (.dup, 1) := by decide +kernel
theorem dJ2_getChar_3b067_22 : decode cJ2_getChar_3b067 22 = .ok (.ldc 54, 2) := by decide +kernel
theorem dJ2_getChar_3b067_24 : decode cJ2_getChar_3b067 24 = .ok (.invokespecial 56, 3) := by decide +kernel
theorem dJ2_getChar_3b067_27 : decode cJ2_getChar_3b067 27 = .ok (.athrow, 1) := by decide +kernel
theorem dJ2_getChar_3b067_28 : decode cJ2_getChar_3b067 28 = .ok (.iload_n 1, 1) := by decide +kernel
theorem dJ2_getChar_3b067_29 : decode cJ2_getChar_3b067 29 = .ok (.iconst 1, 1) := by decide +kernel
theorem dJ2_getChar_3b067_30 : decode cJ2_getChar_3b067 30 = .ok (.ishl, 1) := by decide +kernel
theorem dJ2_getChar_3b067_31 : decode cJ2_getChar_3b067 31 = .ok (.istore_n 1, 1) := by decide +kernel
theorem dJ2_getChar_3b067_32 : decode cJ2_getChar_3b067 32 = .ok (.aload_n 0, 1) := by decide +kernel
theorem dJ2_getChar_3b067_33 : decode cJ2_getChar_3b067 33 = .ok (.iload_n 1, 1) := by decide +kernel
theorem dJ2_getChar_3b067_34 : decode cJ2_getChar_3b067 34 = .ok (.iinc 1 1, 3) := by decide +kernel
theorem dJ2_getChar_3b067_37 : decode cJ2_getChar_3b067 37 = .ok (.baload, 1) := by decide +kernel
theorem dJ2_getChar_3b067_38 : decode cJ2_getChar_3b067 38 = .ok (.sipush 255, 3) := by decide +kernel
theorem dJ2_getChar_3b067_41 : decode cJ2_getChar_3b067 41 = .ok (.iand, 1) := by decide +kernel
theorem dJ2_getChar_3b067_42 : decode cJ2_getChar_3b067 42 = .ok (.getstatic 59, 3) := by decide +kernel
theorem dJ2_getChar_3b067_45 : decode cJ2_getChar_3b067 45 = .ok (.ishl, 1) := by decide +kernel
theorem dJ2_getChar_3b067_46 : decode cJ2_getChar_3b067 46 = .ok (.aload_n 0, 1) := by decide +kernel
theorem dJ2_getChar_3b067_47 : decode cJ2_getChar_3b067 47 = .ok (.iload_n 1, 1) := by decide +kernel
theorem dJ2_getChar_3b067_48 : decode cJ2_getChar_3b067 48 = .ok (.baload, 1) := by decide +kernel
theorem dJ2_getChar_3b067_49 : decode cJ2_getChar_3b067 49 = .ok (.sipush 255, 3) := by decide +kernel
theorem dJ2_getChar_3b067_52 : decode cJ2_getChar_3b067 52 = .ok (.iand, 1) := by decide +kernel
theorem dJ2_getChar_3b067_53 : decode cJ2_getChar_3b067 53 = .ok (.getstatic 63, 3) := by decide +kernel
theorem dJ2_getChar_3b067_56 : decode cJ2_getChar_3b067 56 = .ok (.ishl, 1) := by decide +kernel
theorem dJ2_getChar_3b067_57 : decode cJ2_getChar_3b067 57 = .ok (.ior, 1) := by decide +kernel
theorem dJ2_getChar_3b067_58 : decode cJ2_getChar_3b067 58 = .ok (.i2c, 1) := by decide +kernel
theorem dJ2_getChar_3b067_59 : decode cJ2_getChar_3b067 59 = .ok (.ireturn, 1) := by decide +kernel
theorem dJ2_length_9d52b_0 : decode cJ2_length_9d52b 0 = .ok (.aload_n 0, 1) := by decide +kernel
theorem dJ2_length_9d52b_1 : decode cJ2_length_9d52b 1 = .ok (.arraylength, 1) := by decide +kernel
theorem dJ2_length_9d52b_2 : decode cJ2_length_9d52b 2 = .ok (.iconst 1, 1) := by decide +kernel
theorem dJ2_length_9d52b_3 : decode cJ2_length_9d52b 3 = .ok (.ishr, 1) := by decide +kernel
theorem dJ2_length_9d52b_4 : decode cJ2_length_9d52b 4 = .ok (.ireturn, 1) := by decide +kernel
theorem dJ2_charAt_3b067_0 : decode cJ2_charAt_3b067 0 = .ok (.iload_n 1, 1) := by decide +kernel
theorem dJ2_charAt_3b067_1 : decode cJ2_charAt_3b067 1 = .ok (.aload_n 0, 1) := by decide +kernel
theorem dJ2_charAt_3b067_2 : decode cJ2_charAt_3b067 2 = .ok (.invokestatic 67, 3) := by decide +kernel
theorem dJ2_charAt_3b067_5 : decode cJ2_charAt_3b067 5 = .ok (.aload_n 0, 1) := by decide +kernel
theorem dJ2_charAt_3b067_6 : decode cJ2_charAt_3b067 6 = .ok (.iload_n 1, 1) := by decide +kernel
theorem dJ2_charAt_3b067_7 : decode cJ2_charAt_3b067 7 = .ok (.invokestatic 71, 3) := by decide +kernel
theorem dJ2_charAt_3b067_10 : decode cJ2_charAt_3b067 10 = .ok (.ireturn, 1) := by decide +kernel
theorem dJ2_checkIndex_2214a_0 : decode cJ2_checkIndex_2214a 0 = .ok (.iload_n 0, 1) := by decide +kernel
theorem dJ2_checkIndex_2214a_1 : decode cJ2_checkIndex_2214a 1 = .ok (.aload_n 1, 1) := by decide +kernel
theorem dJ2_checkIndex_2214a_2 : decode cJ2_checkIndex_2214a 2 = .ok (.invokestatic 48, 3) := by decide +kernel
theorem dJ2_checkIndex_2214a_5 : decode cJ2_checkIndex_2214a 5 = .ok (.invokestatic 414, 3) := by decide +kernel
theorem dJ2_checkIndex_2214a_8 : decode cJ2_checkIndex_2214a 8 = .ok (.return_, 1) := by decide +kernel
theorem dJ7_fill_d0a16_0 : decode cJ7_fill_d0a16 0 = .ok (.iconst 0, 1) := by decide +kernel
theorem dJ7_fill_d0a16_1 : decode cJ7_fill_d0a16 1 = .ok (.istore_n 3, 1) := by decide +kernel
theorem dJ7_fill_d0a16_2 : decode cJ7_fill_d0a16 2 = .ok (.aload_n 0, 1) := by decide +kernel
theorem dJ7_fill_d0a16_3 : decode cJ7_fill_d0a16 3 = .ok (.arraylength, 1) := by decide +kernel
theorem dJ7_fill_d0a16_4 : decode cJ7_fill_d0a16 4 = .ok (.istore 4, 2) := by decide +kernel
theorem dJ7_fill_d0a16_6 : decode cJ7_fill_d0a16 6 = .ok (.iload_n 3, 1) := by decide +kernel
theorem dJ7_fill_d0a16_7 : decode cJ7_fill_d0a16 7 = .ok (.iload 4, 2) := by decide +kernel
theorem dJ7_fill_d0a16_9 : decode cJ7_fill_d0a16 9 = .ok (.if_icmp .ge 13, 3) := by decide +kernel
theorem dJ7_fill_d0a16_12 : decode cJ7_fill_d0a16 12 = .ok (.aload_n 0, 1) := by decide +kernel
theorem dJ7_fill_d0a16_13 : decode cJ7_fill_d0a16 13 = .ok (.iload_n 3, 1) := by decide +kernel
theorem dJ7_fill_d0a16_14 : decode cJ7_fill_d0a16 14 = .ok (.lload_n 1, 1) := by decide +kernel
theorem dJ7_fill_d0a16_15 : decode cJ7_fill_d0a16 15 = .ok (.lastore, 1) := by decide +kernel
theorem dJ7_fill_d0a16_16 : decode cJ7_fill_d0a16 16 = .ok (.iinc 3 1, 3) := by decide +kernel
theorem dJ7_fill_d0a16_19 : decode cJ7_fill_d0a16 19 = .ok (.goto (-13), 3) := by decide +kernel
theorem dJ7_fill_d0a16_22 : decode cJ7_fill_d0a16 22 = .ok (.return_, 1) := by decide +kernel
theorem dJ7_fill_53178_0 : decode cJ7_fill_53178 0 = .ok (.iconst 0, 1) := by decide +kernel
theorem dJ7_fill_53178_1 : decode cJ7_fill_53178 1 = .ok (.istore_n 2, 1) := by decide +kernel
theorem dJ7_fill_53178_2 : decode cJ7_fill_53178 2 = .ok (.aload_n 0, 1) := by decide +kernel
theorem dJ7_fill_53178_3 : decode cJ7_fill_53178 3 = .ok (.arraylength, 1) := by decide +kernel
theorem dJ7_fill_53178_4 : decode cJ7_fill_53178 4 = .ok (.istore_n 3, 1) := by decide +kernel
theorem dJ7_fill_53178_5 : decode cJ7_fill_53178 5 = .ok (.iload_n 2, 1) := by decide +kernel
theorem dJ7_fill_53178_6 : decode cJ7_fill_53178 6 = .ok (.iload_n 3, 1) := by decide +kernel
theorem dJ7_fill_53178_7 : decode cJ7_fill_53178 7 = .ok (.if_icmp .ge 13, 3) := by decide +kernel
theorem dJ7_fill_53178_10 : decode cJ7_fill_53178 10 = .ok (.aload_n 0, 1) := by decide +kernel
theorem dJ7_fill_53178_11 : decode cJ7_fill_53178 11 = .ok (.iload_n 2, 1) := by decide +kernel
theorem dJ7_fill_53178_12 : decode cJ7_fill_53178 12 = .ok (.iload_n 1, 1) := by decide +kernel
theorem dJ7_fill_53178_13 : decode cJ7_fill_53178 13 = .ok (.iastore, 1) := by decide +kernel
theorem dJ7_fill_53178_14 : decode cJ7_fill_53178 14 = .ok (.iinc 2 1, 3) := by decide +kernel
theorem dJ7_fill_53178_17 : decode cJ7_fill_53178 17 = .ok (.goto (-12), 3) := by decide +kernel
theorem dJ7_fill_53178_20 : decode cJ7_fill_53178 20 = .ok (.return_, 1) := by decide +kernel
theorem dJ3_checkIndex_8e157_0 : decode cJ3_checkIndex_8e157 0 = .ok (.iload_n 0, 1) := by decide +kernel
theorem dJ3_checkIndex_8e157_1 : decode cJ3_checkIndex_8e157 1 = .ok (.ifCond .lt 8, 3) := by decide +kernel
theorem dJ3_checkIndex_8e157_4 : decode cJ3_checkIndex_8e157 4 = .ok (.iload_n 0, 1) := by decide +kernel
theorem dJ3_checkIndex_8e157_5 : decode cJ3_checkIndex_8e157 5 = .ok (.iload_n 1, 1) := by decide +kernel
theorem dJ3_checkIndex_8e157_6 : decode cJ3_checkIndex_8e157 6 = .ok (.if_icmp .lt 10, 3) := by decide +kernel
theorem dJ3_checkIndex_8e157_9 : decode cJ3_checkIndex_8e157 9 = .ok (.aload_n 2, 1) := by decide +kernel
theorem dJ3_checkIndex_8e157_10 : decode cJ3_checkIndex_8e157 10 = .ok (.iload_n 0, 1) := by decide +kernel
theorem dJ3_checkIndex_8e157_11 : decode cJ3_checkIndex_8e157 11 = .ok (.iload_n 1, 1) := by decide +kernel
theorem dJ3_checkIndex_8e157_12 : decode cJ3_checkIndex_8e157 12 = .ok (.invokestatic 95, 3) := by decide +kernel
theorem dJ3_checkIndex_8e157_15 : decode cJ3_checkIndex_8e157 15 = .ok (.athrow, 1) := by decide +kernel
theorem dJ3_checkIndex_8e157_16 : decode cJ3_checkIndex_8e157 16 = .ok (.iload_n 0, 1) := by decide +kernel
theorem dJ3_checkIndex_8e157_17 : decode cJ3_checkIndex_8e157 17 = .ok (.ireturn, 1) := by decide +kernel
