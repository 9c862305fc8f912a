theorem dX0_init_0 : decode cX0_init 0 = .ok (.aload_n 0, 1) := by decide +kernel
theorem dX0_init_1 : decode cX0_init 1 = .ok (.invokespecial 1, 3) := by decide +kernel
theorem dX0_init_4 : decode cX0_init 4 = .ok (.aload_n 0, 1) := by decide +kernel
theorem dX0_init_5 : decode cX0_init 5 = .ok (.getstatic 7, 3) := by decide +kernel
theorem dX0_init_8 : decode cX0_init 8 = .ok (.putfield 13, 3) := by decide +kernel
theorem dX0_init_11 : decode cX0_init 11 = .ok (.aload_n 0, 1) := by decide +kernel
theorem dX0_init_12 : decode cX0_init 12 = .ok (.iconst 0, 1) := by decide +kernel
theorem dX0_init_13 : decode cX0_init 13 = .ok (.putfield 18, 3) := by decide +kernel
theorem dX0_init_16 : decode cX0_init 16 = .ok (.aload_n 0, 1) := by decide +kernel
theorem dX0_init_17 : decode cX0_init 17 = .ok (.iconst 0, 1) := by decide +kernel
theorem dX0_init_18 : decode cX0_init 18 = .ok (.putfield 22, 3) := by decide +kernel
theorem dX0_init_21 : decode cX0_init 21 = .ok (.aload_n 0, 1) := by decide +kernel
theorem dX0_init_22 : decode cX0_init 22 = .ok (.iconst 0, 1) := by decide +kernel
theorem dX0_init_23 : decode cX0_init 23 = .ok (.putfield 25, 3) := by decide +kernel
theorem dX0_init_26 : decode cX0_init 26 = .ok (.return_, 1) := by decide +kernel
theorem dX1_init_0 : decode cX1_init 0 = .ok (.aload_n 0, 1) := by decide +kernel
theorem dX1_init_1 : decode cX1_init 1 = .ok (.invokespecial 3, 3) := by decide +kernel
theorem dX1_init_4 : decode cX1_init 4 = .ok (.aload_n 0, 1) := by decide +kernel
theorem dX1_init_5 : decode cX1_init 5 = .ok (.bipush 60, 2) := by decide +kernel
theorem dX1_init_7 : decode cX1_init 7 = .ok (.newarray .char, 2) := by decide +kernel
theorem dX1_init_9 : decode cX1_init 9 = .ok (.putfield 9, 3) := by decide +kernel
theorem dX1_init_12 : decode cX1_init 12 = .ok (.aload_n 0, 1) := by decide +kernel
theorem dX1_init_13 : decode cX1_init 13 = .ok (.iconst 0, 1) := by decide +kernel
theorem dX1_init_14 : decode cX1_init 14 = .ok (.putfield 15, 3) := by decide +kernel
theorem dX1_init_17 : decode cX1_init 17 = .ok (.aload_n 0, 1) := by decide +kernel
theorem dX1_init_18 : decode cX1_init 18 = .ok (.iconst 0, 1) := by decide +kernel
theorem dX1_init_19 : decode cX1_init 19 = .ok (.putfield 19, 3) := by decide +kernel
theorem dX1_init_22 : decode cX1_init 22 = .ok (.aload_n 0, 1) := by decide +kernel
theorem dX1_init_23 : decode cX1_init 23 = .ok (.bipush 12, 2) := by decide +kernel
theorem dX1_init_25 : decode cX1_init 25 = .ok (.anewarray 22, 3) := by decide +kernel
theorem dX1_init_28 : decode cX1_init 28 = .ok (.putfield 24, 3) := by decide +kernel
theorem dX1_init_31 : decode cX1_init 31 = .ok (.aload_n 0, 1) := by decide +kernel
theorem dX1_init_32 : decode cX1_init 32 = .ok (.iconst 0, 1) := by decide +kernel
theorem dX1_init_33 : decode cX1_init 33 = .ok (.putfield 28, 3) := by decide +kernel
theorem dX1_init_36 : decode cX1_init 36 = .ok (.iconst 0, 1) := by decide +kernel
theorem dX1_init_37 : decode cX1_init 37 = .ok (.istore_n 1, 1) := by decide +kernel
theorem dX1_init_38 : decode cX1_init 38 = .ok (.iload_n 1, 1) := by decide +kernel
theorem dX1_init_39 : decode cX1_init 39 = .ok (.aload_n 0, 1) := by decide +kernel
theorem dX1_init_40 : decode cX1_init 40 = .ok (.getfield 24, 3) := by decide +kernel
theorem dX1_init_43 : decode cX1_init 43 = .ok (.arraylength, 1) := by decide +kernel
theorem dX1_init_44 : decode cX1_init 44 = .ok (.if_icmp .ge 22, 3) := by decide +kernel
theorem dX1_init_47 : decode cX1_init 47 = .ok (.aload_n 0, 1) := by decide +kernel
theorem dX1_init_48 : decode cX1_init 48 = .ok (.getfield 24, 3) := by decide +kernel
theorem dX1_init_51 : decode cX1_init 51 = .ok (.iload_n 1, 1) := by decide +kernel
theorem dX1_init_52 : decode cX1_init 52 = .ok (.new 22, 3) := by decide +kernel
theorem dX1_init_55 : decode cX1_init 55 = .ok (.dup, 1) := by decide +kernel
theorem dX1_init_56 : decode cX1_init 56 = .ok (.invokespecial 31, 3) := by decide +kernel
theorem dX1_init_59 : decode cX1_init 59 = .ok (.aastore, 1) := by decide +kernel
theorem dX1_init_60 : decode cX1_init 60 = .ok (.iinc 1 1, 3) := by decide +kernel
theorem dX1_init_63 : decode cX1_init 63 = .ok (.goto (-25), 3) := by decide +kernel
theorem dX1_init_66 : decode cX1_init 66 = .ok (.return_, 1) := by decide +kernel
theorem dX1_append_0 : decode cX1_append 0 = .ok (.aload_n 0, 1) := by decide +kernel
theorem dX1_append_1 : decode cX1_append 1 = .ok (.getfield 15, 3) := by decide +kernel
theorem dX1_append_4 : decode cX1_append 4 = .ok (.aload_n 0, 1) := by decide +kernel
theorem dX1_append_5 : decode cX1_append 5 = .ok (.getfield 9, 3) := by decide +kernel
theorem dX1_append_8 : decode cX1_append 8 = .ok (.arraylength, 1) := by decide +kernel
theorem dX1_append_9 : decode cX1_append 9 = .ok (.if_icmp .ge 23, 3) := by decide +kernel
theorem dX1_append_12 : decode cX1_append 12 = .ok (.aload_n 0, 1) := by decide +kernel
theorem dX1_append_13 : decode cX1_append 13 = .ok (.getfield 9, 3) := by decide +kernel
theorem dX1_append_16 : decode cX1_append 16 = .ok (.aload_n 0, 1) := by decide +kernel
theorem dX1_append_17 : decode cX1_append 17 = .ok (.getfield 15, 3) := by decide +kernel
theorem dX1_append_20 : decode cX1_append 20 = .ok (.iload_n 1, 1) := by decide +kernel
theorem dX1_append_21 : decode cX1_append 21 = .ok (.castore, 1) := by decide +kernel
theorem dX1_append_22 : decode cX1_append 22 = .ok (.aload_n 0, 1) := by decide +kernel
theorem dX1_append_23 : decode cX1_append 23 = .ok (.dup, 1) := by decide +kernel
theorem dX1_append_24 : decode cX1_append 24 = .ok (.getfield 15, 3) := by decide +kernel
theorem dX1_append_27 : decode cX1_append 27 = .ok (.iconst 1, 1) := by decide +kernel
theorem dX1_append_28 : decode cX1_append 28 = .ok (.iadd, 1) := by decide +kernel
theorem dX1_append_29 : decode cX1_append 29 = .ok (.putfield 15, 3) := by decide +kernel
theorem dX1_append_32 : decode cX1_append 32 = .ok (.aload_n 0, 1) := by decide +kernel
theorem dX1_append_33 : decode cX1_append 33 = .ok (.getfield 15, 3) := by decide +kernel
theorem dX1_append_36 : decode cX1_append 36 = .ok (.ireturn, 1) := by decide +kernel
theorem dX1_empty_0 : decode cX1_empty 0 = .ok (.aload_n 0, 1) := by decide +kernel
theorem dX1_empty_1 : decode cX1_empty 1 = .ok (.iconst 0, 1) := by decide +kernel
theorem dX1_empty_2 : decode cX1_empty 2 = .ok (.putfield 15, 3) := by decide +kernel
theorem dX1_empty_5 : decode cX1_empty 5 = .ok (.return_, 1) := by decide +kernel
theorem dX1_parse_0 : decode cX1_parse 0 = .ok (.aload_n 0, 1) := by decide +kernel
theorem dX1_parse_1 : decode cX1_parse 1 = .ok (.iconst 0, 1) := by decide +kernel
theorem dX1_parse_2 : decode cX1_parse 2 = .ok (.putfield 19, 3) := by decide +kernel
theorem dX1_parse_5 : decode cX1_parse 5 = .ok (.aload_n 0, 1) := by decide +kernel
theorem dX1_parse_6 : decode cX1_parse 6 = .ok (.iconst 0, 1) := by decide +kernel
theorem dX1_parse_7 : decode cX1_parse 7 = .ok (.putfield 28, 3) := by decide +kernel
theorem dX1_parse_10 : decode cX1_parse 10 = .ok (.iconst 0, 1) := by decide +kernel
theorem dX1_parse_11 : decode cX1_parse 11 = .ok (.istore_n 1, 1) := by decide +kernel
theorem dX1_parse_12 : decode cX1_parse 12 = .ok (.iload_n 1, 1) := by decide +kernel
theorem dX1_parse_13 : decode cX1_parse 13 = .ok (.aload_n 0, 1) := by decide +kernel
theorem dX1_parse_14 : decode cX1_parse 14 = .ok (.getfield 24, 3) := by decide +kernel
theorem dX1_parse_17 : decode cX1_parse 17 = .ok (.arraylength, 1) := by decide +kernel
theorem dX1_parse_18 : decode cX1_parse 18 = .ok (.if_icmp .ge 60, 3) := by decide +kernel
theorem dX1_parse_21 : decode cX1_parse 21 = .ok (.aload_n 0, 1) := by decide +kernel
theorem dX1_parse_22 : decode cX1_parse 22 = .ok (.aload_n 0, 1) := by decide +kernel
theorem dX1_parse_23 : decode cX1_parse 23 = .ok (.getfield 24, 3) := by decide +kernel
theorem dX1_parse_26 : decode cX1_parse 26 = .ok (.iload_n 1, 1) := by decide +kernel
theorem dX1_parse_27 : decode cX1_parse 27 = .ok (.aaload, 1) := by decide +kernel
theorem dX1_parse_28 : decode cX1_parse 28 = .ok (.invokevirtual 32, 3) := by decide +kernel
theorem dX1_parse_31 : decode cX1_parse 31 = .ok (.ifCond .ne 5, 3) := by decide +kernel
theorem dX1_parse_34 : decode cX1_parse 34 = .ok (.iconst 0, 1) := by decide +kernel
theorem dX1_parse_35 : decode cX1_parse 35 = .ok (.ireturn, 1) := by decide +kernel
theorem dX1_parse_36 : decode cX1_parse 36 = .ok (.aload_n 0, 1) := by decide +kernel
theorem dX1_parse_37 : decode cX1_parse 37 = .ok (.dup, 1) := by decide +kernel
theorem dX1_parse_38 : decode cX1_parse 38 = .ok (.getfield 28, 3) := by decide +kernel
theorem dX1_parse_41 : decode cX1_parse 41 = .ok (.iconst 1, 1) := by decide +kernel
theorem dX1_parse_42 : decode cX1_parse 42 = .ok (.iadd, 1) := by decide +kernel
theorem dX1_parse_43 : decode cX1_parse 43 = .ok (.putfield 28, 3) := by decide +kernel
theorem dX1_parse_46 : decode cX1_parse 46 = .ok (.aload_n 0, 1) := by decide +kernel
theorem dX1_parse_47 : decode cX1_parse 47 = .ok (.bipush 59, 2) := by decide +kernel
theorem dX1_parse_49 : decode cX1_parse 49 = .ok (.invokevirtual 36, 3) := by decide +kernel
theorem dX1_parse_52 : decode cX1_parse 52 = .ok (.ifCond .ne 20, 3) := by decide +kernel
theorem dX1_parse_55 : decode cX1_parse 55 = .ok (.aload_n 0, 1) := by decide +kernel
theorem dX1_parse_56 : decode cX1_parse 56 = .ok (.getfield 19, 3) := by decide +kernel
theorem dX1_parse_59 : decode cX1_parse 59 = .ok (.aload_n 0, 1) := by decide +kernel
theorem dX1_parse_60 : decode cX1_parse 60 = .ok (.getfield 15, 3) := by decide +kernel
theorem dX1_parse_63 : decode cX1_parse 63 = .ok (.if_icmp .ne 7, 3) := by decide +kernel
theorem dX1_parse_66 : decode cX1_parse 66 = .ok (.iconst 1, 1) := by decide +kernel
theorem dX1_parse_67 : decode cX1_parse 67 = .ok (.goto 4, 3) := by decide +kernel
theorem dX1_parse_70 : decode cX1_parse 70 = .ok (.iconst 0, 1) := by decide +kernel
theorem dX1_parse_71 : decode cX1_parse 71 = .ok (.ireturn, 1) := by decide +kernel
theorem dX1_parse_72 : decode cX1_parse 72 = .ok (.iinc 1 1, 3) := by decide +kernel
theorem dX1_parse_75 : decode cX1_parse 75 = .ok (.goto (-63), 3) := by decide +kernel
theorem dX1_parse_78 : decode cX1_parse 78 = .ok (.iconst 0, 1) := by decide +kernel
theorem dX1_parse_79 : decode cX1_parse 79 = .ok (.ireturn, 1) := by decide +kernel
theorem dX1_readCommand_0 : decode cX1_readCommand 0 = .ok (.aload_n 0, 1) := by decide +kernel
theorem dX1_readCommand_1 : decode cX1_readCommand 1 = .ok (.invokevirtual 40, 3) := by decide +kernel
theorem dX1_readCommand_4 : decode cX1_readCommand 4 = .ok (.astore_n 2, 1) := by decide +kernel
theorem dX1_readCommand_5 : decode cX1_readCommand 5 = .ok (.aload_n 2, 1) := by decide +kernel
theorem dX1_readCommand_6 : decode cX1_readCommand 6 = .ok (.ifnonnull 5, 3) := by decide +kernel
theorem dX1_readCommand_9 : decode cX1_readCommand 9 = .ok (.iconst 0, 1) := by decide +kernel
theorem dX1_readCommand_10 : decode cX1_readCommand 10 = .ok (.ireturn, 1) := by decide +kernel
theorem dX1_readCommand_11 : decode cX1_readCommand 11 = .ok (.aload_n 1, 1) := by decide +kernel
theorem dX1_readCommand_12 : decode cX1_readCommand 12 = .ok (.aload_n 2, 1) := by decide +kernel
theorem dX1_readCommand_13 : decode cX1_readCommand 13 = .ok (.putfield 44, 3) := by decide +kernel
theorem dX1_readCommand_16 : decode cX1_readCommand 16 = .ok (.aload_n 1, 1) := by decide +kernel
theorem dX1_readCommand_17 : decode cX1_readCommand 17 = .ok (.aload_n 0, 1) := by decide +kernel
theorem dX1_readCommand_18 : decode cX1_readCommand 18 = .ok (.aload_n 2, 1) := by decide +kernel
theorem dX1_readCommand_19 : decode cX1_readCommand 19 = .ok (.getfield 48, 3) := by decide +kernel
theorem dX1_readCommand_22 : decode cX1_readCommand 22 = .ok (.invokevirtual 53, 3) := by decide +kernel
theorem dX1_readCommand_25 : decode cX1_readCommand 25 = .ok (.putfield 57, 3) := by decide +kernel
theorem dX1_readCommand_28 : decode cX1_readCommand 28 = .ok (.aload_n 1, 1) := by decide +kernel
theorem dX1_readCommand_29 : decode cX1_readCommand 29 = .ok (.getfield 57, 3) := by decide +kernel
theorem dX1_readCommand_32 : decode cX1_readCommand 32 = .ok (.ifCond .ge 5, 3) := by decide +kernel
theorem dX1_readCommand_35 : decode cX1_readCommand 35 = .ok (.iconst 0, 1) := by decide +kernel
theorem dX1_readCommand_36 : decode cX1_readCommand 36 = .ok (.ireturn, 1) := by decide +kernel
theorem dX1_readCommand_37 : decode cX1_readCommand 37 = .ok (.aload_n 1, 1) := by decide +kernel
theorem dX1_readCommand_38 : decode cX1_readCommand 38 = .ok (.aload_n 0, 1) := by decide +kernel
theorem dX1_readCommand_39 : decode cX1_readCommand 39 = .ok (.aload_n 2, 1) := by decide +kernel
theorem dX1_readCommand_40 : decode cX1_readCommand 40 = .ok (.getfield 60, 3) := by decide +kernel
theorem dX1_readCommand_43 : decode cX1_readCommand 43 = .ok (.invokevirtual 53, 3) := by decide +kernel
theorem dX1_readCommand_46 : decode cX1_readCommand 46 = .ok (.putfield 63, 3) := by decide +kernel
theorem dX1_readCommand_49 : decode cX1_readCommand 49 = .ok (.aload_n 1, 1) := by decide +kernel
theorem dX1_readCommand_50 : decode cX1_readCommand 50 = .ok (.getfield 63, 3) := by decide +kernel
theorem dX1_readCommand_53 : decode cX1_readCommand 53 = .ok (.ifCond .ge 5, 3) := by decide +kernel
theorem dX1_readCommand_56 : decode cX1_readCommand 56 = .ok (.iconst 0, 1) := by decide +kernel
theorem dX1_readCommand_57 : decode cX1_readCommand 57 = .ok (.ireturn, 1) := by decide +kernel
theorem dX1_readCommand_58 : decode cX1_readCommand 58 = .ok (.aload_n 1, 1) := by decide +kernel
theorem dX1_readCommand_59 : decode cX1_readCommand 59 = .ok (.aload_n 0, 1) := by decide +kernel
theorem dX1_readCommand_60 : decode cX1_readCommand 60 = .ok (.aload_n 2, 1) := by decide +kernel
theorem dX1_readCommand_61 : decode cX1_readCommand 61 = .ok (.getfield 66, 3) := by decide +kernel
theorem dX1_readCommand_64 : decode cX1_readCommand 64 = .ok (.invokevirtual 53, 3) := by decide +kernel
theorem dX1_readCommand_67 : decode cX1_readCommand 67 = .ok (.putfield 69, 3) := by decide +kernel
theorem dX1_readCommand_70 : decode cX1_readCommand 70 = .ok (.aload_n 1, 1) := by decide +kernel
theorem dX1_readCommand_71 : decode cX1_readCommand 71 = .ok (.getfield 69, 3) := by decide +kernel
theorem dX1_readCommand_74 : decode cX1_readCommand 74 = .ok (.ifCond .lt 7, 3) := by decide +kernel
theorem dX1_readCommand_77 : decode cX1_readCommand 77 = .ok (.iconst 1, 1) := by decide +kernel
theorem dX1_readCommand_78 : decode cX1_readCommand 78 = .ok (.goto 4, 3) := by decide +kernel
theorem dX1_readCommand_81 : decode cX1_readCommand 81 = .ok (.iconst 0, 1) := by decide +kernel
theorem dX1_readCommand_82 : decode cX1_readCommand 82 = .ok (.ireturn, 1) := by decide +kernel
theorem dX1_readKeyword_0 : decode cX1_readKeyword 0 = .ok (.iconst 0, 1) := by decide +kernel
theorem dX1_readKeyword_1 : decode cX1_readKeyword 1 = .ok (.istore_n 1, 1) := by decide +kernel
theorem dX1_readKeyword_2 : decode cX1_readKeyword 2 = .ok (.iconst 0, 1) := by decide +kernel
theorem dX1_readKeyword_3 : decode cX1_readKeyword 3 = .ok (.istore_n 2, 1) := by decide +kernel
theorem dX1_readKeyword_4 : decode cX1_readKeyword 4 = .ok (.iload_n 2, 1) := by decide +kernel
theorem dX1_readKeyword_5 : decode cX1_readKeyword 5 = .ok (.getstatic 72, 3) := by decide +kernel
theorem dX1_readKeyword_8 : decode cX1_readKeyword 8 = .ok (.arraylength, 1) := by decide +kernel
theorem dX1_readKeyword_9 : decode cX1_readKeyword 9 = .ok (.if_icmp .ge 57, 3) := by decide +kernel
theorem dX1_readKeyword_12 : decode cX1_readKeyword 12 = .ok (.getstatic 72, 3) := by decide +kernel
theorem dX1_readKeyword_15 : decode cX1_readKeyword 15 = .ok (.iload_n 2, 1) := by decide +kernel
theorem dX1_readKeyword_16 : decode cX1_readKeyword 16 = .ok (.aaload, 1) := by decide +kernel
theorem dX1_readKeyword_17 : decode cX1_readKeyword 17 = .ok (.astore_n 3, 1) := by decide +kernel
theorem dX1_readKeyword_18 : decode cX1_readKeyword 18 = .ok (.aload_n 0, 1) := by decide +kernel
theorem dX1_readKeyword_19 : decode cX1_readKeyword 19 = .ok (.aload_n 3, 1) := by decide +kernel
theorem dX1_readKeyword_20 : decode cX1_readKeyword 20 = .ok (.getfield 76, 3) := by decide +kernel
theorem dX1_readKeyword_23 : decode cX1_readKeyword 23 = .ok (.invokevirtual 80, 3) := by decide +kernel
theorem dX1_readKeyword_26 : decode cX1_readKeyword 26 = .ok (.istore 4, 2) := by decide +kernel
theorem dX1_readKeyword_28 : decode cX1_readKeyword 28 = .ok (.iload 4, 2) := by decide +kernel
theorem dX1_readKeyword_30 : decode cX1_readKeyword 30 = .ok (.aload_n 3, 1) := by decide +kernel
theorem dX1_readKeyword_31 : decode cX1_readKeyword 31 = .ok (.getfield 76, 3) := by decide +kernel
theorem dX1_readKeyword_34 : decode cX1_readKeyword 34 = .ok (.invokevirtual 84, 3) := by decide +kernel
theorem dX1_readKeyword_37 : decode cX1_readKeyword 37 = .ok (.if_icmp .ne 16, 3) := by decide +kernel
theorem dX1_readKeyword_40 : decode cX1_readKeyword 40 = .ok (.aload_n 0, 1) := by decide +kernel
theorem dX1_readKeyword_41 : decode cX1_readKeyword 41 = .ok (.dup, 1) := by decide +kernel
theorem dX1_readKeyword_42 : decode cX1_readKeyword 42 = .ok (.getfield 19, 3) := by decide +kernel
theorem dX1_readKeyword_45 : decode cX1_readKeyword 45 = .ok (.iload 4, 2) := by decide +kernel
theorem dX1_readKeyword_47 : decode cX1_readKeyword 47 = .ok (.iadd, 1) := by decide +kernel
theorem dX1_readKeyword_48 : decode cX1_readKeyword 48 = .ok (.putfield 19, 3) := by decide +kernel
theorem dX1_readKeyword_51 : decode cX1_readKeyword 51 = .ok (.aload_n 3, 1) := by decide +kernel
theorem dX1_readKeyword_52 : decode cX1_readKeyword 52 = .ok (.areturn, 1) := by decide +kernel
theorem dX1_readKeyword_53 : decode cX1_readKeyword 53 = .ok (.iload_n 1, 1) := by decide +kernel
theorem dX1_readKeyword_54 : decode cX1_readKeyword 54 = .ok (.iload 4, 2) := by decide +kernel
theorem dX1_readKeyword_56 : decode cX1_readKeyword 56 = .ok (.invokestatic 89, 3) := by decide +kernel
theorem dX1_readKeyword_59 : decode cX1_readKeyword 59 = .ok (.istore_n 1, 1) := by decide +kernel
theorem dX1_readKeyword_60 : decode cX1_readKeyword 60 = .ok (.iinc 2 1, 3) := by decide +kernel
theorem dX1_readKeyword_63 : decode cX1_readKeyword 63 = .ok (.goto (-59), 3) := by decide +kernel
theorem dX1_readKeyword_66 : decode cX1_readKeyword 66 = .ok (.aload_n 0, 1) := by decide +kernel
theorem dX1_readKeyword_67 : decode cX1_readKeyword 67 = .ok (.dup, 1) := by decide +kernel
theorem dX1_readKeyword_68 : decode cX1_readKeyword 68 = .ok (.getfield 19, 3) := by decide +kernel
theorem dX1_readKeyword_71 : decode cX1_readKeyword 71 = .ok (.iload_n 1, 1) := by decide +kernel
theorem dX1_readKeyword_72 : decode cX1_readKeyword 72 = .ok (.iadd, 1) := by decide +kernel
theorem dX1_readKeyword_73 : decode cX1_readKeyword 73 = .ok (.putfield 19, 3) := by decide +kernel
theorem dX1_readKeyword_76 : decode cX1_readKeyword 76 = .ok (.aconst_null, 1) := by decide +kernel
theorem dX1_readKeyword_77 : decode cX1_readKeyword 77 = .ok (.areturn, 1) := by decide +kernel
theorem dX1_sameLetters_0 : decode cX1_sameLetters 0 = .ok (.iconst 0, 1) := by decide +kernel
theorem dX1_sameLetters_1 : decode cX1_sameLetters 1 = .ok (.istore_n 2, 1) := by decide +kernel
theorem dX1_sameLetters_2 : decode cX1_sameLetters 2 = .ok (.iload_n 2, 1) := by decide +kernel
theorem dX1_sameLetters_3 : decode cX1_sameLetters 3 = .ok (.aload_n 1, 1) := by decide +kernel
theorem dX1_sameLetters_4 : decode cX1_sameLetters 4 = .ok (.invokevirtual 84, 3) := by decide +kernel
theorem dX1_sameLetters_7 : decode cX1_sameLetters 7 = .ok (.if_icmp .ge 41, 3) := by decide +kernel
theorem dX1_sameLetters_10 : decode cX1_sameLetters 10 = .ok (.aload_n 0, 1) := by decide +kernel
theorem dX1_sameLetters_11 : decode cX1_sameLetters 11 = .ok (.getfield 19, 3) := by decide +kernel
theorem dX1_sameLetters_14 : decode cX1_sameLetters 14 = .ok (.iload_n 2, 1) := by decide +kernel
theorem dX1_sameLetters_15 : decode cX1_sameLetters 15 = .ok (.iadd, 1) := by decide +kernel
theorem dX1_sameLetters_16 : decode cX1_sameLetters 16 = .ok (.aload_n 0, 1) := by decide +kernel
theorem dX1_sameLetters_17 : decode cX1_sameLetters 17 = .ok (.getfield 15, 3) := by decide +kernel
theorem dX1_sameLetters_20 : decode cX1_sameLetters 20 = .ok (.if_icmp .ge 28, 3) := by decide +kernel
theorem dX1_sameLetters_23 : decode cX1_sameLetters 23 = .ok (.aload_n 0, 1) := by decide +kernel
theorem dX1_sameLetters_24 : decode cX1_sameLetters 24 = .ok (.getfield 9, 3) := by decide +kernel
theorem dX1_sameLetters_27 : decode cX1_sameLetters 27 = .ok (.aload_n 0, 1) := by decide +kernel
theorem dX1_sameLetters_28 : decode cX1_sameLetters 28 = .ok (.getfield 19, 3) := by decide +kernel
theorem dX1_sameLetters_31 : decode cX1_sameLetters 31 = .ok (.iload_n 2, 1) := by decide +kernel
theorem dX1_sameLetters_32 : decode cX1_sameLetters 32 = .ok (.iadd, 1) := by decide +kernel
theorem dX1_sameLetters_33 : decode cX1_sameLetters 33 = .ok (.caload, 1) := by decide +kernel
theorem dX1_sameLetters_34 : decode cX1_sameLetters 34 = .ok (.aload_n 1, 1) := by decide +kernel
theorem dX1_sameLetters_35 : decode cX1_sameLetters 35 = .ok (.iload_n 2, 1) := by decide +kernel
theorem dX1_sameLetters_36 : decode cX1_sameLetters 36 = .ok (.invokevirtual 95, 3) := by decide +kernel
theorem dX1_sameLetters_39 : decode cX1_sameLetters 39 = .ok (.if_icmp .ne 9, 3) := by decide +kernel
theorem dX1_sameLetters_42 : decode cX1_sameLetters 42 = .ok (.iinc 2 1, 3) := by decide +kernel
theorem dX1_sameLetters_45 : decode cX1_sameLetters 45 = .ok (.goto (-43), 3) := by decide +kernel
theorem dX1_sameLetters_48 : decode cX1_sameLetters 48 = .ok (.iload_n 2, 1) := by decide +kernel
theorem dX1_sameLetters_49 : decode cX1_sameLetters 49 = .ok (.ireturn, 1) := by decide +kernel
theorem dX1_readNumber_0 : decode cX1_readNumber 0 = .ok (.iload_n 1, 1) := by decide +kernel
theorem dX1_readNumber_1 : decode cX1_readNumber 1 = .ok (.ifCond .ne 5, 3) := by decide +kernel
theorem dX1_readNumber_4 : decode cX1_readNumber 4 = .ok (.iconst 0, 1) := by decide +kernel
theorem dX1_readNumber_5 : decode cX1_readNumber 5 = .ok (.ireturn, 1) := by decide +kernel
theorem dX1_readNumber_6 : decode cX1_readNumber 6 = .ok (.aload_n 0, 1) := by decide +kernel
theorem dX1_readNumber_7 : decode cX1_readNumber 7 = .ok (.bipush 32, 2) := by decide +kernel
theorem dX1_readNumber_9 : decode cX1_readNumber 9 = .ok (.invokevirtual 36, 3) := by decide +kernel
theorem dX1_readNumber_12 : decode cX1_readNumber 12 = .ok (.ifCond .eq 10, 3) := by decide +kernel
theorem dX1_readNumber_15 : decode cX1_readNumber 15 = .ok (.aload_n 0, 1) := by decide +kernel
theorem dX1_readNumber_16 : decode cX1_readNumber 16 = .ok (.invokevirtual 99, 3) := by decide +kernel
theorem dX1_readNumber_19 : decode cX1_readNumber 19 = .ok (.ifCond .ne 5, 3) := by decide +kernel
theorem dX1_readNumber_22 : decode cX1_readNumber 22 = .ok (.iconst (-1), 1) := by decide +kernel
theorem dX1_readNumber_23 : decode cX1_readNumber 23 = .ok (.ireturn, 1) := by decide +kernel
theorem dX1_readNumber_24 : decode cX1_readNumber 24 = .ok (.iconst 0, 1) := by decide +kernel
theorem dX1_readNumber_25 : decode cX1_readNumber 25 = .ok (.istore_n 2, 1) := by decide +kernel
theorem dX1_readNumber_26 : decode cX1_readNumber 26 = .ok (.iconst 0, 1) := by decide +kernel
theorem dX1_readNumber_27 : decode cX1_readNumber 27 = .ok (.istore_n 3, 1) := by decide +kernel
theorem dX1_readNumber_28 : decode cX1_readNumber 28 = .ok (.iload_n 3, 1) := by decide +kernel
theorem dX1_readNumber_29 : decode cX1_readNumber 29 = .ok (.iload_n 1, 1) := by decide +kernel
theorem dX1_readNumber_30 : decode cX1_readNumber 30 = .ok (.if_icmp .ge 44, 3) := by decide +kernel
theorem dX1_readNumber_33 : decode cX1_readNumber 33 = .ok (.aload_n 0, 1) := by decide +kernel
theorem dX1_readNumber_34 : decode cX1_readNumber 34 = .ok (.invokevirtual 99, 3) := by decide +kernel
theorem dX1_readNumber_37 : decode cX1_readNumber 37 = .ok (.ifCond .eq 37, 3) := by decide +kernel
theorem dX1_readNumber_40 : decode cX1_readNumber 40 = .ok (.bipush 10, 2) := by decide +kernel
theorem dX1_readNumber_42 : decode cX1_readNumber 42 = .ok (.iload_n 2, 1) := by decide +kernel
theorem dX1_readNumber_43 : decode cX1_readNumber 43 = .ok (.imul, 1) := by decide +kernel
theorem dX1_readNumber_44 : decode cX1_readNumber 44 = .ok (.aload_n 0, 1) := by decide +kernel
theorem dX1_readNumber_45 : decode cX1_readNumber 45 = .ok (.getfield 9, 3) := by decide +kernel
theorem dX1_readNumber_48 : decode cX1_readNumber 48 = .ok (.aload_n 0, 1) := by decide +kernel
theorem dX1_readNumber_49 : decode cX1_readNumber 49 = .ok (.getfield 19, 3) := by decide +kernel
theorem dX1_readNumber_52 : decode cX1_readNumber 52 = .ok (.caload, 1) := by decide +kernel
theorem dX1_readNumber_53 : decode cX1_readNumber 53 = .ok (.bipush 48, 2) := by decide +kernel
theorem dX1_readNumber_55 : decode cX1_readNumber 55 = .ok (.isub, 1) := by decide +kernel
theorem dX1_readNumber_56 : decode cX1_readNumber 56 = .ok (.iadd, 1) := by decide +kernel
theorem dX1_readNumber_57 : decode cX1_readNumber 57 = .ok (.istore_n 2, 1) := by decide +kernel
theorem dX1_readNumber_58 : decode cX1_readNumber 58 = .ok (.aload_n 0, 1) := by decide +kernel
theorem dX1_readNumber_59 : decode cX1_readNumber 59 = .ok (.dup, 1) := by decide +kernel
theorem dX1_readNumber_60 : decode cX1_readNumber 60 = .ok (.getfield 19, 3) := by decide +kernel
theorem dX1_readNumber_63 : decode cX1_readNumber 63 = .ok (.iconst 1, 1) := by decide +kernel
theorem dX1_readNumber_64 : decode cX1_readNumber 64 = .ok (.iadd, 1) := by decide +kernel
theorem dX1_readNumber_65 : decode cX1_readNumber 65 = .ok (.putfield 19, 3) := by decide +kernel
theorem dX1_readNumber_68 : decode cX1_readNumber 68 = .ok (.iinc 3 1, 3) := by decide +kernel
theorem dX1_readNumber_71 : decode cX1_readNumber 71 = .ok (.goto (-43), 3) := by decide +kernel
theorem dX1_readNumber_74 : decode cX1_readNumber 74 = .ok (.iload_n 2, 1) := by decide +kernel
theorem dX1_readNumber_75 : decode cX1_readNumber 75 = .ok (.ireturn, 1) := by decide +kernel
theorem dX1_isAtDigit_0 : decode cX1_isAtDigit 0 = .ok (.aload_n 0, 1) := by decide +kernel
theorem dX1_isAtDigit_1 : decode cX1_isAtDigit 1 = .ok (.getfield 19, 3) := by decide +kernel
theorem dX1_isAtDigit_4 : decode cX1_isAtDigit 4 = .ok (.aload_n 0, 1) := by decide +kernel
theorem dX1_isAtDigit_5 : decode cX1_isAtDigit 5 = .ok (.getfield 15, 3) := by decide +kernel
theorem dX1_isAtDigit_8 : decode cX1_isAtDigit 8 = .ok (.if_icmp .ge 35, 3) := by decide +kernel
theorem dX1_isAtDigit_11 : decode cX1_isAtDigit 11 = .ok (.aload_n 0, 1) := by decide +kernel
theorem dX1_isAtDigit_12 : decode cX1_isAtDigit 12 = .ok (.getfield 9, 3) := by decide +kernel
theorem dX1_isAtDigit_15 : decode cX1_isAtDigit 15 = .ok (.aload_n 0, 1) := by decide +kernel
theorem dX1_isAtDigit_16 : decode cX1_isAtDigit 16 = .ok (.getfield 19, 3) := by decide +kernel
theorem dX1_isAtDigit_19 : decode cX1_isAtDigit 19 = .ok (.caload, 1) := by decide +kernel
theorem dX1_isAtDigit_20 : decode cX1_isAtDigit 20 = .ok (.bipush 48, 2) := by decide +kernel
theorem dX1_isAtDigit_22 : decode cX1_isAtDigit 22 = .ok (.if_icmp .lt 21, 3) := by decide +kernel
theorem dX1_isAtDigit_25 : decode cX1_isAtDigit 25 = .ok (.aload_n 0, 1) := by decide +kernel
theorem dX1_isAtDigit_26 : decode cX1_isAtDigit 26 = .ok (.getfield 9, 3) := by decide +kernel
theorem dX1_isAtDigit_29 : decode cX1_isAtDigit 29 = .ok (.aload_n 0, 1) := by decide +kernel
theorem dX1_isAtDigit_30 : decode cX1_isAtDigit 30 = .ok (.getfield 19, 3) := by decide +kernel
theorem dX1_isAtDigit_33 : decode cX1_isAtDigit 33 = .ok (.caload, 1) := by decide +kernel
theorem dX1_isAtDigit_34 : decode cX1_isAtDigit 34 = .ok (.bipush 57, 2) := by decide +kernel
theorem dX1_isAtDigit_36 : decode cX1_isAtDigit 36 = .ok (.if_icmp .gt 7, 3) := by decide +kernel
theorem dX1_isAtDigit_39 : decode cX1_isAtDigit 39 = .ok (.iconst 1, 1) := by decide +kernel
theorem dX1_isAtDigit_40 : decode cX1_isAtDigit 40 = .ok (.goto 4, 3) := by decide +kernel
theorem dX1_isAtDigit_43 : decode cX1_isAtDigit 43 = .ok (.iconst 0, 1) := by decide +kernel
theorem dX1_isAtDigit_44 : decode cX1_isAtDigit 44 = .ok (.ireturn, 1) := by decide +kernel
theorem dX1_accept_0 : decode cX1_accept 0 = .ok (.aload_n 0, 1) := by decide +kernel
theorem dX1_accept_1 : decode cX1_accept 1 = .ok (.getfield 19, 3) := by decide +kernel
theorem dX1_accept_4 : decode cX1_accept 4 = .ok (.aload_n 0, 1) := by decide +kernel
theorem dX1_accept_5 : decode cX1_accept 5 = .ok (.getfield 15, 3) := by decide +kernel
theorem dX1_accept_8 : decode cX1_accept 8 = .ok (.if_icmp .ge 28, 3) := by decide +kernel
theorem dX1_accept_11 : decode cX1_accept 11 = .ok (.aload_n 0, 1) := by decide +kernel
theorem dX1_accept_12 : decode cX1_accept 12 = .ok (.getfield 9, 3) := by decide +kernel
theorem dX1_accept_15 : decode cX1_accept 15 = .ok (.aload_n 0, 1) := by decide +kernel
theorem dX1_accept_16 : decode cX1_accept 16 = .ok (.getfield 19, 3) := by decide +kernel
theorem dX1_accept_19 : decode cX1_accept 19 = .ok (.caload, 1) := by decide +kernel
theorem dX1_accept_20 : decode cX1_accept 20 = .ok (.iload_n 1, 1) := by decide +kernel
theorem dX1_accept_21 : decode cX1_accept 21 = .ok (.if_icmp .ne 15, 3) := by decide +kernel
theorem dX1_accept_24 : decode cX1_accept 24 = .ok (.aload_n 0, 1) := by decide +kernel
theorem dX1_accept_25 : decode cX1_accept 25 = .ok (.dup, 1) := by decide +kernel
theorem dX1_accept_26 : decode cX1_accept 26 = .ok (.getfield 19, 3) := by decide +kernel
theorem dX1_accept_29 : decode cX1_accept 29 = .ok (.iconst 1, 1) := by decide +kernel
theorem dX1_accept_30 : decode cX1_accept 30 = .ok (.iadd, 1) := by decide +kernel
theorem dX1_accept_31 : decode cX1_accept 31 = .ok (.putfield 19, 3) := by decide +kernel
theorem dX1_accept_34 : decode cX1_accept 34 = .ok (.iconst 1, 1) := by decide +kernel
theorem dX1_accept_35 : decode cX1_accept 35 = .ok (.ireturn, 1) := by decide +kernel
theorem dX1_accept_36 : decode cX1_accept 36 = .ok (.iconst 0, 1) := by decide +kernel
theorem dX1_accept_37 : decode cX1_accept 37 = .ok (.ireturn, 1) := by decide +kernel
theorem dX3_init_0 : decode cX3_init 0 = .ok (.aload_n 0, 1) := by decide +kernel
theorem dX3_init_1 : decode cX3_init 1 = .ok (.invokespecial 3, 3) := by decide +kernel
theorem dX3_init_4 : decode cX3_init 4 = .ok (.aload_n 0, 1) := by decide +kernel
theorem dX3_init_5 : decode cX3_init 5 = .ok (.bipush 9, 2) := by decide +kernel
theorem dX3_init_7 : decode cX3_init 7 = .ok (.anewarray 9, 3) := by decide +kernel
theorem dX3_init_10 : decode cX3_init 10 = .ok (.putfield 11, 3) := by decide +kernel
theorem dX3_init_13 : decode cX3_init 13 = .ok (.aload_n 0, 1) := by decide +kernel
theorem dX3_init_14 : decode cX3_init 14 = .ok (.iconst 0, 1) := by decide +kernel
theorem dX3_init_15 : decode cX3_init 15 = .ok (.putfield 17, 3) := by decide +kernel
theorem dX3_init_18 : decode cX3_init 18 = .ok (.aload_n 0, 1) := by decide +kernel
theorem dX3_init_19 : decode cX3_init 19 = .ok (.iconst 0, 1) := by decide +kernel
theorem dX3_init_20 : decode cX3_init 20 = .ok (.putfield 21, 3) := by decide +kernel
theorem dX3_init_23 : decode cX3_init 23 = .ok (.iconst 0, 1) := by decide +kernel
theorem dX3_init_24 : decode cX3_init 24 = .ok (.istore_n 1, 1) := by decide +kernel
theorem dX3_init_25 : decode cX3_init 25 = .ok (.iload_n 1, 1) := by decide +kernel
theorem dX3_init_26 : decode cX3_init 26 = .ok (.aload_n 0, 1) := by decide +kernel
theorem dX3_init_27 : decode cX3_init 27 = .ok (.getfield 11, 3) := by decide +kernel
theorem dX3_init_30 : decode cX3_init 30 = .ok (.arraylength, 1) := by decide +kernel
theorem dX3_init_31 : decode cX3_init 31 = .ok (.if_icmp .ge 22, 3) := by decide +kernel
theorem dX3_init_34 : decode cX3_init 34 = .ok (.aload_n 0, 1) := by decide +kernel
theorem dX3_init_35 : decode cX3_init 35 = .ok (.getfield 11, 3) := by decide +kernel
theorem dX3_init_38 : decode cX3_init 38 = .ok (.iload_n 1, 1) := by decide +kernel
theorem dX3_init_39 : decode cX3_init 39 = .ok (.new 9, 3) := by decide +kernel
theorem dX3_init_42 : decode cX3_init 42 = .ok (.dup, 1) := by decide +kernel
theorem dX3_init_43 : decode cX3_init 43 = .ok (.invokespecial 24, 3) := by decide +kernel
theorem dX3_init_46 : decode cX3_init 46 = .ok (.aastore, 1) := by decide +kernel
theorem dX3_init_47 : decode cX3_init 47 = .ok (.iinc 1 1, 3) := by decide +kernel
theorem dX3_init_50 : decode cX3_init 50 = .ok (.goto (-25), 3) := by decide +kernel
theorem dX3_init_53 : decode cX3_init 53 = .ok (.return_, 1) := by decide +kernel
theorem dX3_remember_0 : decode cX3_remember 0 = .ok (.aload_n 0, 1) := by decide +kernel
theorem dX3_remember_1 : decode cX3_remember 1 = .ok (.aload_n 1, 1) := by decide +kernel
theorem dX3_remember_2 : decode cX3_remember 2 = .ok (.invokevirtual 25, 3) := by decide +kernel
theorem dX3_remember_5 : decode cX3_remember 5 = .ok (.aload_n 0, 1) := by decide +kernel
theorem dX3_remember_6 : decode cX3_remember 6 = .ok (.invokevirtual 29, 3) := by decide +kernel
theorem dX3_remember_9 : decode cX3_remember 9 = .ok (.return_, 1) := by decide +kernel
theorem dX3_prepare_0 : decode cX3_prepare 0 = .ok (.aload_n 0, 1) := by decide +kernel
theorem dX3_prepare_1 : decode cX3_prepare 1 = .ok (.getfield 11, 3) := by decide +kernel
theorem dX3_prepare_4 : decode cX3_prepare 4 = .ok (.aload_n 0, 1) := by decide +kernel
theorem dX3_prepare_5 : decode cX3_prepare 5 = .ok (.invokevirtual 32, 3) := by decide +kernel
theorem dX3_prepare_8 : decode cX3_prepare 8 = .ok (.aaload, 1) := by decide +kernel
theorem dX3_prepare_9 : decode cX3_prepare 9 = .ok (.aload_n 1, 1) := by decide +kernel
theorem dX3_prepare_10 : decode cX3_prepare 10 = .ok (.invokevirtual 36, 3) := by decide +kernel
theorem dX3_prepare_13 : decode cX3_prepare 13 = .ok (.return_, 1) := by decide +kernel
theorem dX3_keepPrepared_0 : decode cX3_keepPrepared 0 = .ok (.aload_n 0, 1) := by decide +kernel
theorem dX3_keepPrepared_1 : decode cX3_keepPrepared 1 = .ok (.aload_n 0, 1) := by decide +kernel
theorem dX3_keepPrepared_2 : decode cX3_keepPrepared 2 = .ok (.invokevirtual 32, 3) := by decide +kernel
theorem dX3_keepPrepared_5 : decode cX3_keepPrepared 5 = .ok (.putfield 17, 3) := by decide +kernel
theorem dX3_keepPrepared_8 : decode cX3_keepPrepared 8 = .ok (.aload_n 0, 1) := by decide +kernel
theorem dX3_keepPrepared_9 : decode cX3_keepPrepared 9 = .ok (.aload_n 0, 1) := by decide +kernel
theorem dX3_keepPrepared_10 : decode cX3_keepPrepared 10 = .ok (.getfield 21, 3) := by decide +kernel
theorem dX3_keepPrepared_13 : decode cX3_keepPrepared 13 = .ok (.iconst 1, 1) := by decide +kernel
theorem dX3_keepPrepared_14 : decode cX3_keepPrepared 14 = .ok (.iadd, 1) := by decide +kernel
theorem dX3_keepPrepared_15 : decode cX3_keepPrepared 15 = .ok (.bipush 8, 2) := by decide +kernel
theorem dX3_keepPrepared_17 : decode cX3_keepPrepared 17 = .ok (.invokestatic 39, 3) := by decide +kernel
theorem dX3_keepPrepared_20 : decode cX3_keepPrepared 20 = .ok (.putfield 21, 3) := by decide +kernel
theorem dX3_keepPrepared_23 : decode cX3_keepPrepared 23 = .ok (.return_, 1) := by decide +kernel
theorem dX3_takePreparedBack_0 : decode cX3_takePreparedBack 0 = .ok (.aload_n 1, 1) := by decide +kernel
theorem dX3_takePreparedBack_1 : decode cX3_takePreparedBack 1 = .ok (.aload_n 0, 1) := by decide +kernel
theorem dX3_takePreparedBack_2 : decode cX3_takePreparedBack 2 = .ok (.getfield 11, 3) := by decide +kernel
theorem dX3_takePreparedBack_5 : decode cX3_takePreparedBack 5 = .ok (.aload_n 0, 1) := by decide +kernel
theorem dX3_takePreparedBack_6 : decode cX3_takePreparedBack 6 = .ok (.invokevirtual 32, 3) := by decide +kernel
theorem dX3_takePreparedBack_9 : decode cX3_takePreparedBack 9 = .ok (.aaload, 1) := by decide +kernel
theorem dX3_takePreparedBack_10 : decode cX3_takePreparedBack 10 = .ok (.invokevirtual 36, 3) := by decide +kernel
theorem dX3_takePreparedBack_13 : decode cX3_takePreparedBack 13 = .ok (.return_, 1) := by decide +kernel
theorem dX3_stepBack_0 : decode cX3_stepBack 0 = .ok (.aload_n 1, 1) := by decide +kernel
theorem dX3_stepBack_1 : decode cX3_stepBack 1 = .ok (.aload_n 0, 1) := by decide +kernel
theorem dX3_stepBack_2 : decode cX3_stepBack 2 = .ok (.getfield 11, 3) := by decide +kernel
theorem dX3_stepBack_5 : decode cX3_stepBack 5 = .ok (.aload_n 0, 1) := by decide +kernel
theorem dX3_stepBack_6 : decode cX3_stepBack 6 = .ok (.getfield 17, 3) := by decide +kernel
theorem dX3_stepBack_9 : decode cX3_stepBack 9 = .ok (.aaload, 1) := by decide +kernel
theorem dX3_stepBack_10 : decode cX3_stepBack 10 = .ok (.invokevirtual 36, 3) := by decide +kernel
theorem dX3_stepBack_13 : decode cX3_stepBack 13 = .ok (.aload_n 0, 1) := by decide +kernel
theorem dX3_stepBack_14 : decode cX3_stepBack 14 = .ok (.aload_n 0, 1) := by decide +kernel
theorem dX3_stepBack_15 : decode cX3_stepBack 15 = .ok (.getfield 17, 3) := by decide +kernel
theorem dX3_stepBack_18 : decode cX3_stepBack 18 = .ok (.ifCond .ne 8, 3) := by decide +kernel
theorem dX3_stepBack_21 : decode cX3_stepBack 21 = .ok (.bipush 8, 2) := by decide +kernel
theorem dX3_stepBack_23 : decode cX3_stepBack 23 = .ok (.goto 9, 3) := by decide +kernel
theorem dX3_stepBack_26 : decode cX3_stepBack 26 = .ok (.aload_n 0, 1) := by decide +kernel
theorem dX3_stepBack_27 : decode cX3_stepBack 27 = .ok (.getfield 17, 3) := by decide +kernel
theorem dX3_stepBack_30 : decode cX3_stepBack 30 = .ok (.iconst 1, 1) := by decide +kernel
theorem dX3_stepBack_31 : decode cX3_stepBack 31 = .ok (.isub, 1) := by decide +kernel
theorem dX3_stepBack_32 : decode cX3_stepBack 32 = .ok (.putfield 17, 3) := by decide +kernel
theorem dX3_stepBack_35 : decode cX3_stepBack 35 = .ok (.aload_n 0, 1) := by decide +kernel
theorem dX3_stepBack_36 : decode cX3_stepBack 36 = .ok (.dup, 1) := by decide +kernel
theorem dX3_stepBack_37 : decode cX3_stepBack 37 = .ok (.getfield 21, 3) := by decide +kernel
theorem dX3_stepBack_40 : decode cX3_stepBack 40 = .ok (.iconst 1, 1) := by decide +kernel
theorem dX3_stepBack_41 : decode cX3_stepBack 41 = .ok (.isub, 1) := by decide +kernel
theorem dX3_stepBack_42 : decode cX3_stepBack 42 = .ok (.putfield 21, 3) := by decide +kernel
theorem dX3_stepBack_45 : decode cX3_stepBack 45 = .ok (.return_, 1) := by decide +kernel
theorem dX3_forget_0 : decode cX3_forget 0 = .ok (.aload_n 0, 1) := by decide +kernel
theorem dX3_forget_1 : decode cX3_forget 1 = .ok (.iconst 0, 1) := by decide +kernel
theorem dX3_forget_2 : decode cX3_forget 2 = .ok (.putfield 21, 3) := by decide +kernel
theorem dX3_forget_5 : decode cX3_forget 5 = .ok (.return_, 1) := by decide +kernel
theorem dX3_spareRow_0 : decode cX3_spareRow 0 = .ok (.aload_n 0, 1) := by decide +kernel
theorem dX3_spareRow_1 : decode cX3_spareRow 1 = .ok (.getfield 17, 3) := by decide +kernel
theorem dX3_spareRow_4 : decode cX3_spareRow 4 = .ok (.bipush 8, 2) := by decide +kernel
theorem dX3_spareRow_6 : decode cX3_spareRow 6 = .ok (.if_icmp .ne 7, 3) := by decide +kernel
theorem dX3_spareRow_9 : decode cX3_spareRow 9 = .ok (.iconst 0, 1) := by decide +kernel
theorem dX3_spareRow_10 : decode cX3_spareRow 10 = .ok (.goto 9, 3) := by decide +kernel
theorem dX3_spareRow_13 : decode cX3_spareRow 13 = .ok (.aload_n 0, 1) := by decide +kernel
theorem dX3_spareRow_14 : decode cX3_spareRow 14 = .ok (.getfield 17, 3) := by decide +kernel
theorem dX3_spareRow_17 : decode cX3_spareRow 17 = .ok (.iconst 1, 1) := by decide +kernel
theorem dX3_spareRow_18 : decode cX3_spareRow 18 = .ok (.iadd, 1) := by decide +kernel
theorem dX3_spareRow_19 : decode cX3_spareRow 19 = .ok (.ireturn, 1) := by decide +kernel
theorem dX5_init_0 : decode cX5_init 0 = .ok (.aload_n 0, 1) := by decide +kernel
theorem dX5_init_1 : decode cX5_init 1 = .ok (.invokespecial 3, 3) := by decide +kernel
theorem dX5_init_4 : decode cX5_init 4 = .ok (.aload_n 0, 1) := by decide +kernel
theorem dX5_init_5 : decode cX5_init 5 = .ok (.sipush 176, 3) := by decide +kernel
theorem dX5_init_8 : decode cX5_init 8 = .ok (.newarray .char, 2) := by decide +kernel
theorem dX5_init_10 : decode cX5_init 10 = .ok (.putfield 9, 3) := by decide +kernel
theorem dX5_init_13 : decode cX5_init 13 = .ok (.aload_n 0, 1) := by decide +kernel
theorem dX5_init_14 : decode cX5_init 14 = .ok (.iconst 0, 1) := by decide +kernel
theorem dX5_init_15 : decode cX5_init 15 = .ok (.putfield 15, 3) := by decide +kernel
theorem dX5_init_18 : decode cX5_init 18 = .ok (.return_, 1) := by decide +kernel
theorem dX5_empty_0 : decode cX5_empty 0 = .ok (.aload_n 0, 1) := by decide +kernel
theorem dX5_empty_1 : decode cX5_empty 1 = .ok (.iconst 0, 1) := by decide +kernel
theorem dX5_empty_2 : decode cX5_empty 2 = .ok (.putfield 15, 3) := by decide +kernel
theorem dX5_empty_5 : decode cX5_empty 5 = .ok (.return_, 1) := by decide +kernel
theorem dX5_append_0 : decode cX5_append 0 = .ok (.aload_n 0, 1) := by decide +kernel
theorem dX5_append_1 : decode cX5_append 1 = .ok (.getfield 15, 3) := by decide +kernel
theorem dX5_append_4 : decode cX5_append 4 = .ok (.aload_n 0, 1) := by decide +kernel
theorem dX5_append_5 : decode cX5_append 5 = .ok (.getfield 9, 3) := by decide +kernel
theorem dX5_append_8 : decode cX5_append 8 = .ok (.arraylength, 1) := by decide +kernel
theorem dX5_append_9 : decode cX5_append 9 = .ok (.if_icmp .ge 23, 3) := by decide +kernel
theorem dX5_append_12 : decode cX5_append 12 = .ok (.aload_n 0, 1) := by decide +kernel
theorem dX5_append_13 : decode cX5_append 13 = .ok (.getfield 9, 3) := by decide +kernel
theorem dX5_append_16 : decode cX5_append 16 = .ok (.aload_n 0, 1) := by decide +kernel
theorem dX5_append_17 : decode cX5_append 17 = .ok (.getfield 15, 3) := by decide +kernel
theorem dX5_append_20 : decode cX5_append 20 = .ok (.iload_n 1, 1) := by decide +kernel
theorem dX5_append_21 : decode cX5_append 21 = .ok (.castore, 1) := by decide +kernel
theorem dX5_append_22 : decode cX5_append 22 = .ok (.aload_n 0, 1) := by decide +kernel
theorem dX5_append_23 : decode cX5_append 23 = .ok (.dup, 1) := by decide +kernel
theorem dX5_append_24 : decode cX5_append 24 = .ok (.getfield 15, 3) := by decide +kernel
theorem dX5_append_27 : decode cX5_append 27 = .ok (.iconst 1, 1) := by decide +kernel
theorem dX5_append_28 : decode cX5_append 28 = .ok (.iadd, 1) := by decide +kernel
theorem dX5_append_29 : decode cX5_append 29 = .ok (.putfield 15, 3) := by decide +kernel
theorem dX5_append_32 : decode cX5_append 32 = .ok (.return_, 1) := by decide +kernel
theorem dX6_otherSock_0 : decode cX6_otherSock 0 = .ok (.iconst (-1), 1) := by decide +kernel
theorem dX6_otherSock_1 : decode cX6_otherSock 1 = .ok (.istore_n 2, 1) := by decide +kernel
theorem dX6_otherSock_2 : decode cX6_otherSock 2 = .ok (.iconst 0, 1) := by decide +kernel
theorem dX6_otherSock_3 : decode cX6_otherSock 3 = .ok (.istore_n 3, 1) := by decide +kernel
theorem dX6_otherSock_4 : decode cX6_otherSock 4 = .ok (.iload_n 3, 1) := by decide +kernel
theorem dX6_otherSock_5 : decode cX6_otherSock 5 = .ok (.aload_n 0, 1) := by decide +kernel
theorem dX6_otherSock_6 : decode cX6_otherSock 6 = .ok (.getfield 7, 3) := by decide +kernel
theorem dX6_otherSock_9 : decode cX6_otherSock 9 = .ok (.if_icmp .ge 43, 3) := by decide +kernel
theorem dX6_otherSock_12 : decode cX6_otherSock 12 = .ok (.aload_n 0, 1) := by decide +kernel
theorem dX6_otherSock_13 : decode cX6_otherSock 13 = .ok (.iload_n 3, 1) := by decide +kernel
theorem dX6_otherSock_14 : decode cX6_otherSock 14 = .ok (.iload_n 1, 1) := by decide +kernel
theorem dX6_otherSock_15 : decode cX6_otherSock 15 = .ok (.invokestatic 13, 3) := by decide +kernel
theorem dX6_otherSock_18 : decode cX6_otherSock 18 = .ok (.ifCond .eq 28, 3) := by decide +kernel
theorem dX6_otherSock_21 : decode cX6_otherSock 21 = .ok (.iload_n 2, 1) := by decide +kernel
theorem dX6_otherSock_22 : decode cX6_otherSock 22 = .ok (.ifCond .ge 8, 3) := by decide +kernel
theorem dX6_otherSock_25 : decode cX6_otherSock 25 = .ok (.iload_n 3, 1) := by decide +kernel
theorem dX6_otherSock_26 : decode cX6_otherSock 26 = .ok (.istore_n 2, 1) := by decide +kernel
theorem dX6_otherSock_27 : decode cX6_otherSock 27 = .ok (.goto 19, 3) := by decide +kernel
theorem dX6_otherSock_30 : decode cX6_otherSock 30 = .ok (.iload_n 2, 1) := by decide +kernel
theorem dX6_otherSock_31 : decode cX6_otherSock 31 = .ok (.iload_n 1, 1) := by decide +kernel
theorem dX6_otherSock_32 : decode cX6_otherSock 32 = .ok (.if_icmp .ne 5, 3) := by decide +kernel
theorem dX6_otherSock_35 : decode cX6_otherSock 35 = .ok (.iload_n 3, 1) := by decide +kernel
theorem dX6_otherSock_36 : decode cX6_otherSock 36 = .ok (.ireturn, 1) := by decide +kernel
theorem dX6_otherSock_37 : decode cX6_otherSock 37 = .ok (.iload_n 3, 1) := by decide +kernel
theorem dX6_otherSock_38 : decode cX6_otherSock 38 = .ok (.iload_n 1, 1) := by decide +kernel
theorem dX6_otherSock_39 : decode cX6_otherSock 39 = .ok (.if_icmp .ne 5, 3) := by decide +kernel
theorem dX6_otherSock_42 : decode cX6_otherSock 42 = .ok (.iload_n 2, 1) := by decide +kernel
theorem dX6_otherSock_43 : decode cX6_otherSock 43 = .ok (.ireturn, 1) := by decide +kernel
theorem dX6_otherSock_44 : decode cX6_otherSock 44 = .ok (.iconst (-1), 1) := by decide +kernel
theorem dX6_otherSock_45 : decode cX6_otherSock 45 = .ok (.istore_n 2, 1) := by decide +kernel
theorem dX6_otherSock_46 : decode cX6_otherSock 46 = .ok (.iinc 3 1, 3) := by decide +kernel
theorem dX6_otherSock_49 : decode cX6_otherSock 49 = .ok (.goto (-45), 3) := by decide +kernel
theorem dX6_otherSock_52 : decode cX6_otherSock 52 = .ok (.iconst (-1), 1) := by decide +kernel
theorem dX6_otherSock_53 : decode cX6_otherSock 53 = .ok (.ireturn, 1) := by decide +kernel
theorem dX6_couldPair_0 : decode cX6_couldPair 0 = .ok (.aload_n 0, 1) := by decide +kernel
theorem dX6_couldPair_1 : decode cX6_couldPair 1 = .ok (.getfield 19, 3) := by decide +kernel
theorem dX6_couldPair_4 : decode cX6_couldPair 4 = .ok (.iload_n 1, 1) := by decide +kernel
theorem dX6_couldPair_5 : decode cX6_couldPair 5 = .ok (.baload, 1) := by decide +kernel
theorem dX6_couldPair_6 : decode cX6_couldPair 6 = .ok (.ifCond .eq 36, 3) := by decide +kernel
theorem dX6_couldPair_9 : decode cX6_couldPair 9 = .ok (.aload_n 0, 1) := by decide +kernel
theorem dX6_couldPair_10 : decode cX6_couldPair 10 = .ok (.iload_n 1, 1) := by decide +kernel
theorem dX6_couldPair_11 : decode cX6_couldPair 11 = .ok (.aload_n 0, 1) := by decide +kernel
theorem dX6_couldPair_12 : decode cX6_couldPair 12 = .ok (.getfield 23, 3) := by decide +kernel
theorem dX6_couldPair_15 : decode cX6_couldPair 15 = .ok (.iload_n 2, 1) := by decide +kernel
theorem dX6_couldPair_16 : decode cX6_couldPair 16 = .ok (.iaload, 1) := by decide +kernel
theorem dX6_couldPair_17 : decode cX6_couldPair 17 = .ok (.invokevirtual 27, 3) := by decide +kernel
theorem dX6_couldPair_20 : decode cX6_couldPair 20 = .ok (.ifCond .eq 22, 3) := by decide +kernel
theorem dX6_couldPair_23 : decode cX6_couldPair 23 = .ok (.aload_n 0, 1) := by decide +kernel
theorem dX6_couldPair_24 : decode cX6_couldPair 24 = .ok (.getfield 31, 3) := by decide +kernel
theorem dX6_couldPair_27 : decode cX6_couldPair 27 = .ok (.iload_n 1, 1) := by decide +kernel
theorem dX6_couldPair_28 : decode cX6_couldPair 28 = .ok (.iaload, 1) := by decide +kernel
theorem dX6_couldPair_29 : decode cX6_couldPair 29 = .ok (.aload_n 0, 1) := by decide +kernel
theorem dX6_couldPair_30 : decode cX6_couldPair 30 = .ok (.getfield 31, 3) := by decide +kernel
theorem dX6_couldPair_33 : decode cX6_couldPair 33 = .ok (.iload_n 2, 1) := by decide +kernel
theorem dX6_couldPair_34 : decode cX6_couldPair 34 = .ok (.iaload, 1) := by decide +kernel
theorem dX6_couldPair_35 : decode cX6_couldPair 35 = .ok (.if_icmp .ne 7, 3) := by decide +kernel
theorem dX6_couldPair_38 : decode cX6_couldPair 38 = .ok (.iconst 1, 1) := by decide +kernel
theorem dX6_couldPair_39 : decode cX6_couldPair 39 = .ok (.goto 4, 3) := by decide +kernel
theorem dX6_couldPair_42 : decode cX6_couldPair 42 = .ok (.iconst 0, 1) := by decide +kernel
theorem dX6_couldPair_43 : decode cX6_couldPair 43 = .ok (.ireturn, 1) := by decide +kernel
theorem dX6_formed_0 : decode cX6_formed 0 = .ok (.iconst 0, 1) := by decide +kernel
theorem dX6_formed_1 : decode cX6_formed 1 = .ok (.istore_n 2, 1) := by decide +kernel
theorem dX6_formed_2 : decode cX6_formed 2 = .ok (.iconst 0, 1) := by decide +kernel
theorem dX6_formed_3 : decode cX6_formed 3 = .ok (.istore_n 3, 1) := by decide +kernel
theorem dX6_formed_4 : decode cX6_formed 4 = .ok (.iload_n 3, 1) := by decide +kernel
theorem dX6_formed_5 : decode cX6_formed 5 = .ok (.aload_n 0, 1) := by decide +kernel
theorem dX6_formed_6 : decode cX6_formed 6 = .ok (.getfield 7, 3) := by decide +kernel
theorem dX6_formed_9 : decode cX6_formed 9 = .ok (.if_icmp .ge 39, 3) := by decide +kernel
theorem dX6_formed_12 : decode cX6_formed 12 = .ok (.aload_n 0, 1) := by decide +kernel
theorem dX6_formed_13 : decode cX6_formed 13 = .ok (.getfield 19, 3) := by decide +kernel
theorem dX6_formed_16 : decode cX6_formed 16 = .ok (.iload_n 3, 1) := by decide +kernel
theorem dX6_formed_17 : decode cX6_formed 17 = .ok (.baload, 1) := by decide +kernel
theorem dX6_formed_18 : decode cX6_formed 18 = .ok (.ifCond .eq 24, 3) := by decide +kernel
theorem dX6_formed_21 : decode cX6_formed 21 = .ok (.aload_n 0, 1) := by decide +kernel
theorem dX6_formed_22 : decode cX6_formed 22 = .ok (.iload_n 3, 1) := by decide +kernel
theorem dX6_formed_23 : decode cX6_formed 23 = .ok (.iload_n 1, 1) := by decide +kernel
theorem dX6_formed_24 : decode cX6_formed 24 = .ok (.invokevirtual 27, 3) := by decide +kernel
theorem dX6_formed_27 : decode cX6_formed 27 = .ok (.ifCond .eq 15, 3) := by decide +kernel
theorem dX6_formed_30 : decode cX6_formed 30 = .ok (.aload_n 0, 1) := by decide +kernel
theorem dX6_formed_31 : decode cX6_formed 31 = .ok (.iload_n 3, 1) := by decide +kernel
theorem dX6_formed_32 : decode cX6_formed 32 = .ok (.invokestatic 34, 3) := by decide +kernel
theorem dX6_formed_35 : decode cX6_formed 35 = .ok (.iload_n 3, 1) := by decide +kernel
theorem dX6_formed_36 : decode cX6_formed 36 = .ok (.if_icmp .le 6, 3) := by decide +kernel
theorem dX6_formed_39 : decode cX6_formed 39 = .ok (.iinc 2 1, 3) := by decide +kernel
theorem dX6_formed_42 : decode cX6_formed 42 = .ok (.iinc 3 1, 3) := by decide +kernel
theorem dX6_formed_45 : decode cX6_formed 45 = .ok (.goto (-41), 3) := by decide +kernel
theorem dX6_formed_48 : decode cX6_formed 48 = .ok (.iload_n 2, 1) := by decide +kernel
theorem dX6_formed_49 : decode cX6_formed 49 = .ok (.ireturn, 1) := by decide +kernel
theorem dX6_byParity_0 : decode cX6_byParity 0 = .ok (.iconst 0, 1) := by decide +kernel
theorem dX6_byParity_1 : decode cX6_byParity 1 = .ok (.istore_n 2, 1) := by decide +kernel
theorem dX6_byParity_2 : decode cX6_byParity 2 = .ok (.iconst 0, 1) := by decide +kernel
theorem dX6_byParity_3 : decode cX6_byParity 3 = .ok (.istore_n 3, 1) := by decide +kernel
theorem dX6_byParity_4 : decode cX6_byParity 4 = .ok (.iconst 0, 1) := by decide +kernel
theorem dX6_byParity_5 : decode cX6_byParity 5 = .ok (.istore 4, 2) := by decide +kernel
theorem dX6_byParity_7 : decode cX6_byParity 7 = .ok (.iload 4, 2) := by decide +kernel
theorem dX6_byParity_9 : decode cX6_byParity 9 = .ok (.aload_n 0, 1) := by decide +kernel
theorem dX6_byParity_10 : decode cX6_byParity 10 = .ok (.getfield 7, 3) := by decide +kernel
theorem dX6_byParity_13 : decode cX6_byParity 13 = .ok (.if_icmp .ge 44, 3) := by decide +kernel
theorem dX6_byParity_16 : decode cX6_byParity 16 = .ok (.aload_n 0, 1) := by decide +kernel
theorem dX6_byParity_17 : decode cX6_byParity 17 = .ok (.getfield 19, 3) := by decide +kernel
theorem dX6_byParity_20 : decode cX6_byParity 20 = .ok (.iload 4, 2) := by decide +kernel
theorem dX6_byParity_22 : decode cX6_byParity 22 = .ok (.baload, 1) := by decide +kernel
theorem dX6_byParity_23 : decode cX6_byParity 23 = .ok (.ifCond .eq 28, 3) := by decide +kernel
theorem dX6_byParity_26 : decode cX6_byParity 26 = .ok (.aload_n 0, 1) := by decide +kernel
theorem dX6_byParity_27 : decode cX6_byParity 27 = .ok (.iload 4, 2) := by decide +kernel
theorem dX6_byParity_29 : decode cX6_byParity 29 = .ok (.iload_n 1, 1) := by decide +kernel
theorem dX6_byParity_30 : decode cX6_byParity 30 = .ok (.invokevirtual 27, 3) := by decide +kernel
theorem dX6_byParity_33 : decode cX6_byParity 33 = .ok (.ifCond .eq 18, 3) := by decide +kernel
theorem dX6_byParity_36 : decode cX6_byParity 36 = .ok (.iinc 2 1, 3) := by decide +kernel
theorem dX6_byParity_39 : decode cX6_byParity 39 = .ok (.iload_n 3, 1) := by decide +kernel
theorem dX6_byParity_40 : decode cX6_byParity 40 = .ok (.iconst 1, 1) := by decide +kernel
theorem dX6_byParity_41 : decode cX6_byParity 41 = .ok (.aload_n 0, 1) := by decide +kernel
theorem dX6_byParity_42 : decode cX6_byParity 42 = .ok (.getfield 31, 3) := by decide +kernel
theorem dX6_byParity_45 : decode cX6_byParity 45 = .ok (.iload 4, 2) := by decide +kernel
theorem dX6_byParity_47 : decode cX6_byParity 47 = .ok (.iaload, 1) := by decide +kernel
theorem dX6_byParity_48 : decode cX6_byParity 48 = .ok (.ishl, 1) := by decide +kernel
theorem dX6_byParity_49 : decode cX6_byParity 49 = .ok (.ixor, 1) := by decide +kernel
theorem dX6_byParity_50 : decode cX6_byParity 50 = .ok (.istore_n 3, 1) := by decide +kernel
theorem dX6_byParity_51 : decode cX6_byParity 51 = .ok (.iinc 4 1, 3) := by decide +kernel
theorem dX6_byParity_54 : decode cX6_byParity 54 = .ok (.goto (-47), 3) := by decide +kernel
theorem dX6_byParity_57 : decode cX6_byParity 57 = .ok (.iload_n 2, 1) := by decide +kernel
theorem dX6_byParity_58 : decode cX6_byParity 58 = .ok (.iload_n 3, 1) := by decide +kernel
theorem dX6_byParity_59 : decode cX6_byParity 59 = .ok (.invokestatic 38, 3) := by decide +kernel
theorem dX6_byParity_62 : decode cX6_byParity 62 = .ok (.isub, 1) := by decide +kernel
theorem dX6_byParity_63 : decode cX6_byParity 63 = .ok (.iconst 2, 1) := by decide +kernel
theorem dX6_byParity_64 : decode cX6_byParity 64 = .ok (.idiv, 1) := by decide +kernel
theorem dX6_byParity_65 : decode cX6_byParity 65 = .ok (.ireturn, 1) := by decide +kernel
theorem dX7_init_0 : decode cX7_init 0 = .ok (.aload_n 0, 1) := by decide +kernel
theorem dX7_init_1 : decode cX7_init 1 = .ok (.invokespecial 3, 3) := by decide +kernel
theorem dX7_init_4 : decode cX7_init 4 = .ok (.aload_n 0, 1) := by decide +kernel
theorem dX7_init_5 : decode cX7_init 5 = .ok (.bipush 16, 2) := by decide +kernel
theorem dX7_init_7 : decode cX7_init 7 = .ok (.newarray .int, 2) := by decide +kernel
theorem dX7_init_9 : decode cX7_init 9 = .ok (.putfield 9, 3) := by decide +kernel
theorem dX7_init_12 : decode cX7_init 12 = .ok (.aload_n 0, 1) := by decide +kernel
theorem dX7_init_13 : decode cX7_init 13 = .ok (.bipush 16, 2) := by decide +kernel
theorem dX7_init_15 : decode cX7_init 15 = .ok (.newarray .boolean, 2) := by decide +kernel
theorem dX7_init_17 : decode cX7_init 17 = .ok (.putfield 15, 3) := by decide +kernel
theorem dX7_init_20 : decode cX7_init 20 = .ok (.aload_n 0, 1) := by decide +kernel
theorem dX7_init_21 : decode cX7_init 21 = .ok (.bipush 16, 2) := by decide +kernel
theorem dX7_init_23 : decode cX7_init 23 = .ok (.newarray .int, 2) := by decide +kernel
theorem dX7_init_25 : decode cX7_init 25 = .ok (.putfield 19, 3) := by decide +kernel
theorem dX7_init_28 : decode cX7_init 28 = .ok (.aload_n 0, 1) := by decide +kernel
theorem dX7_init_29 : decode cX7_init 29 = .ok (.bipush 16, 2) := by decide +kernel
theorem dX7_init_31 : decode cX7_init 31 = .ok (.newarray .int, 2) := by decide +kernel
theorem dX7_init_33 : decode cX7_init 33 = .ok (.putfield 22, 3) := by decide +kernel
theorem dX7_init_36 : decode cX7_init 36 = .ok (.aload_n 0, 1) := by decide +kernel
theorem dX7_init_37 : decode cX7_init 37 = .ok (.bipush 16, 2) := by decide +kernel
theorem dX7_init_39 : decode cX7_init 39 = .ok (.newarray .int, 2) := by decide +kernel
theorem dX7_init_41 : decode cX7_init 41 = .ok (.putfield 25, 3) := by decide +kernel
theorem dX7_init_44 : decode cX7_init 44 = .ok (.aload_n 0, 1) := by decide +kernel
theorem dX7_init_45 : decode cX7_init 45 = .ok (.bipush 16, 2) := by decide +kernel
theorem dX7_init_47 : decode cX7_init 47 = .ok (.newarray .int, 2) := by decide +kernel
theorem dX7_init_49 : decode cX7_init 49 = .ok (.putfield 28, 3) := by decide +kernel
theorem dX7_init_52 : decode cX7_init 52 = .ok (.aload_n 0, 1) := by decide +kernel
theorem dX7_init_53 : decode cX7_init 53 = .ok (.iconst 0, 1) := by decide +kernel
theorem dX7_init_54 : decode cX7_init 54 = .ok (.putfield 31, 3) := by decide +kernel
theorem dX7_init_57 : decode cX7_init 57 = .ok (.aload_n 0, 1) := by decide +kernel
theorem dX7_init_58 : decode cX7_init 58 = .ok (.iconst 2, 1) := by decide +kernel
theorem dX7_init_59 : decode cX7_init 59 = .ok (.newarray .int, 2) := by decide +kernel
theorem dX7_init_61 : decode cX7_init 61 = .ok (.putfield 35, 3) := by decide +kernel
theorem dX7_init_64 : decode cX7_init 64 = .ok (.aload_n 0, 1) := by decide +kernel
theorem dX7_init_65 : decode cX7_init 65 = .ok (.iconst 4, 1) := by decide +kernel
theorem dX7_init_66 : decode cX7_init 66 = .ok (.newarray .float, 2) := by decide +kernel
theorem dX7_init_68 : decode cX7_init 68 = .ok (.putfield 38, 3) := by decide +kernel
theorem dX7_init_71 : decode cX7_init 71 = .ok (.aload_n 0, 1) := by decide +kernel
theorem dX7_init_72 : decode cX7_init 72 = .ok (.iconst 0, 1) := by decide +kernel
theorem dX7_init_73 : decode cX7_init 73 = .ok (.putfield 42, 3) := by decide +kernel
theorem dX7_init_76 : decode cX7_init 76 = .ok (.iconst 0, 1) := by decide +kernel
theorem dX7_init_77 : decode cX7_init 77 = .ok (.istore_n 1, 1) := by decide +kernel
theorem dX7_init_78 : decode cX7_init 78 = .ok (.iload_n 1, 1) := by decide +kernel
theorem dX7_init_79 : decode cX7_init 79 = .ok (.iconst 2, 1) := by decide +kernel
theorem dX7_init_80 : decode cX7_init 80 = .ok (.if_icmp .ge 17, 3) := by decide +kernel
theorem dX7_init_83 : decode cX7_init 83 = .ok (.aload_n 0, 1) := by decide +kernel
theorem dX7_init_84 : decode cX7_init 84 = .ok (.getfield 35, 3) := by decide +kernel
theorem dX7_init_87 : decode cX7_init 87 = .ok (.iload_n 1, 1) := by decide +kernel
theorem dX7_init_88 : decode cX7_init 88 = .ok (.bipush 80, 2) := by decide +kernel
theorem dX7_init_90 : decode cX7_init 90 = .ok (.iastore, 1) := by decide +kernel
theorem dX7_init_91 : decode cX7_init 91 = .ok (.iinc 1 1, 3) := by decide +kernel
theorem dX7_init_94 : decode cX7_init 94 = .ok (.goto (-16), 3) := by decide +kernel
theorem dX7_init_97 : decode cX7_init 97 = .ok (.return_, 1) := by decide +kernel
theorem dX7_copyFrom_0 : decode cX7_copyFrom 0 = .ok (.iconst 0, 1) := by decide +kernel
theorem dX7_copyFrom_1 : decode cX7_copyFrom 1 = .ok (.istore_n 2, 1) := by decide +kernel
theorem dX7_copyFrom_2 : decode cX7_copyFrom 2 = .ok (.iload_n 2, 1) := by decide +kernel
theorem dX7_copyFrom_3 : decode cX7_copyFrom 3 = .ok (.aload_n 1, 1) := by decide +kernel
theorem dX7_copyFrom_4 : decode cX7_copyFrom 4 = .ok (.getfield 31, 3) := by decide +kernel
theorem dX7_copyFrom_7 : decode cX7_copyFrom 7 = .ok (.if_icmp .ge 81, 3) := by decide +kernel
theorem dX7_copyFrom_10 : decode cX7_copyFrom 10 = .ok (.aload_n 0, 1) := by decide +kernel
theorem dX7_copyFrom_11 : decode cX7_copyFrom 11 = .ok (.getfield 9, 3) := by decide +kernel
theorem dX7_copyFrom_14 : decode cX7_copyFrom 14 = .ok (.iload_n 2, 1) := by decide +kernel
theorem dX7_copyFrom_15 : decode cX7_copyFrom 15 = .ok (.aload_n 1, 1) := by decide +kernel
theorem dX7_copyFrom_16 : decode cX7_copyFrom 16 = .ok (.getfield 9, 3) := by decide +kernel
theorem dX7_copyFrom_19 : decode cX7_copyFrom 19 = .ok (.iload_n 2, 1) := by decide +kernel
theorem dX7_copyFrom_20 : decode cX7_copyFrom 20 = .ok (.iaload, 1) := by decide +kernel
theorem dX7_copyFrom_21 : decode cX7_copyFrom 21 = .ok (.iastore, 1) := by decide +kernel
theorem dX7_copyFrom_22 : decode cX7_copyFrom 22 = .ok (.aload_n 0, 1) := by decide +kernel
theorem dX7_copyFrom_23 : decode cX7_copyFrom 23 = .ok (.getfield 15, 3) := by decide +kernel
theorem dX7_copyFrom_26 : decode cX7_copyFrom 26 = .ok (.iload_n 2, 1) := by decide +kernel
theorem dX7_copyFrom_27 : decode cX7_copyFrom 27 = .ok (.aload_n 1, 1) := by decide +kernel
theorem dX7_copyFrom_28 : decode cX7_copyFrom 28 = .ok (.getfield 15, 3) := by decide +kernel
theorem dX7_copyFrom_31 : decode cX7_copyFrom 31 = .ok (.iload_n 2, 1) := by decide +kernel
theorem dX7_copyFrom_32 : decode cX7_copyFrom 32 = .ok (.baload, 1) := by decide +kernel
theorem dX7_copyFrom_33 : decode cX7_copyFrom 33 = .ok (.bastore, 1) := by decide +kernel
theorem dX7_copyFrom_34 : decode cX7_copyFrom 34 = .ok (.aload_n 0, 1) := by decide +kernel
theorem dX7_copyFrom_35 : decode cX7_copyFrom 35 = .ok (.getfield 19, 3) := by decide +kernel
theorem dX7_copyFrom_38 : decode cX7_copyFrom 38 = .ok (.iload_n 2, 1) := by decide +kernel
theorem dX7_copyFrom_39 : decode cX7_copyFrom 39 = .ok (.aload_n 1, 1) := by decide +kernel
theorem dX7_copyFrom_40 : decode cX7_copyFrom 40 = .ok (.getfield 19, 3) := by decide +kernel
theorem dX7_copyFrom_43 : decode cX7_copyFrom 43 = .ok (.iload_n 2, 1) := by decide +kernel
theorem dX7_copyFrom_44 : decode cX7_copyFrom 44 = .ok (.iaload, 1) := by decide +kernel
theorem dX7_copyFrom_45 : decode cX7_copyFrom 45 = .ok (.iastore, 1) := by decide +kernel
theorem dX7_copyFrom_46 : decode cX7_copyFrom 46 = .ok (.aload_n 0, 1) := by decide +kernel
theorem dX7_copyFrom_47 : decode cX7_copyFrom 47 = .ok (.getfield 22, 3) := by decide +kernel
theorem dX7_copyFrom_50 : decode cX7_copyFrom 50 = .ok (.iload_n 2, 1) := by decide +kernel
theorem dX7_copyFrom_51 : decode cX7_copyFrom 51 = .ok (.aload_n 1, 1) := by decide +kernel
theorem dX7_copyFrom_52 : decode cX7_copyFrom 52 = .ok (.getfield 22, 3) := by decide +kernel
theorem dX7_copyFrom_55 : decode cX7_copyFrom 55 = .ok (.iload_n 2, 1) := by decide +kernel
theorem dX7_copyFrom_56 : decode cX7_copyFrom 56 = .ok (.iaload, 1) := by decide +kernel
theorem dX7_copyFrom_57 : decode cX7_copyFrom 57 = .ok (.iastore, 1) := by decide +kernel
theorem dX7_copyFrom_58 : decode cX7_copyFrom 58 = .ok (.aload_n 0, 1) := by decide +kernel
theorem dX7_copyFrom_59 : decode cX7_copyFrom 59 = .ok (.getfield 25, 3) := by decide +kernel
theorem dX7_copyFrom_62 : decode cX7_copyFrom 62 = .ok (.iload_n 2, 1) := by decide +kernel
theorem dX7_copyFrom_63 : decode cX7_copyFrom 63 = .ok (.aload_n 1, 1) := by decide +kernel
theorem dX7_copyFrom_64 : decode cX7_copyFrom 64 = .ok (.getfield 25, 3) := by decide +kernel
theorem dX7_copyFrom_67 : decode cX7_copyFrom 67 = .ok (.iload_n 2, 1) := by decide +kernel
theorem dX7_copyFrom_68 : decode cX7_copyFrom 68 = .ok (.iaload, 1) := by decide +kernel
theorem dX7_copyFrom_69 : decode cX7_copyFrom 69 = .ok (.iastore, 1) := by decide +kernel
theorem dX7_copyFrom_70 : decode cX7_copyFrom 70 = .ok (.aload_n 0, 1) := by decide +kernel
theorem dX7_copyFrom_71 : decode cX7_copyFrom 71 = .ok (.getfield 28, 3) := by decide +kernel
theorem dX7_copyFrom_74 : decode cX7_copyFrom 74 = .ok (.iload_n 2, 1) := by decide +kernel
theorem dX7_copyFrom_75 : decode cX7_copyFrom 75 = .ok (.aload_n 1, 1) := by decide +kernel
theorem dX7_copyFrom_76 : decode cX7_copyFrom 76 = .ok (.getfield 28, 3) := by decide +kernel
theorem dX7_copyFrom_79 : decode cX7_copyFrom 79 = .ok (.iload_n 2, 1) := by decide +kernel
theorem dX7_copyFrom_80 : decode cX7_copyFrom 80 = .ok (.iaload, 1) := by decide +kernel
theorem dX7_copyFrom_81 : decode cX7_copyFrom 81 = .ok (.iastore, 1) := by decide +kernel
theorem dX7_copyFrom_82 : decode cX7_copyFrom 82 = .ok (.iinc 2 1, 3) := by decide +kernel
theorem dX7_copyFrom_85 : decode cX7_copyFrom 85 = .ok (.goto (-83), 3) := by decide +kernel
theorem dX7_copyFrom_88 : decode cX7_copyFrom 88 = .ok (.aload_n 0, 1) := by decide +kernel
theorem dX7_copyFrom_89 : decode cX7_copyFrom 89 = .ok (.aload_n 1, 1) := by decide +kernel
theorem dX7_copyFrom_90 : decode cX7_copyFrom 90 = .ok (.getfield 31, 3) := by decide +kernel
theorem dX7_copyFrom_93 : decode cX7_copyFrom 93 = .ok (.putfield 31, 3) := by decide +kernel
theorem dX7_copyFrom_96 : decode cX7_copyFrom 96 = .ok (.iconst 0, 1) := by decide +kernel
theorem dX7_copyFrom_97 : decode cX7_copyFrom 97 = .ok (.istore_n 2, 1) := by decide +kernel
theorem dX7_copyFrom_98 : decode cX7_copyFrom 98 = .ok (.iload_n 2, 1) := by decide +kernel
theorem dX7_copyFrom_99 : decode cX7_copyFrom 99 = .ok (.iconst 2, 1) := by decide +kernel
theorem dX7_copyFrom_100 : decode cX7_copyFrom 100 = .ok (.if_icmp .ge 21, 3) := by decide +kernel
theorem dX7_copyFrom_103 : decode cX7_copyFrom 103 = .ok (.aload_n 0, 1) := by decide +kernel
theorem dX7_copyFrom_104 : decode cX7_copyFrom 104 = .ok (.getfield 35, 3) := by decide +kernel
theorem dX7_copyFrom_107 : decode cX7_copyFrom 107 = .ok (.iload_n 2, 1) := by decide +kernel
theorem dX7_copyFrom_108 : decode cX7_copyFrom 108 = .ok (.aload_n 1, 1) := by decide +kernel
theorem dX7_copyFrom_109 : decode cX7_copyFrom 109 = .ok (.getfield 35, 3) := by decide +kernel
theorem dX7_copyFrom_112 : decode cX7_copyFrom 112 = .ok (.iload_n 2, 1) := by decide +kernel
theorem dX7_copyFrom_113 : decode cX7_copyFrom 113 = .ok (.iaload, 1) := by decide +kernel
theorem dX7_copyFrom_114 : decode cX7_copyFrom 114 = .ok (.iastore, 1) := by decide +kernel
theorem dX7_copyFrom_115 : decode cX7_copyFrom 115 = .ok (.iinc 2 1, 3) := by decide +kernel
theorem dX7_copyFrom_118 : decode cX7_copyFrom 118 = .ok (.goto (-20), 3) := by decide +kernel
theorem dX7_copyFrom_121 : decode cX7_copyFrom 121 = .ok (.iconst 0, 1) := by decide +kernel
theorem dX7_copyFrom_122 : decode cX7_copyFrom 122 = .ok (.istore_n 2, 1) := by decide +kernel
theorem dX7_copyFrom_123 : decode cX7_copyFrom 123 = .ok (.iload_n 2, 1) := by decide +kernel
theorem dX7_copyFrom_124 : decode cX7_copyFrom 124 = .ok (.iconst 4, 1) := by decide +kernel
theorem dX7_copyFrom_125 : decode cX7_copyFrom 125 = .ok (.if_icmp .ge 21, 3) := by decide +kernel
theorem dX7_copyFrom_128 : decode cX7_copyFrom 128 = .ok (.aload_n 0, 1) := by decide +kernel
theorem dX7_copyFrom_129 : decode cX7_copyFrom 129 = .ok (.getfield 38, 3) := by decide +kernel
theorem dX7_copyFrom_132 : decode cX7_copyFrom 132 = .ok (.iload_n 2, 1) := by decide +kernel
theorem dX7_copyFrom_133 : decode cX7_copyFrom 133 = .ok (.aload_n 1, 1) := by decide +kernel
theorem dX7_copyFrom_134 : decode cX7_copyFrom 134 = .ok (.getfield 38, 3) := by decide +kernel
theorem dX7_copyFrom_137 : decode cX7_copyFrom 137 = .ok (.iload_n 2, 1) := by decide +kernel
theorem dX7_copyFrom_138 : decode cX7_copyFrom 138 = .ok (.faload, 1) := by decide +kernel
theorem dX7_copyFrom_139 : decode cX7_copyFrom 139 = .ok (.fastore, 1) := by decide +kernel
theorem dX7_copyFrom_140 : decode cX7_copyFrom 140 = .ok (.iinc 2 1, 3) := by decide +kernel
theorem dX7_copyFrom_143 : decode cX7_copyFrom 143 = .ok (.goto (-20), 3) := by decide +kernel
theorem dX7_copyFrom_146 : decode cX7_copyFrom 146 = .ok (.aload_n 0, 1) := by decide +kernel
theorem dX7_copyFrom_147 : decode cX7_copyFrom 147 = .ok (.aload_n 1, 1) := by decide +kernel
theorem dX7_copyFrom_148 : decode cX7_copyFrom 148 = .ok (.getfield 42, 3) := by decide +kernel
theorem dX7_copyFrom_151 : decode cX7_copyFrom 151 = .ok (.putfield 42, 3) := by decide +kernel
theorem dX7_copyFrom_154 : decode cX7_copyFrom 154 = .ok (.return_, 1) := by decide +kernel
theorem dX7_isGarment_0 : decode cX7_isGarment 0 = .ok (.iload_n 1, 1) := by decide +kernel
theorem dX7_isGarment_1 : decode cX7_isGarment 1 = .ok (.ifCond .lt 15, 3) := by decide +kernel
theorem dX7_isGarment_4 : decode cX7_isGarment 4 = .ok (.iload_n 1, 1) := by decide +kernel
theorem dX7_isGarment_5 : decode cX7_isGarment 5 = .ok (.aload_n 0, 1) := by decide +kernel
theorem dX7_isGarment_6 : decode cX7_isGarment 6 = .ok (.getfield 31, 3) := by decide +kernel
theorem dX7_isGarment_9 : decode cX7_isGarment 9 = .ok (.if_icmp .ge 7, 3) := by decide +kernel
theorem dX7_isGarment_12 : decode cX7_isGarment 12 = .ok (.iconst 1, 1) := by decide +kernel
theorem dX7_isGarment_13 : decode cX7_isGarment 13 = .ok (.goto 4, 3) := by decide +kernel
theorem dX7_isGarment_16 : decode cX7_isGarment 16 = .ok (.iconst 0, 1) := by decide +kernel
theorem dX7_isGarment_17 : decode cX7_isGarment 17 = .ok (.ireturn, 1) := by decide +kernel
theorem dX7_faultOfBringing_0 : decode cX7_faultOfBringing 0 = .ok (.iload_n 1, 1) := by decide +kernel
theorem dX7_faultOfBringing_1 : decode cX7_faultOfBringing 1 = .ok (.invokestatic 45, 3) := by decide +kernel
theorem dX7_faultOfBringing_4 : decode cX7_faultOfBringing 4 = .ok (.ifCond .ne 7, 3) := by decide +kernel
theorem dX7_faultOfBringing_7 : decode cX7_faultOfBringing 7 = .ok (.getstatic 49, 3) := by decide +kernel
theorem dX7_faultOfBringing_10 : decode cX7_faultOfBringing 10 = .ok (.areturn, 1) := by decide +kernel
theorem dX7_faultOfBringing_11 : decode cX7_faultOfBringing 11 = .ok (.iload_n 2, 1) := by decide +kernel
theorem dX7_faultOfBringing_12 : decode cX7_faultOfBringing 12 = .ok (.ifCond .lt 20, 3) := by decide +kernel
theorem dX7_faultOfBringing_15 : decode cX7_faultOfBringing 15 = .ok (.iload_n 2, 1) := by decide +kernel
theorem dX7_faultOfBringing_16 : decode cX7_faultOfBringing 16 = .ok (.bipush 8, 2) := by decide +kernel
theorem dX7_faultOfBringing_18 : decode cX7_faultOfBringing 18 = .ok (.if_icmp .ge 14, 3) := by decide +kernel
theorem dX7_faultOfBringing_21 : decode cX7_faultOfBringing 21 = .ok (.iload_n 3, 1) := by decide +kernel
theorem dX7_faultOfBringing_22 : decode cX7_faultOfBringing 22 = .ok (.ifCond .lt 10, 3) := by decide +kernel
theorem dX7_faultOfBringing_25 : decode cX7_faultOfBringing 25 = .ok (.iload_n 3, 1) := by decide +kernel
theorem dX7_faultOfBringing_26 : decode cX7_faultOfBringing 26 = .ok (.sipush 255, 3) := by decide +kernel
theorem dX7_faultOfBringing_29 : decode cX7_faultOfBringing 29 = .ok (.if_icmp .le 7, 3) := by decide +kernel
theorem dX7_faultOfBringing_32 : decode cX7_faultOfBringing 32 = .ok (.getstatic 55, 3) := by decide +kernel
theorem dX7_faultOfBringing_35 : decode cX7_faultOfBringing 35 = .ok (.areturn, 1) := by decide +kernel
theorem dX7_faultOfBringing_36 : decode cX7_faultOfBringing 36 = .ok (.aload_n 0, 1) := by decide +kernel
theorem dX7_faultOfBringing_37 : decode cX7_faultOfBringing 37 = .ok (.getfield 31, 3) := by decide +kernel
theorem dX7_faultOfBringing_40 : decode cX7_faultOfBringing 40 = .ok (.bipush 16, 2) := by decide +kernel
theorem dX7_faultOfBringing_42 : decode cX7_faultOfBringing 42 = .ok (.if_icmp .lt 9, 3) := by decide +kernel
theorem dX7_faultOfBringing_45 : decode cX7_faultOfBringing 45 = .ok (.getstatic 58, 3) := by decide +kernel
theorem dX7_faultOfBringing_48 : decode cX7_faultOfBringing 48 = .ok (.goto 6, 3) := by decide +kernel
theorem dX7_faultOfBringing_51 : decode cX7_faultOfBringing 51 = .ok (.getstatic 61, 3) := by decide +kernel
theorem dX7_faultOfBringing_54 : decode cX7_faultOfBringing 54 = .ok (.areturn, 1) := by decide +kernel
theorem dX7_faultOfLoading_0 : decode cX7_faultOfLoading 0 = .ok (.aload_n 0, 1) := by decide +kernel
theorem dX7_faultOfLoading_1 : decode cX7_faultOfLoading 1 = .ok (.iload_n 1, 1) := by decide +kernel
theorem dX7_faultOfLoading_2 : decode cX7_faultOfLoading 2 = .ok (.invokevirtual 64, 3) := by decide +kernel
theorem dX7_faultOfLoading_5 : decode cX7_faultOfLoading 5 = .ok (.ifCond .eq 10, 3) := by decide +kernel
theorem dX7_faultOfLoading_8 : decode cX7_faultOfLoading 8 = .ok (.iload_n 2, 1) := by decide +kernel
theorem dX7_faultOfLoading_9 : decode cX7_faultOfLoading 9 = .ok (.invokestatic 67, 3) := by decide +kernel
theorem dX7_faultOfLoading_12 : decode cX7_faultOfLoading 12 = .ok (.ifCond .ne 7, 3) := by decide +kernel
theorem dX7_faultOfLoading_15 : decode cX7_faultOfLoading 15 = .ok (.getstatic 49, 3) := by decide +kernel
theorem dX7_faultOfLoading_18 : decode cX7_faultOfLoading 18 = .ok (.areturn, 1) := by decide +kernel
theorem dX7_faultOfLoading_19 : decode cX7_faultOfLoading 19 = .ok (.aload_n 0, 1) := by decide +kernel
theorem dX7_faultOfLoading_20 : decode cX7_faultOfLoading 20 = .ok (.getfield 25, 3) := by decide +kernel
theorem dX7_faultOfLoading_23 : decode cX7_faultOfLoading 23 = .ok (.iload_n 1, 1) := by decide +kernel
theorem dX7_faultOfLoading_24 : decode cX7_faultOfLoading 24 = .ok (.iaload, 1) := by decide +kernel
theorem dX7_faultOfLoading_25 : decode cX7_faultOfLoading 25 = .ok (.ifCond .eq 7, 3) := by decide +kernel
theorem dX7_faultOfLoading_28 : decode cX7_faultOfLoading 28 = .ok (.getstatic 70, 3) := by decide +kernel
theorem dX7_faultOfLoading_31 : decode cX7_faultOfLoading 31 = .ok (.areturn, 1) := by decide +kernel
theorem dX7_faultOfLoading_32 : decode cX7_faultOfLoading 32 = .ok (.aload_n 0, 1) := by decide +kernel
theorem dX7_faultOfLoading_33 : decode cX7_faultOfLoading 33 = .ok (.iload_n 2, 1) := by decide +kernel
theorem dX7_faultOfLoading_34 : decode cX7_faultOfLoading 34 = .ok (.invokevirtual 73, 3) := by decide +kernel
theorem dX7_faultOfLoading_37 : decode cX7_faultOfLoading 37 = .ok (.iconst 5, 1) := by decide +kernel
theorem dX7_faultOfLoading_38 : decode cX7_faultOfLoading 38 = .ok (.if_icmp .lt 9, 3) := by decide +kernel
theorem dX7_faultOfLoading_41 : decode cX7_faultOfLoading 41 = .ok (.getstatic 58, 3) := by decide +kernel
theorem dX7_faultOfLoading_44 : decode cX7_faultOfLoading 44 = .ok (.goto 6, 3) := by decide +kernel
theorem dX7_faultOfLoading_47 : decode cX7_faultOfLoading 47 = .ok (.getstatic 61, 3) := by decide +kernel
theorem dX7_faultOfLoading_50 : decode cX7_faultOfLoading 50 = .ok (.areturn, 1) := by decide +kernel
theorem dX7_faultOfTakingOut_0 : decode cX7_faultOfTakingOut 0 = .ok (.aload_n 0, 1) := by decide +kernel
theorem dX7_faultOfTakingOut_1 : decode cX7_faultOfTakingOut 1 = .ok (.iload_n 1, 1) := by decide +kernel
theorem dX7_faultOfTakingOut_2 : decode cX7_faultOfTakingOut 2 = .ok (.invokevirtual 64, 3) := by decide +kernel
theorem dX7_faultOfTakingOut_5 : decode cX7_faultOfTakingOut 5 = .ok (.ifCond .ne 7, 3) := by decide +kernel
theorem dX7_faultOfTakingOut_8 : decode cX7_faultOfTakingOut 8 = .ok (.getstatic 49, 3) := by decide +kernel
theorem dX7_faultOfTakingOut_11 : decode cX7_faultOfTakingOut 11 = .ok (.areturn, 1) := by decide +kernel
theorem dX7_faultOfTakingOut_12 : decode cX7_faultOfTakingOut 12 = .ok (.aload_n 0, 1) := by decide +kernel
theorem dX7_faultOfTakingOut_13 : decode cX7_faultOfTakingOut 13 = .ok (.getfield 25, 3) := by decide +kernel
theorem dX7_faultOfTakingOut_16 : decode cX7_faultOfTakingOut 16 = .ok (.iload_n 1, 1) := by decide +kernel
theorem dX7_faultOfTakingOut_17 : decode cX7_faultOfTakingOut 17 = .ok (.iaload, 1) := by decide +kernel
theorem dX7_faultOfTakingOut_18 : decode cX7_faultOfTakingOut 18 = .ok (.ifCond .eq 17, 3) := by decide +kernel
theorem dX7_faultOfTakingOut_21 : decode cX7_faultOfTakingOut 21 = .ok (.aload_n 0, 1) := by decide +kernel
theorem dX7_faultOfTakingOut_22 : decode cX7_faultOfTakingOut 22 = .ok (.getfield 25, 3) := by decide +kernel
theorem dX7_faultOfTakingOut_25 : decode cX7_faultOfTakingOut 25 = .ok (.iload_n 1, 1) := by decide +kernel
theorem dX7_faultOfTakingOut_26 : decode cX7_faultOfTakingOut 26 = .ok (.iaload, 1) := by decide +kernel
theorem dX7_faultOfTakingOut_27 : decode cX7_faultOfTakingOut 27 = .ok (.iconst 3, 1) := by decide +kernel
theorem dX7_faultOfTakingOut_28 : decode cX7_faultOfTakingOut 28 = .ok (.if_icmp .eq 7, 3) := by decide +kernel
theorem dX7_faultOfTakingOut_31 : decode cX7_faultOfTakingOut 31 = .ok (.iconst 1, 1) := by decide +kernel
theorem dX7_faultOfTakingOut_32 : decode cX7_faultOfTakingOut 32 = .ok (.goto 4, 3) := by decide +kernel
theorem dX7_faultOfTakingOut_35 : decode cX7_faultOfTakingOut 35 = .ok (.iconst 0, 1) := by decide +kernel
theorem dX7_faultOfTakingOut_36 : decode cX7_faultOfTakingOut 36 = .ok (.istore_n 2, 1) := by decide +kernel
theorem dX7_faultOfTakingOut_37 : decode cX7_faultOfTakingOut 37 = .ok (.iload_n 2, 1) := by decide +kernel
theorem dX7_faultOfTakingOut_38 : decode cX7_faultOfTakingOut 38 = .ok (.ifCond .eq 9, 3) := by decide +kernel
theorem dX7_faultOfTakingOut_41 : decode cX7_faultOfTakingOut 41 = .ok (.getstatic 61, 3) := by decide +kernel
theorem dX7_faultOfTakingOut_44 : decode cX7_faultOfTakingOut 44 = .ok (.goto 6, 3) := by decide +kernel
theorem dX7_faultOfTakingOut_47 : decode cX7_faultOfTakingOut 47 = .ok (.getstatic 70, 3) := by decide +kernel
theorem dX7_faultOfTakingOut_50 : decode cX7_faultOfTakingOut 50 = .ok (.areturn, 1) := by decide +kernel
theorem dX7_faultOfHeating_0 : decode cX7_faultOfHeating 0 = .ok (.iload_n 1, 1) := by decide +kernel
theorem dX7_faultOfHeating_1 : decode cX7_faultOfHeating 1 = .ok (.invokestatic 67, 3) := by decide +kernel
theorem dX7_faultOfHeating_4 : decode cX7_faultOfHeating 4 = .ok (.ifCond .ne 7, 3) := by decide +kernel
theorem dX7_faultOfHeating_7 : decode cX7_faultOfHeating 7 = .ok (.getstatic 49, 3) := by decide +kernel
theorem dX7_faultOfHeating_10 : decode cX7_faultOfHeating 10 = .ok (.areturn, 1) := by decide +kernel
theorem dX7_faultOfHeating_11 : decode cX7_faultOfHeating 11 = .ok (.iload_n 2, 1) := by decide +kernel
theorem dX7_faultOfHeating_12 : decode cX7_faultOfHeating 12 = .ok (.bipush 40, 2) := by decide +kernel
theorem dX7_faultOfHeating_14 : decode cX7_faultOfHeating 14 = .ok (.if_icmp .lt 14, 3) := by decide +kernel
theorem dX7_faultOfHeating_17 : decode cX7_faultOfHeating 17 = .ok (.iload_n 2, 1) := by decide +kernel
theorem dX7_faultOfHeating_18 : decode cX7_faultOfHeating 18 = .ok (.sipush 180, 3) := by decide +kernel
theorem dX7_faultOfHeating_21 : decode cX7_faultOfHeating 21 = .ok (.if_icmp .gt 7, 3) := by decide +kernel
theorem dX7_faultOfHeating_24 : decode cX7_faultOfHeating 24 = .ok (.iconst 1, 1) := by decide +kernel
theorem dX7_faultOfHeating_25 : decode cX7_faultOfHeating 25 = .ok (.goto 4, 3) := by decide +kernel
theorem dX7_faultOfHeating_28 : decode cX7_faultOfHeating 28 = .ok (.iconst 0, 1) := by decide +kernel
theorem dX7_faultOfHeating_29 : decode cX7_faultOfHeating 29 = .ok (.istore_n 3, 1) := by decide +kernel
theorem dX7_faultOfHeating_30 : decode cX7_faultOfHeating 30 = .ok (.iload_n 3, 1) := by decide +kernel
theorem dX7_faultOfHeating_31 : decode cX7_faultOfHeating 31 = .ok (.ifCond .eq 9, 3) := by decide +kernel
theorem dX7_faultOfHeating_34 : decode cX7_faultOfHeating 34 = .ok (.getstatic 61, 3) := by decide +kernel
theorem dX7_faultOfHeating_37 : decode cX7_faultOfHeating 37 = .ok (.goto 6, 3) := by decide +kernel
theorem dX7_faultOfHeating_40 : decode cX7_faultOfHeating 40 = .ok (.getstatic 55, 3) := by decide +kernel
theorem dX7_faultOfHeating_43 : decode cX7_faultOfHeating 43 = .ok (.areturn, 1) := by decide +kernel
theorem dX7_faultOfRunning_0 : decode cX7_faultOfRunning 0 = .ok (.iload_n 1, 1) := by decide +kernel
theorem dX7_faultOfRunning_1 : decode cX7_faultOfRunning 1 = .ok (.invokestatic 67, 3) := by decide +kernel
theorem dX7_faultOfRunning_4 : decode cX7_faultOfRunning 4 = .ok (.ifCond .ne 7, 3) := by decide +kernel
theorem dX7_faultOfRunning_7 : decode cX7_faultOfRunning 7 = .ok (.getstatic 49, 3) := by decide +kernel
theorem dX7_faultOfRunning_10 : decode cX7_faultOfRunning 10 = .ok (.areturn, 1) := by decide +kernel
theorem dX7_faultOfRunning_11 : decode cX7_faultOfRunning 11 = .ok (.aload_n 0, 1) := by decide +kernel
theorem dX7_faultOfRunning_12 : decode cX7_faultOfRunning 12 = .ok (.iload_n 1, 1) := by decide +kernel
theorem dX7_faultOfRunning_13 : decode cX7_faultOfRunning 13 = .ok (.invokevirtual 73, 3) := by decide +kernel
theorem dX7_faultOfRunning_16 : decode cX7_faultOfRunning 16 = .ok (.ifCond .ne 9, 3) := by decide +kernel
theorem dX7_faultOfRunning_19 : decode cX7_faultOfRunning 19 = .ok (.getstatic 58, 3) := by decide +kernel
theorem dX7_faultOfRunning_22 : decode cX7_faultOfRunning 22 = .ok (.goto 6, 3) := by decide +kernel
theorem dX7_faultOfRunning_25 : decode cX7_faultOfRunning 25 = .ok (.getstatic 61, 3) := by decide +kernel
theorem dX7_faultOfRunning_28 : decode cX7_faultOfRunning 28 = .ok (.areturn, 1) := by decide +kernel
theorem dX7_addGarment_0 : decode cX7_addGarment 0 = .ok (.aload_n 0, 1) := by decide +kernel
theorem dX7_addGarment_1 : decode cX7_addGarment 1 = .ok (.getfield 31, 3) := by decide +kernel
theorem dX7_addGarment_4 : decode cX7_addGarment 4 = .ok (.istore 5, 2) := by decide +kernel
theorem dX7_addGarment_6 : decode cX7_addGarment 6 = .ok (.aload_n 0, 1) := by decide +kernel
theorem dX7_addGarment_7 : decode cX7_addGarment 7 = .ok (.getfield 9, 3) := by decide +kernel
theorem dX7_addGarment_10 : decode cX7_addGarment 10 = .ok (.iload 5, 2) := by decide +kernel
theorem dX7_addGarment_12 : decode cX7_addGarment 12 = .ok (.iload_n 1, 1) := by decide +kernel
theorem dX7_addGarment_13 : decode cX7_addGarment 13 = .ok (.iastore, 1) := by decide +kernel
theorem dX7_addGarment_14 : decode cX7_addGarment 14 = .ok (.aload_n 0, 1) := by decide +kernel
theorem dX7_addGarment_15 : decode cX7_addGarment 15 = .ok (.getfield 15, 3) := by decide +kernel
theorem dX7_addGarment_18 : decode cX7_addGarment 18 = .ok (.iload 5, 2) := by decide +kernel
theorem dX7_addGarment_20 : decode cX7_addGarment 20 = .ok (.iload_n 2, 1) := by decide +kernel
theorem dX7_addGarment_21 : decode cX7_addGarment 21 = .ok (.bastore, 1) := by decide +kernel
theorem dX7_addGarment_22 : decode cX7_addGarment 22 = .ok (.aload_n 0, 1) := by decide +kernel
theorem dX7_addGarment_23 : decode cX7_addGarment 23 = .ok (.getfield 19, 3) := by decide +kernel
theorem dX7_addGarment_26 : decode cX7_addGarment 26 = .ok (.iload 5, 2) := by decide +kernel
theorem dX7_addGarment_28 : decode cX7_addGarment 28 = .ok (.iload_n 3, 1) := by decide +kernel
theorem dX7_addGarment_29 : decode cX7_addGarment 29 = .ok (.iastore, 1) := by decide +kernel
theorem dX7_addGarment_30 : decode cX7_addGarment 30 = .ok (.aload_n 0, 1) := by decide +kernel
theorem dX7_addGarment_31 : decode cX7_addGarment 31 = .ok (.getfield 22, 3) := by decide +kernel
theorem dX7_addGarment_34 : decode cX7_addGarment 34 = .ok (.iload 5, 2) := by decide +kernel
theorem dX7_addGarment_36 : decode cX7_addGarment 36 = .ok (.iload 4, 2) := by decide +kernel
theorem dX7_addGarment_38 : decode cX7_addGarment 38 = .ok (.iastore, 1) := by decide +kernel
theorem dX7_addGarment_39 : decode cX7_addGarment 39 = .ok (.aload_n 0, 1) := by decide +kernel
theorem dX7_addGarment_40 : decode cX7_addGarment 40 = .ok (.getfield 25, 3) := by decide +kernel
theorem dX7_addGarment_43 : decode cX7_addGarment 43 = .ok (.iload 5, 2) := by decide +kernel
theorem dX7_addGarment_45 : decode cX7_addGarment 45 = .ok (.iconst 0, 1) := by decide +kernel
theorem dX7_addGarment_46 : decode cX7_addGarment 46 = .ok (.iastore, 1) := by decide +kernel
theorem dX7_addGarment_47 : decode cX7_addGarment 47 = .ok (.aload_n 0, 1) := by decide +kernel
theorem dX7_addGarment_48 : decode cX7_addGarment 48 = .ok (.getfield 28, 3) := by decide +kernel
theorem dX7_addGarment_51 : decode cX7_addGarment 51 = .ok (.iload 5, 2) := by decide +kernel
theorem dX7_addGarment_53 : decode cX7_addGarment 53 = .ok (.iconst 0, 1) := by decide +kernel
theorem dX7_addGarment_54 : decode cX7_addGarment 54 = .ok (.iastore, 1) := by decide +kernel
theorem dX7_addGarment_55 : decode cX7_addGarment 55 = .ok (.aload_n 0, 1) := by decide +kernel
theorem dX7_addGarment_56 : decode cX7_addGarment 56 = .ok (.dup, 1) := by decide +kernel
theorem dX7_addGarment_57 : decode cX7_addGarment 57 = .ok (.getfield 31, 3) := by decide +kernel
theorem dX7_addGarment_60 : decode cX7_addGarment 60 = .ok (.iconst 1, 1) := by decide +kernel
theorem dX7_addGarment_61 : decode cX7_addGarment 61 = .ok (.iadd, 1) := by decide +kernel
theorem dX7_addGarment_62 : decode cX7_addGarment 62 = .ok (.putfield 31, 3) := by decide +kernel
theorem dX7_addGarment_65 : decode cX7_addGarment 65 = .ok (.iload 5, 2) := by decide +kernel
theorem dX7_addGarment_67 : decode cX7_addGarment 67 = .ok (.ireturn, 1) := by decide +kernel
theorem dX7_putIntoMachine_0 : decode cX7_putIntoMachine 0 = .ok (.aload_n 0, 1) := by decide +kernel
theorem dX7_putIntoMachine_1 : decode cX7_putIntoMachine 1 = .ok (.getfield 25, 3) := by decide +kernel
theorem dX7_putIntoMachine_4 : decode cX7_putIntoMachine 4 = .ok (.iload_n 1, 1) := by decide +kernel
theorem dX7_putIntoMachine_5 : decode cX7_putIntoMachine 5 = .ok (.iconst 1, 1) := by decide +kernel
theorem dX7_putIntoMachine_6 : decode cX7_putIntoMachine 6 = .ok (.iload_n 2, 1) := by decide +kernel
theorem dX7_putIntoMachine_7 : decode cX7_putIntoMachine 7 = .ok (.iadd, 1) := by decide +kernel
theorem dX7_putIntoMachine_8 : decode cX7_putIntoMachine 8 = .ok (.iastore, 1) := by decide +kernel
theorem dX7_putIntoMachine_9 : decode cX7_putIntoMachine 9 = .ok (.return_, 1) := by decide +kernel
theorem dX7_putBackIntoBag_0 : decode cX7_putBackIntoBag 0 = .ok (.aload_n 0, 1) := by decide +kernel
theorem dX7_putBackIntoBag_1 : decode cX7_putBackIntoBag 1 = .ok (.getfield 25, 3) := by decide +kernel
theorem dX7_putBackIntoBag_4 : decode cX7_putBackIntoBag 4 = .ok (.iload_n 1, 1) := by decide +kernel
theorem dX7_putBackIntoBag_5 : decode cX7_putBackIntoBag 5 = .ok (.iaload, 1) := by decide +kernel
theorem dX7_putBackIntoBag_6 : decode cX7_putBackIntoBag 6 = .ok (.iconst 1, 1) := by decide +kernel
theorem dX7_putBackIntoBag_7 : decode cX7_putBackIntoBag 7 = .ok (.isub, 1) := by decide +kernel
theorem dX7_putBackIntoBag_8 : decode cX7_putBackIntoBag 8 = .ok (.istore_n 2, 1) := by decide +kernel
theorem dX7_putBackIntoBag_9 : decode cX7_putBackIntoBag 9 = .ok (.aload_n 0, 1) := by decide +kernel
theorem dX7_putBackIntoBag_10 : decode cX7_putBackIntoBag 10 = .ok (.getfield 25, 3) := by decide +kernel
theorem dX7_putBackIntoBag_13 : decode cX7_putBackIntoBag 13 = .ok (.iload_n 1, 1) := by decide +kernel
theorem dX7_putBackIntoBag_14 : decode cX7_putBackIntoBag 14 = .ok (.iconst 0, 1) := by decide +kernel
theorem dX7_putBackIntoBag_15 : decode cX7_putBackIntoBag 15 = .ok (.iastore, 1) := by decide +kernel
theorem dX7_putBackIntoBag_16 : decode cX7_putBackIntoBag 16 = .ok (.iload_n 2, 1) := by decide +kernel
theorem dX7_putBackIntoBag_17 : decode cX7_putBackIntoBag 17 = .ok (.ireturn, 1) := by decide +kernel
theorem dX7_degrees_0 : decode cX7_degrees 0 = .ok (.aload_n 0, 1) := by decide +kernel
theorem dX7_degrees_1 : decode cX7_degrees 1 = .ok (.getfield 35, 3) := by decide +kernel
theorem dX7_degrees_4 : decode cX7_degrees 4 = .ok (.iload_n 1, 1) := by decide +kernel
theorem dX7_degrees_5 : decode cX7_degrees 5 = .ok (.iaload, 1) := by decide +kernel
theorem dX7_degrees_6 : decode cX7_degrees 6 = .ok (.i2f, 1) := by decide +kernel
theorem dX7_degrees_7 : decode cX7_degrees 7 = .ok (.fconst 2, 1) := by decide +kernel
theorem dX7_degrees_8 : decode cX7_degrees 8 = .ok (.fdiv, 1) := by decide +kernel
theorem dX7_degrees_9 : decode cX7_degrees 9 = .ok (.freturn, 1) := by decide +kernel
theorem dX7_stainsOn_0 : decode cX7_stainsOn 0 = .ok (.aload_n 0, 1) := by decide +kernel
theorem dX7_stainsOn_1 : decode cX7_stainsOn 1 = .ok (.getfield 22, 3) := by decide +kernel
theorem dX7_stainsOn_4 : decode cX7_stainsOn 4 = .ok (.iload_n 1, 1) := by decide +kernel
theorem dX7_stainsOn_5 : decode cX7_stainsOn 5 = .ok (.iaload, 1) := by decide +kernel
theorem dX7_stainsOn_6 : decode cX7_stainsOn 6 = .ok (.invokestatic 77, 3) := by decide +kernel
theorem dX7_stainsOn_9 : decode cX7_stainsOn 9 = .ok (.ireturn, 1) := by decide +kernel
theorem dX7_isInBagOf_0 : decode cX7_isInBagOf 0 = .ok (.aload_n 0, 1) := by decide +kernel
theorem dX7_isInBagOf_1 : decode cX7_isInBagOf 1 = .ok (.getfield 25, 3) := by decide +kernel
theorem dX7_isInBagOf_4 : decode cX7_isInBagOf 4 = .ok (.iload_n 1, 1) := by decide +kernel
theorem dX7_isInBagOf_5 : decode cX7_isInBagOf 5 = .ok (.iaload, 1) := by decide +kernel
theorem dX7_isInBagOf_6 : decode cX7_isInBagOf 6 = .ok (.ifCond .ne 17, 3) := by decide +kernel
theorem dX7_isInBagOf_9 : decode cX7_isInBagOf 9 = .ok (.aload_n 0, 1) := by decide +kernel
theorem dX7_isInBagOf_10 : decode cX7_isInBagOf 10 = .ok (.getfield 9, 3) := by decide +kernel
theorem dX7_isInBagOf_13 : decode cX7_isInBagOf 13 = .ok (.iload_n 1, 1) := by decide +kernel
theorem dX7_isInBagOf_14 : decode cX7_isInBagOf 14 = .ok (.iaload, 1) := by decide +kernel
theorem dX7_isInBagOf_15 : decode cX7_isInBagOf 15 = .ok (.iload_n 2, 1) := by decide +kernel
theorem dX7_isInBagOf_16 : decode cX7_isInBagOf 16 = .ok (.if_icmp .ne 7, 3) := by decide +kernel
theorem dX7_isInBagOf_19 : decode cX7_isInBagOf 19 = .ok (.iconst 1, 1) := by decide +kernel
theorem dX7_isInBagOf_20 : decode cX7_isInBagOf 20 = .ok (.goto 4, 3) := by decide +kernel
theorem dX7_isInBagOf_23 : decode cX7_isInBagOf 23 = .ok (.iconst 0, 1) := by decide +kernel
theorem dX7_isInBagOf_24 : decode cX7_isInBagOf 24 = .ok (.ireturn, 1) := by decide +kernel
theorem dX7_isIn_0 : decode cX7_isIn 0 = .ok (.aload_n 0, 1) := by decide +kernel
theorem dX7_isIn_1 : decode cX7_isIn 1 = .ok (.getfield 25, 3) := by decide +kernel
theorem dX7_isIn_4 : decode cX7_isIn 4 = .ok (.iload_n 1, 1) := by decide +kernel
theorem dX7_isIn_5 : decode cX7_isIn 5 = .ok (.iaload, 1) := by decide +kernel
theorem dX7_isIn_6 : decode cX7_isIn 6 = .ok (.iconst 1, 1) := by decide +kernel
theorem dX7_isIn_7 : decode cX7_isIn 7 = .ok (.iload_n 2, 1) := by decide +kernel
theorem dX7_isIn_8 : decode cX7_isIn 8 = .ok (.iadd, 1) := by decide +kernel
theorem dX7_isIn_9 : decode cX7_isIn 9 = .ok (.if_icmp .ne 7, 3) := by decide +kernel
theorem dX7_isIn_12 : decode cX7_isIn 12 = .ok (.iconst 1, 1) := by decide +kernel
theorem dX7_isIn_13 : decode cX7_isIn 13 = .ok (.goto 4, 3) := by decide +kernel
theorem dX7_isIn_16 : decode cX7_isIn 16 = .ok (.iconst 0, 1) := by decide +kernel
theorem dX7_isIn_17 : decode cX7_isIn 17 = .ok (.ireturn, 1) := by decide +kernel
theorem dX7_garmentsInBag_0 : decode cX7_garmentsInBag 0 = .ok (.iconst 0, 1) := by decide +kernel
theorem dX7_garmentsInBag_1 : decode cX7_garmentsInBag 1 = .ok (.istore_n 2, 1) := by decide +kernel
theorem dX7_garmentsInBag_2 : decode cX7_garmentsInBag 2 = .ok (.iconst 0, 1) := by decide +kernel
theorem dX7_garmentsInBag_3 : decode cX7_garmentsInBag 3 = .ok (.istore_n 3, 1) := by decide +kernel
theorem dX7_garmentsInBag_4 : decode cX7_garmentsInBag 4 = .ok (.iload_n 3, 1) := by decide +kernel
theorem dX7_garmentsInBag_5 : decode cX7_garmentsInBag 5 = .ok (.aload_n 0, 1) := by decide +kernel
theorem dX7_garmentsInBag_6 : decode cX7_garmentsInBag 6 = .ok (.getfield 31, 3) := by decide +kernel
theorem dX7_garmentsInBag_9 : decode cX7_garmentsInBag 9 = .ok (.if_icmp .ge 24, 3) := by decide +kernel
theorem dX7_garmentsInBag_12 : decode cX7_garmentsInBag 12 = .ok (.aload_n 0, 1) := by decide +kernel
theorem dX7_garmentsInBag_13 : decode cX7_garmentsInBag 13 = .ok (.iload_n 3, 1) := by decide +kernel
theorem dX7_garmentsInBag_14 : decode cX7_garmentsInBag 14 = .ok (.iload_n 1, 1) := by decide +kernel
theorem dX7_garmentsInBag_15 : decode cX7_garmentsInBag 15 = .ok (.invokevirtual 82, 3) := by decide +kernel
theorem dX7_garmentsInBag_18 : decode cX7_garmentsInBag 18 = .ok (.ifCond .eq 9, 3) := by decide +kernel
theorem dX7_garmentsInBag_21 : decode cX7_garmentsInBag 21 = .ok (.iload_n 2, 1) := by decide +kernel
theorem dX7_garmentsInBag_22 : decode cX7_garmentsInBag 22 = .ok (.iconst 1, 1) := by decide +kernel
theorem dX7_garmentsInBag_23 : decode cX7_garmentsInBag 23 = .ok (.iload_n 3, 1) := by decide +kernel
theorem dX7_garmentsInBag_24 : decode cX7_garmentsInBag 24 = .ok (.ishl, 1) := by decide +kernel
theorem dX7_garmentsInBag_25 : decode cX7_garmentsInBag 25 = .ok (.ior, 1) := by decide +kernel
theorem dX7_garmentsInBag_26 : decode cX7_garmentsInBag 26 = .ok (.istore_n 2, 1) := by decide +kernel
theorem dX7_garmentsInBag_27 : decode cX7_garmentsInBag 27 = .ok (.iinc 3 1, 3) := by decide +kernel
theorem dX7_garmentsInBag_30 : decode cX7_garmentsInBag 30 = .ok (.goto (-26), 3) := by decide +kernel
theorem dX7_garmentsInBag_33 : decode cX7_garmentsInBag 33 = .ok (.iload_n 2, 1) := by decide +kernel
theorem dX7_garmentsInBag_34 : decode cX7_garmentsInBag 34 = .ok (.ireturn, 1) := by decide +kernel
theorem dX7_garmentsAt_0 : decode cX7_garmentsAt 0 = .ok (.iconst 0, 1) := by decide +kernel
theorem dX7_garmentsAt_1 : decode cX7_garmentsAt 1 = .ok (.istore_n 2, 1) := by decide +kernel
theorem dX7_garmentsAt_2 : decode cX7_garmentsAt 2 = .ok (.iconst 0, 1) := by decide +kernel
theorem dX7_garmentsAt_3 : decode cX7_garmentsAt 3 = .ok (.istore_n 3, 1) := by decide +kernel
theorem dX7_garmentsAt_4 : decode cX7_garmentsAt 4 = .ok (.iload_n 3, 1) := by decide +kernel
theorem dX7_garmentsAt_5 : decode cX7_garmentsAt 5 = .ok (.aload_n 0, 1) := by decide +kernel
theorem dX7_garmentsAt_6 : decode cX7_garmentsAt 6 = .ok (.getfield 31, 3) := by decide +kernel
theorem dX7_garmentsAt_9 : decode cX7_garmentsAt 9 = .ok (.if_icmp .ge 25, 3) := by decide +kernel
theorem dX7_garmentsAt_12 : decode cX7_garmentsAt 12 = .ok (.aload_n 0, 1) := by decide +kernel
theorem dX7_garmentsAt_13 : decode cX7_garmentsAt 13 = .ok (.getfield 25, 3) := by decide +kernel
theorem dX7_garmentsAt_16 : decode cX7_garmentsAt 16 = .ok (.iload_n 3, 1) := by decide +kernel
theorem dX7_garmentsAt_17 : decode cX7_garmentsAt 17 = .ok (.iaload, 1) := by decide +kernel
theorem dX7_garmentsAt_18 : decode cX7_garmentsAt 18 = .ok (.iload_n 1, 1) := by decide +kernel
theorem dX7_garmentsAt_19 : decode cX7_garmentsAt 19 = .ok (.if_icmp .ne 9, 3) := by decide +kernel
theorem dX7_garmentsAt_22 : decode cX7_garmentsAt 22 = .ok (.iload_n 2, 1) := by decide +kernel
theorem dX7_garmentsAt_23 : decode cX7_garmentsAt 23 = .ok (.iconst 1, 1) := by decide +kernel
theorem dX7_garmentsAt_24 : decode cX7_garmentsAt 24 = .ok (.iload_n 3, 1) := by decide +kernel
theorem dX7_garmentsAt_25 : decode cX7_garmentsAt 25 = .ok (.ishl, 1) := by decide +kernel
theorem dX7_garmentsAt_26 : decode cX7_garmentsAt 26 = .ok (.ior, 1) := by decide +kernel
theorem dX7_garmentsAt_27 : decode cX7_garmentsAt 27 = .ok (.istore_n 2, 1) := by decide +kernel
theorem dX7_garmentsAt_28 : decode cX7_garmentsAt 28 = .ok (.iinc 3 1, 3) := by decide +kernel
theorem dX7_garmentsAt_31 : decode cX7_garmentsAt 31 = .ok (.goto (-27), 3) := by decide +kernel
theorem dX7_garmentsAt_34 : decode cX7_garmentsAt 34 = .ok (.iload_n 2, 1) := by decide +kernel
theorem dX7_garmentsAt_35 : decode cX7_garmentsAt 35 = .ok (.ireturn, 1) := by decide +kernel
theorem dX7_countIn_0 : decode cX7_countIn 0 = .ok (.aload_n 0, 1) := by decide +kernel
theorem dX7_countIn_1 : decode cX7_countIn 1 = .ok (.iconst 1, 1) := by decide +kernel
theorem dX7_countIn_2 : decode cX7_countIn 2 = .ok (.iload_n 1, 1) := by decide +kernel
theorem dX7_countIn_3 : decode cX7_countIn 3 = .ok (.iadd, 1) := by decide +kernel
theorem dX7_countIn_4 : decode cX7_countIn 4 = .ok (.invokevirtual 86, 3) := by decide +kernel
theorem dX7_countIn_7 : decode cX7_countIn 7 = .ok (.invokestatic 77, 3) := by decide +kernel
theorem dX7_countIn_10 : decode cX7_countIn 10 = .ok (.ireturn, 1) := by decide +kernel
theorem dX7_stainsOfAllIn_0 : decode cX7_stainsOfAllIn 0 = .ok (.sipush 255, 3) := by decide +kernel
theorem dX7_stainsOfAllIn_3 : decode cX7_stainsOfAllIn 3 = .ok (.istore_n 2, 1) := by decide +kernel
theorem dX7_stainsOfAllIn_4 : decode cX7_stainsOfAllIn 4 = .ok (.iconst 0, 1) := by decide +kernel
theorem dX7_stainsOfAllIn_5 : decode cX7_stainsOfAllIn 5 = .ok (.istore_n 3, 1) := by decide +kernel
theorem dX7_stainsOfAllIn_6 : decode cX7_stainsOfAllIn 6 = .ok (.iload_n 3, 1) := by decide +kernel
theorem dX7_stainsOfAllIn_7 : decode cX7_stainsOfAllIn 7 = .ok (.aload_n 0, 1) := by decide +kernel
theorem dX7_stainsOfAllIn_8 : decode cX7_stainsOfAllIn 8 = .ok (.getfield 31, 3) := by decide +kernel
theorem dX7_stainsOfAllIn_11 : decode cX7_stainsOfAllIn 11 = .ok (.if_icmp .ge 27, 3) := by decide +kernel
theorem dX7_stainsOfAllIn_14 : decode cX7_stainsOfAllIn 14 = .ok (.aload_n 0, 1) := by decide +kernel
theorem dX7_stainsOfAllIn_15 : decode cX7_stainsOfAllIn 15 = .ok (.iload_n 3, 1) := by decide +kernel
theorem dX7_stainsOfAllIn_16 : decode cX7_stainsOfAllIn 16 = .ok (.iload_n 1, 1) := by decide +kernel
theorem dX7_stainsOfAllIn_17 : decode cX7_stainsOfAllIn 17 = .ok (.invokevirtual 89, 3) := by decide +kernel
theorem dX7_stainsOfAllIn_20 : decode cX7_stainsOfAllIn 20 = .ok (.ifCond .eq 12, 3) := by decide +kernel
theorem dX7_stainsOfAllIn_23 : decode cX7_stainsOfAllIn 23 = .ok (.iload_n 2, 1) := by decide +kernel
theorem dX7_stainsOfAllIn_24 : decode cX7_stainsOfAllIn 24 = .ok (.aload_n 0, 1) := by decide +kernel
theorem dX7_stainsOfAllIn_25 : decode cX7_stainsOfAllIn 25 = .ok (.getfield 22, 3) := by decide +kernel
theorem dX7_stainsOfAllIn_28 : decode cX7_stainsOfAllIn 28 = .ok (.iload_n 3, 1) := by decide +kernel
theorem dX7_stainsOfAllIn_29 : decode cX7_stainsOfAllIn 29 = .ok (.iaload, 1) := by decide +kernel
theorem dX7_stainsOfAllIn_30 : decode cX7_stainsOfAllIn 30 = .ok (.iand, 1) := by decide +kernel
theorem dX7_stainsOfAllIn_31 : decode cX7_stainsOfAllIn 31 = .ok (.istore_n 2, 1) := by decide +kernel
theorem dX7_stainsOfAllIn_32 : decode cX7_stainsOfAllIn 32 = .ok (.iinc 3 1, 3) := by decide +kernel
theorem dX7_stainsOfAllIn_35 : decode cX7_stainsOfAllIn 35 = .ok (.goto (-29), 3) := by decide +kernel
theorem dX7_stainsOfAllIn_38 : decode cX7_stainsOfAllIn 38 = .ok (.iload_n 2, 1) := by decide +kernel
theorem dX7_stainsOfAllIn_39 : decode cX7_stainsOfAllIn 39 = .ok (.ireturn, 1) := by decide +kernel
theorem dX7_coloursOfLoad_0 : decode cX7_coloursOfLoad 0 = .ok (.iconst 0, 1) := by decide +kernel
theorem dX7_coloursOfLoad_1 : decode cX7_coloursOfLoad 1 = .ok (.istore_n 2, 1) := by decide +kernel
theorem dX7_coloursOfLoad_2 : decode cX7_coloursOfLoad 2 = .ok (.iconst 0, 1) := by decide +kernel
theorem dX7_coloursOfLoad_3 : decode cX7_coloursOfLoad 3 = .ok (.istore_n 3, 1) := by decide +kernel
theorem dX7_coloursOfLoad_4 : decode cX7_coloursOfLoad 4 = .ok (.iload_n 3, 1) := by decide +kernel
theorem dX7_coloursOfLoad_5 : decode cX7_coloursOfLoad 5 = .ok (.aload_n 0, 1) := by decide +kernel
theorem dX7_coloursOfLoad_6 : decode cX7_coloursOfLoad 6 = .ok (.getfield 31, 3) := by decide +kernel
theorem dX7_coloursOfLoad_9 : decode cX7_coloursOfLoad 9 = .ok (.if_icmp .ge 29, 3) := by decide +kernel
theorem dX7_coloursOfLoad_12 : decode cX7_coloursOfLoad 12 = .ok (.aload_n 0, 1) := by decide +kernel
theorem dX7_coloursOfLoad_13 : decode cX7_coloursOfLoad 13 = .ok (.iload_n 3, 1) := by decide +kernel
theorem dX7_coloursOfLoad_14 : decode cX7_coloursOfLoad 14 = .ok (.iload_n 1, 1) := by decide +kernel
theorem dX7_coloursOfLoad_15 : decode cX7_coloursOfLoad 15 = .ok (.invokevirtual 89, 3) := by decide +kernel
theorem dX7_coloursOfLoad_18 : decode cX7_coloursOfLoad 18 = .ok (.ifCond .eq 14, 3) := by decide +kernel
theorem dX7_coloursOfLoad_21 : decode cX7_coloursOfLoad 21 = .ok (.iload_n 2, 1) := by decide +kernel
theorem dX7_coloursOfLoad_22 : decode cX7_coloursOfLoad 22 = .ok (.iconst 1, 1) := by decide +kernel
theorem dX7_coloursOfLoad_23 : decode cX7_coloursOfLoad 23 = .ok (.aload_n 0, 1) := by decide +kernel
theorem dX7_coloursOfLoad_24 : decode cX7_coloursOfLoad 24 = .ok (.getfield 19, 3) := by decide +kernel
theorem dX7_coloursOfLoad_27 : decode cX7_coloursOfLoad 27 = .ok (.iload_n 3, 1) := by decide +kernel
theorem dX7_coloursOfLoad_28 : decode cX7_coloursOfLoad 28 = .ok (.iaload, 1) := by decide +kernel
theorem dX7_coloursOfLoad_29 : decode cX7_coloursOfLoad 29 = .ok (.ishl, 1) := by decide +kernel
theorem dX7_coloursOfLoad_30 : decode cX7_coloursOfLoad 30 = .ok (.ior, 1) := by decide +kernel
theorem dX7_coloursOfLoad_31 : decode cX7_coloursOfLoad 31 = .ok (.istore_n 2, 1) := by decide +kernel
theorem dX7_coloursOfLoad_32 : decode cX7_coloursOfLoad 32 = .ok (.iinc 3 1, 3) := by decide +kernel
theorem dX7_coloursOfLoad_35 : decode cX7_coloursOfLoad 35 = .ok (.goto (-31), 3) := by decide +kernel
theorem dX7_coloursOfLoad_38 : decode cX7_coloursOfLoad 38 = .ok (.iload_n 2, 1) := by decide +kernel
theorem dX7_coloursOfLoad_39 : decode cX7_coloursOfLoad 39 = .ok (.ireturn, 1) := by decide +kernel
theorem dX7_greatestColourIn_0 : decode cX7_greatestColourIn 0 = .ok (.iconst 0, 1) := by decide +kernel
theorem dX7_greatestColourIn_1 : decode cX7_greatestColourIn 1 = .ok (.istore_n 2, 1) := by decide +kernel
theorem dX7_greatestColourIn_2 : decode cX7_greatestColourIn 2 = .ok (.iconst 0, 1) := by decide +kernel
theorem dX7_greatestColourIn_3 : decode cX7_greatestColourIn 3 = .ok (.istore_n 3, 1) := by decide +kernel
theorem dX7_greatestColourIn_4 : decode cX7_greatestColourIn 4 = .ok (.iload_n 3, 1) := by decide +kernel
theorem dX7_greatestColourIn_5 : decode cX7_greatestColourIn 5 = .ok (.aload_n 0, 1) := by decide +kernel
theorem dX7_greatestColourIn_6 : decode cX7_greatestColourIn 6 = .ok (.getfield 31, 3) := by decide +kernel
theorem dX7_greatestColourIn_9 : decode cX7_greatestColourIn 9 = .ok (.if_icmp .ge 29, 3) := by decide +kernel
theorem dX7_greatestColourIn_12 : decode cX7_greatestColourIn 12 = .ok (.aload_n 0, 1) := by decide +kernel
theorem dX7_greatestColourIn_13 : decode cX7_greatestColourIn 13 = .ok (.iload_n 3, 1) := by decide +kernel
theorem dX7_greatestColourIn_14 : decode cX7_greatestColourIn 14 = .ok (.iload_n 1, 1) := by decide +kernel
theorem dX7_greatestColourIn_15 : decode cX7_greatestColourIn 15 = .ok (.invokevirtual 89, 3) := by decide +kernel
theorem dX7_greatestColourIn_18 : decode cX7_greatestColourIn 18 = .ok (.ifCond .eq 14, 3) := by decide +kernel
theorem dX7_greatestColourIn_21 : decode cX7_greatestColourIn 21 = .ok (.iload_n 2, 1) := by decide +kernel
theorem dX7_greatestColourIn_22 : decode cX7_greatestColourIn 22 = .ok (.aload_n 0, 1) := by decide +kernel
theorem dX7_greatestColourIn_23 : decode cX7_greatestColourIn 23 = .ok (.getfield 19, 3) := by decide +kernel
theorem dX7_greatestColourIn_26 : decode cX7_greatestColourIn 26 = .ok (.iload_n 3, 1) := by decide +kernel
theorem dX7_greatestColourIn_27 : decode cX7_greatestColourIn 27 = .ok (.iaload, 1) := by decide +kernel
theorem dX7_greatestColourIn_28 : decode cX7_greatestColourIn 28 = .ok (.invokestatic 92, 3) := by decide +kernel
theorem dX7_greatestColourIn_31 : decode cX7_greatestColourIn 31 = .ok (.istore_n 2, 1) := by decide +kernel
theorem dX7_greatestColourIn_32 : decode cX7_greatestColourIn 32 = .ok (.iinc 3 1, 3) := by decide +kernel
theorem dX7_greatestColourIn_35 : decode cX7_greatestColourIn 35 = .ok (.goto (-31), 3) := by decide +kernel
theorem dX7_greatestColourIn_38 : decode cX7_greatestColourIn 38 = .ok (.iload_n 2, 1) := by decide +kernel
theorem dX7_greatestColourIn_39 : decode cX7_greatestColourIn 39 = .ok (.ireturn, 1) := by decide +kernel
theorem dX7_costOfRun_0 : decode cX7_costOfRun 0 = .ok (.iconst 0, 1) := by decide +kernel
theorem dX7_costOfRun_1 : decode cX7_costOfRun 1 = .ok (.istore_n 3, 1) := by decide +kernel
theorem dX7_costOfRun_2 : decode cX7_costOfRun 2 = .ok (.iconst 0, 1) := by decide +kernel
theorem dX7_costOfRun_3 : decode cX7_costOfRun 3 = .ok (.istore 4, 2) := by decide +kernel
theorem dX7_costOfRun_5 : decode cX7_costOfRun 5 = .ok (.iconst 0, 1) := by decide +kernel
theorem dX7_costOfRun_6 : decode cX7_costOfRun 6 = .ok (.istore 5, 2) := by decide +kernel
theorem dX7_costOfRun_8 : decode cX7_costOfRun 8 = .ok (.iload 5, 2) := by decide +kernel
theorem dX7_costOfRun_10 : decode cX7_costOfRun 10 = .ok (.aload_n 0, 1) := by decide +kernel
theorem dX7_costOfRun_11 : decode cX7_costOfRun 11 = .ok (.getfield 31, 3) := by decide +kernel
theorem dX7_costOfRun_14 : decode cX7_costOfRun 14 = .ok (.if_icmp .ge 52, 3) := by decide +kernel
theorem dX7_costOfRun_17 : decode cX7_costOfRun 17 = .ok (.aload_n 0, 1) := by decide +kernel
theorem dX7_costOfRun_18 : decode cX7_costOfRun 18 = .ok (.iload 5, 2) := by decide +kernel
theorem dX7_costOfRun_20 : decode cX7_costOfRun 20 = .ok (.iload_n 1, 1) := by decide +kernel
theorem dX7_costOfRun_21 : decode cX7_costOfRun 21 = .ok (.invokevirtual 89, 3) := by decide +kernel
theorem dX7_costOfRun_24 : decode cX7_costOfRun 24 = .ok (.ifCond .eq 36, 3) := by decide +kernel
theorem dX7_costOfRun_27 : decode cX7_costOfRun 27 = .ok (.iload_n 3, 1) := by decide +kernel
theorem dX7_costOfRun_28 : decode cX7_costOfRun 28 = .ok (.aload_n 0, 1) := by decide +kernel
theorem dX7_costOfRun_29 : decode cX7_costOfRun 29 = .ok (.getfield 9, 3) := by decide +kernel
theorem dX7_costOfRun_32 : decode cX7_costOfRun 32 = .ok (.iload 5, 2) := by decide +kernel
theorem dX7_costOfRun_34 : decode cX7_costOfRun 34 = .ok (.iaload, 1) := by decide +kernel
theorem dX7_costOfRun_35 : decode cX7_costOfRun 35 = .ok (.iload_n 2, 1) := by decide +kernel
theorem dX7_costOfRun_36 : decode cX7_costOfRun 36 = .ok (.if_icmp .ne 7, 3) := by decide +kernel
theorem dX7_costOfRun_39 : decode cX7_costOfRun 39 = .ok (.iconst 1, 1) := by decide +kernel
theorem dX7_costOfRun_40 : decode cX7_costOfRun 40 = .ok (.goto 4, 3) := by decide +kernel
theorem dX7_costOfRun_43 : decode cX7_costOfRun 43 = .ok (.iconst 0, 1) := by decide +kernel
theorem dX7_costOfRun_44 : decode cX7_costOfRun 44 = .ok (.iadd, 1) := by decide +kernel
theorem dX7_costOfRun_45 : decode cX7_costOfRun 45 = .ok (.istore_n 3, 1) := by decide +kernel
theorem dX7_costOfRun_46 : decode cX7_costOfRun 46 = .ok (.iload 4, 2) := by decide +kernel
theorem dX7_costOfRun_48 : decode cX7_costOfRun 48 = .ok (.iconst 1, 1) := by decide +kernel
theorem dX7_costOfRun_49 : decode cX7_costOfRun 49 = .ok (.aload_n 0, 1) := by decide +kernel
theorem dX7_costOfRun_50 : decode cX7_costOfRun 50 = .ok (.getfield 9, 3) := by decide +kernel
theorem dX7_costOfRun_53 : decode cX7_costOfRun 53 = .ok (.iload 5, 2) := by decide +kernel
theorem dX7_costOfRun_55 : decode cX7_costOfRun 55 = .ok (.iaload, 1) := by decide +kernel
theorem dX7_costOfRun_56 : decode cX7_costOfRun 56 = .ok (.ishl, 1) := by decide +kernel
theorem dX7_costOfRun_57 : decode cX7_costOfRun 57 = .ok (.ior, 1) := by decide +kernel
theorem dX7_costOfRun_58 : decode cX7_costOfRun 58 = .ok (.istore 4, 2) := by decide +kernel
theorem dX7_costOfRun_60 : decode cX7_costOfRun 60 = .ok (.iinc 5 1, 3) := by decide +kernel
theorem dX7_costOfRun_63 : decode cX7_costOfRun 63 = .ok (.goto (-55), 3) := by decide +kernel
theorem dX7_costOfRun_66 : decode cX7_costOfRun 66 = .ok (.iload 4, 2) := by decide +kernel
theorem dX7_costOfRun_68 : decode cX7_costOfRun 68 = .ok (.invokestatic 77, 3) := by decide +kernel
theorem dX7_costOfRun_71 : decode cX7_costOfRun 71 = .ok (.istore 5, 2) := by decide +kernel
theorem dX7_costOfRun_73 : decode cX7_costOfRun 73 = .ok (.iload_n 3, 1) := by decide +kernel
theorem dX7_costOfRun_74 : decode cX7_costOfRun 74 = .ok (.ifCond .eq 8, 3) := by decide +kernel
theorem dX7_costOfRun_77 : decode cX7_costOfRun 77 = .ok (.iload 5, 2) := by decide +kernel
theorem dX7_costOfRun_79 : decode cX7_costOfRun 79 = .ok (.ifCond .ne 5, 3) := by decide +kernel
theorem dX7_costOfRun_82 : decode cX7_costOfRun 82 = .ok (.fconst 0, 1) := by decide +kernel
theorem dX7_costOfRun_83 : decode cX7_costOfRun 83 = .ok (.freturn, 1) := by decide +kernel
theorem dX7_costOfRun_84 : decode cX7_costOfRun 84 = .ok (.ldc2_w 98, 3) := by decide +kernel
theorem dX7_costOfRun_87 : decode cX7_costOfRun 87 = .ok (.iload_n 3, 1) := by decide +kernel
theorem dX7_costOfRun_88 : decode cX7_costOfRun 88 = .ok (.i2d, 1) := by decide +kernel
theorem dX7_costOfRun_89 : decode cX7_costOfRun 89 = .ok (.dmul, 1) := by decide +kernel
theorem dX7_costOfRun_90 : decode cX7_costOfRun 90 = .ok (.d2f, 1) := by decide +kernel
theorem dX7_costOfRun_91 : decode cX7_costOfRun 91 = .ok (.fstore 6, 2) := by decide +kernel
theorem dX7_costOfRun_93 : decode cX7_costOfRun 93 = .ok (.aload_n 0, 1) := by decide +kernel
theorem dX7_costOfRun_94 : decode cX7_costOfRun 94 = .ok (.iload_n 1, 1) := by decide +kernel
theorem dX7_costOfRun_95 : decode cX7_costOfRun 95 = .ok (.invokevirtual 100, 3) := by decide +kernel
theorem dX7_costOfRun_98 : decode cX7_costOfRun 98 = .ok (.f2d, 1) := by decide +kernel
theorem dX7_costOfRun_99 : decode cX7_costOfRun 99 = .ok (.ldc2_w 104, 3) := by decide +kernel
theorem dX7_costOfRun_102 : decode cX7_costOfRun 102 = .ok (.dmul, 1) := by decide +kernel
theorem dX7_costOfRun_103 : decode cX7_costOfRun 103 = .ok (.iload 5, 2) := by decide +kernel
theorem dX7_costOfRun_105 : decode cX7_costOfRun 105 = .ok (.i2d, 1) := by decide +kernel
theorem dX7_costOfRun_106 : decode cX7_costOfRun 106 = .ok (.ddiv, 1) := by decide +kernel
theorem dX7_costOfRun_107 : decode cX7_costOfRun 107 = .ok (.d2f, 1) := by decide +kernel
theorem dX7_costOfRun_108 : decode cX7_costOfRun 108 = .ok (.fstore 7, 2) := by decide +kernel
theorem dX7_costOfRun_110 : decode cX7_costOfRun 110 = .ok (.fload 6, 2) := by decide +kernel
theorem dX7_costOfRun_112 : decode cX7_costOfRun 112 = .ok (.fload 7, 2) := by decide +kernel
theorem dX7_costOfRun_114 : decode cX7_costOfRun 114 = .ok (.fadd, 1) := by decide +kernel
theorem dX7_costOfRun_115 : decode cX7_costOfRun 115 = .ok (.freturn, 1) := by decide +kernel
theorem dX7_charge_0 : decode cX7_charge 0 = .ok (.iconst 0, 1) := by decide +kernel
theorem dX7_charge_1 : decode cX7_charge 1 = .ok (.istore_n 2, 1) := by decide +kernel
theorem dX7_charge_2 : decode cX7_charge 2 = .ok (.iload_n 2, 1) := by decide +kernel
theorem dX7_charge_3 : decode cX7_charge 3 = .ok (.iconst 4, 1) := by decide +kernel
theorem dX7_charge_4 : decode cX7_charge 4 = .ok (.if_icmp .ge 28, 3) := by decide +kernel
theorem dX7_charge_7 : decode cX7_charge 7 = .ok (.aload_n 0, 1) := by decide +kernel
theorem dX7_charge_8 : decode cX7_charge 8 = .ok (.getfield 38, 3) := by decide +kernel
theorem dX7_charge_11 : decode cX7_charge 11 = .ok (.iload_n 2, 1) := by decide +kernel
theorem dX7_charge_12 : decode cX7_charge 12 = .ok (.aload_n 0, 1) := by decide +kernel
theorem dX7_charge_13 : decode cX7_charge 13 = .ok (.getfield 38, 3) := by decide +kernel
theorem dX7_charge_16 : decode cX7_charge 16 = .ok (.iload_n 2, 1) := by decide +kernel
theorem dX7_charge_17 : decode cX7_charge 17 = .ok (.faload, 1) := by decide +kernel
theorem dX7_charge_18 : decode cX7_charge 18 = .ok (.aload_n 0, 1) := by decide +kernel
theorem dX7_charge_19 : decode cX7_charge 19 = .ok (.iload_n 1, 1) := by decide +kernel
theorem dX7_charge_20 : decode cX7_charge 20 = .ok (.iload_n 2, 1) := by decide +kernel
theorem dX7_charge_21 : decode cX7_charge 21 = .ok (.invokevirtual 106, 3) := by decide +kernel
theorem dX7_charge_24 : decode cX7_charge 24 = .ok (.fadd, 1) := by decide +kernel
theorem dX7_charge_25 : decode cX7_charge 25 = .ok (.fastore, 1) := by decide +kernel
theorem dX7_charge_26 : decode cX7_charge 26 = .ok (.iinc 2 1, 3) := by decide +kernel
theorem dX7_charge_29 : decode cX7_charge 29 = .ok (.goto (-27), 3) := by decide +kernel
theorem dX7_charge_32 : decode cX7_charge 32 = .ok (.return_, 1) := by decide +kernel
theorem dX7_pack_0 : decode cX7_pack 0 = .ok (.aload_n 0, 1) := by decide +kernel
theorem dX7_pack_1 : decode cX7_pack 1 = .ok (.getfield 15, 3) := by decide +kernel
theorem dX7_pack_4 : decode cX7_pack 4 = .ok (.iload_n 1, 1) := by decide +kernel
theorem dX7_pack_5 : decode cX7_pack 5 = .ok (.baload, 1) := by decide +kernel
theorem dX7_pack_6 : decode cX7_pack 6 = .ok (.ifCond .eq 7, 3) := by decide +kernel
theorem dX7_pack_9 : decode cX7_pack 9 = .ok (.iconst 1, 1) := by decide +kernel
theorem dX7_pack_10 : decode cX7_pack 10 = .ok (.goto 4, 3) := by decide +kernel
theorem dX7_pack_13 : decode cX7_pack 13 = .ok (.iconst 0, 1) := by decide +kernel
theorem dX7_pack_14 : decode cX7_pack 14 = .ok (.istore_n 2, 1) := by decide +kernel
theorem dX7_pack_15 : decode cX7_pack 15 = .ok (.aload_n 0, 1) := by decide +kernel
theorem dX7_pack_16 : decode cX7_pack 16 = .ok (.getfield 22, 3) := by decide +kernel
theorem dX7_pack_19 : decode cX7_pack 19 = .ok (.iload_n 1, 1) := by decide +kernel
theorem dX7_pack_20 : decode cX7_pack 20 = .ok (.iaload, 1) := by decide +kernel
theorem dX7_pack_21 : decode cX7_pack 21 = .ok (.aload_n 0, 1) := by decide +kernel
theorem dX7_pack_22 : decode cX7_pack 22 = .ok (.getfield 19, 3) := by decide +kernel
theorem dX7_pack_25 : decode cX7_pack 25 = .ok (.iload_n 1, 1) := by decide +kernel
theorem dX7_pack_26 : decode cX7_pack 26 = .ok (.iaload, 1) := by decide +kernel
theorem dX7_pack_27 : decode cX7_pack 27 = .ok (.bipush 8, 2) := by decide +kernel
theorem dX7_pack_29 : decode cX7_pack 29 = .ok (.ishl, 1) := by decide +kernel
theorem dX7_pack_30 : decode cX7_pack 30 = .ok (.ior, 1) := by decide +kernel
theorem dX7_pack_31 : decode cX7_pack 31 = .ok (.aload_n 0, 1) := by decide +kernel
theorem dX7_pack_32 : decode cX7_pack 32 = .ok (.getfield 9, 3) := by decide +kernel
theorem dX7_pack_35 : decode cX7_pack 35 = .ok (.iload_n 1, 1) := by decide +kernel
theorem dX7_pack_36 : decode cX7_pack 36 = .ok (.iaload, 1) := by decide +kernel
theorem dX7_pack_37 : decode cX7_pack 37 = .ok (.bipush 11, 2) := by decide +kernel
theorem dX7_pack_39 : decode cX7_pack 39 = .ok (.ishl, 1) := by decide +kernel
theorem dX7_pack_40 : decode cX7_pack 40 = .ok (.ior, 1) := by decide +kernel
theorem dX7_pack_41 : decode cX7_pack 41 = .ok (.iload_n 2, 1) := by decide +kernel
theorem dX7_pack_42 : decode cX7_pack 42 = .ok (.bipush 13, 2) := by decide +kernel
theorem dX7_pack_44 : decode cX7_pack 44 = .ok (.ishl, 1) := by decide +kernel
theorem dX7_pack_45 : decode cX7_pack 45 = .ok (.ior, 1) := by decide +kernel
theorem dX7_pack_46 : decode cX7_pack 46 = .ok (.aload_n 0, 1) := by decide +kernel
theorem dX7_pack_47 : decode cX7_pack 47 = .ok (.getfield 25, 3) := by decide +kernel
theorem dX7_pack_50 : decode cX7_pack 50 = .ok (.iload_n 1, 1) := by decide +kernel
theorem dX7_pack_51 : decode cX7_pack 51 = .ok (.iaload, 1) := by decide +kernel
theorem dX7_pack_52 : decode cX7_pack 52 = .ok (.bipush 14, 2) := by decide +kernel
theorem dX7_pack_54 : decode cX7_pack 54 = .ok (.ishl, 1) := by decide +kernel
theorem dX7_pack_55 : decode cX7_pack 55 = .ok (.ior, 1) := by decide +kernel
theorem dX7_pack_56 : decode cX7_pack 56 = .ok (.istore_n 3, 1) := by decide +kernel
theorem dX7_pack_57 : decode cX7_pack 57 = .ok (.aload_n 0, 1) := by decide +kernel
theorem dX7_pack_58 : decode cX7_pack 58 = .ok (.getfield 28, 3) := by decide +kernel
theorem dX7_pack_61 : decode cX7_pack 61 = .ok (.iload_n 1, 1) := by decide +kernel
theorem dX7_pack_62 : decode cX7_pack 62 = .ok (.iaload, 1) := by decide +kernel
theorem dX7_pack_63 : decode cX7_pack 63 = .ok (.i2l, 1) := by decide +kernel
theorem dX7_pack_64 : decode cX7_pack 64 = .ok (.bipush 16, 2) := by decide +kernel
theorem dX7_pack_66 : decode cX7_pack 66 = .ok (.lshl, 1) := by decide +kernel
theorem dX7_pack_67 : decode cX7_pack 67 = .ok (.iload_n 3, 1) := by decide +kernel
theorem dX7_pack_68 : decode cX7_pack 68 = .ok (.i2l, 1) := by decide +kernel
theorem dX7_pack_69 : decode cX7_pack 69 = .ok (.lor, 1) := by decide +kernel
theorem dX7_pack_70 : decode cX7_pack 70 = .ok (.lreturn, 1) := by decide +kernel
theorem dX8_wash_0 : decode cX8_wash 0 = .ok (.aload_n 0, 1) := by decide +kernel
theorem dX8_wash_1 : decode cX8_wash 1 = .ok (.iload_n 1, 1) := by decide +kernel
theorem dX8_wash_2 : decode cX8_wash 2 = .ok (.invokevirtual 9, 3) := by decide +kernel
theorem dX8_wash_5 : decode cX8_wash 5 = .ok (.aload_n 0, 1) := by decide +kernel
theorem dX8_wash_6 : decode cX8_wash 6 = .ok (.dup, 1) := by decide +kernel
theorem dX8_wash_7 : decode cX8_wash 7 = .ok (.getfield 15, 3) := by decide +kernel
theorem dX8_wash_10 : decode cX8_wash 10 = .ok (.iconst 1, 1) := by decide +kernel
theorem dX8_wash_11 : decode cX8_wash 11 = .ok (.iadd, 1) := by decide +kernel
theorem dX8_wash_12 : decode cX8_wash 12 = .ok (.putfield 15, 3) := by decide +kernel
theorem dX8_wash_15 : decode cX8_wash 15 = .ok (.aload_n 0, 1) := by decide +kernel
theorem dX8_wash_16 : decode cX8_wash 16 = .ok (.iload_n 1, 1) := by decide +kernel
theorem dX8_wash_17 : decode cX8_wash 17 = .ok (.invokestatic 19, 3) := by decide +kernel
theorem dX8_wash_20 : decode cX8_wash 20 = .ok (.aload_n 0, 1) := by decide +kernel
theorem dX8_wash_21 : decode cX8_wash 21 = .ok (.iload_n 1, 1) := by decide +kernel
theorem dX8_wash_22 : decode cX8_wash 22 = .ok (.invokestatic 25, 3) := by decide +kernel
theorem dX8_wash_25 : decode cX8_wash 25 = .ok (.pop, 1) := by decide +kernel
theorem dX8_wash_26 : decode cX8_wash 26 = .ok (.aload_n 0, 1) := by decide +kernel
theorem dX8_wash_27 : decode cX8_wash 27 = .ok (.iload_n 1, 1) := by decide +kernel
theorem dX8_wash_28 : decode cX8_wash 28 = .ok (.invokestatic 29, 3) := by decide +kernel
theorem dX8_wash_31 : decode cX8_wash 31 = .ok (.aload_n 0, 1) := by decide +kernel
theorem dX8_wash_32 : decode cX8_wash 32 = .ok (.iload_n 1, 1) := by decide +kernel
theorem dX8_wash_33 : decode cX8_wash 33 = .ok (.invokestatic 32, 3) := by decide +kernel
theorem dX8_wash_36 : decode cX8_wash 36 = .ok (.istore_n 2, 1) := by decide +kernel
theorem dX8_wash_37 : decode cX8_wash 37 = .ok (.aload_n 0, 1) := by decide +kernel
theorem dX8_wash_38 : decode cX8_wash 38 = .ok (.iload_n 1, 1) := by decide +kernel
theorem dX8_wash_39 : decode cX8_wash 39 = .ok (.invokestatic 35, 3) := by decide +kernel
theorem dX8_wash_42 : decode cX8_wash 42 = .ok (.iload_n 2, 1) := by decide +kernel
theorem dX8_wash_43 : decode cX8_wash 43 = .ok (.ireturn, 1) := by decide +kernel
theorem dX8_damageOfWashing_0 : decode cX8_damageOfWashing 0 = .ok (.aload_n 0, 1) := by decide +kernel
theorem dX8_damageOfWashing_1 : decode cX8_damageOfWashing 1 = .ok (.iload_n 1, 1) := by decide +kernel
theorem dX8_damageOfWashing_2 : decode cX8_damageOfWashing 2 = .ok (.invokestatic 19, 3) := by decide +kernel
theorem dX8_damageOfWashing_5 : decode cX8_damageOfWashing 5 = .ok (.iconst 0, 1) := by decide +kernel
theorem dX8_damageOfWashing_6 : decode cX8_damageOfWashing 6 = .ok (.istore_n 2, 1) := by decide +kernel
theorem dX8_damageOfWashing_7 : decode cX8_damageOfWashing 7 = .ok (.iconst 0, 1) := by decide +kernel
theorem dX8_damageOfWashing_8 : decode cX8_damageOfWashing 8 = .ok (.istore_n 3, 1) := by decide +kernel
theorem dX8_damageOfWashing_9 : decode cX8_damageOfWashing 9 = .ok (.iload_n 3, 1) := by decide +kernel
theorem dX8_damageOfWashing_10 : decode cX8_damageOfWashing 10 = .ok (.aload_n 0, 1) := by decide +kernel
theorem dX8_damageOfWashing_11 : decode cX8_damageOfWashing 11 = .ok (.getfield 38, 3) := by decide +kernel
theorem dX8_damageOfWashing_14 : decode cX8_damageOfWashing 14 = .ok (.if_icmp .ge 26, 3) := by decide +kernel
theorem dX8_damageOfWashing_17 : decode cX8_damageOfWashing 17 = .ok (.aload_n 0, 1) := by decide +kernel
theorem dX8_damageOfWashing_18 : decode cX8_damageOfWashing 18 = .ok (.iload_n 3, 1) := by decide +kernel
theorem dX8_damageOfWashing_19 : decode cX8_damageOfWashing 19 = .ok (.iload_n 1, 1) := by decide +kernel
theorem dX8_damageOfWashing_20 : decode cX8_damageOfWashing 20 = .ok (.invokevirtual 41, 3) := by decide +kernel
theorem dX8_damageOfWashing_23 : decode cX8_damageOfWashing 23 = .ok (.ifCond .eq 11, 3) := by decide +kernel
theorem dX8_damageOfWashing_26 : decode cX8_damageOfWashing 26 = .ok (.iload_n 2, 1) := by decide +kernel
theorem dX8_damageOfWashing_27 : decode cX8_damageOfWashing 27 = .ok (.aload_n 0, 1) := by decide +kernel
theorem dX8_damageOfWashing_28 : decode cX8_damageOfWashing 28 = .ok (.iload_n 3, 1) := by decide +kernel
theorem dX8_damageOfWashing_29 : decode cX8_damageOfWashing 29 = .ok (.invokevirtual 45, 3) := by decide +kernel
theorem dX8_damageOfWashing_32 : decode cX8_damageOfWashing 32 = .ok (.iadd, 1) := by decide +kernel
theorem dX8_damageOfWashing_33 : decode cX8_damageOfWashing 33 = .ok (.istore_n 2, 1) := by decide +kernel
theorem dX8_damageOfWashing_34 : decode cX8_damageOfWashing 34 = .ok (.iinc 3 1, 3) := by decide +kernel
theorem dX8_damageOfWashing_37 : decode cX8_damageOfWashing 37 = .ok (.goto (-28), 3) := by decide +kernel
theorem dX8_damageOfWashing_40 : decode cX8_damageOfWashing 40 = .ok (.aload_n 0, 1) := by decide +kernel
theorem dX8_damageOfWashing_41 : decode cX8_damageOfWashing 41 = .ok (.iload_n 1, 1) := by decide +kernel
theorem dX8_damageOfWashing_42 : decode cX8_damageOfWashing 42 = .ok (.invokestatic 25, 3) := by decide +kernel
theorem dX8_damageOfWashing_45 : decode cX8_damageOfWashing 45 = .ok (.istore_n 3, 1) := by decide +kernel
theorem dX8_damageOfWashing_46 : decode cX8_damageOfWashing 46 = .ok (.aload_n 0, 1) := by decide +kernel
theorem dX8_damageOfWashing_47 : decode cX8_damageOfWashing 47 = .ok (.iload_n 1, 1) := by decide +kernel
theorem dX8_damageOfWashing_48 : decode cX8_damageOfWashing 48 = .ok (.invokestatic 32, 3) := by decide +kernel
theorem dX8_damageOfWashing_51 : decode cX8_damageOfWashing 51 = .ok (.istore 4, 2) := by decide +kernel
theorem dX8_damageOfWashing_53 : decode cX8_damageOfWashing 53 = .ok (.iload_n 2, 1) := by decide +kernel
theorem dX8_damageOfWashing_54 : decode cX8_damageOfWashing 54 = .ok (.iconst 3, 1) := by decide +kernel
theorem dX8_damageOfWashing_55 : decode cX8_damageOfWashing 55 = .ok (.iload_n 3, 1) := by decide +kernel
theorem dX8_damageOfWashing_56 : decode cX8_damageOfWashing 56 = .ok (.imul, 1) := by decide +kernel
theorem dX8_damageOfWashing_57 : decode cX8_damageOfWashing 57 = .ok (.iadd, 1) := by decide +kernel
theorem dX8_damageOfWashing_58 : decode cX8_damageOfWashing 58 = .ok (.bipush 10, 2) := by decide +kernel
theorem dX8_damageOfWashing_60 : decode cX8_damageOfWashing 60 = .ok (.iload 4, 2) := by decide +kernel
theorem dX8_damageOfWashing_62 : decode cX8_damageOfWashing 62 = .ok (.imul, 1) := by decide +kernel
theorem dX8_damageOfWashing_63 : decode cX8_damageOfWashing 63 = .ok (.iadd, 1) := by decide +kernel
theorem dX8_damageOfWashing_64 : decode cX8_damageOfWashing 64 = .ok (.ireturn, 1) := by decide +kernel
theorem dX8_removedAt_0 : decode cX8_removedAt 0 = .ok (.iconst 0, 1) := by decide +kernel
theorem dX8_removedAt_1 : decode cX8_removedAt 1 = .ok (.istore_n 1, 1) := by decide +kernel
theorem dX8_removedAt_2 : decode cX8_removedAt 2 = .ok (.iconst 0, 1) := by decide +kernel
theorem dX8_removedAt_3 : decode cX8_removedAt 3 = .ok (.istore_n 2, 1) := by decide +kernel
theorem dX8_removedAt_4 : decode cX8_removedAt 4 = .ok (.iload_n 2, 1) := by decide +kernel
theorem dX8_removedAt_5 : decode cX8_removedAt 5 = .ok (.bipush 8, 2) := by decide +kernel
theorem dX8_removedAt_7 : decode cX8_removedAt 7 = .ok (.if_icmp .ge 26, 3) := by decide +kernel
theorem dX8_removedAt_10 : decode cX8_removedAt 10 = .ok (.iload_n 0, 1) := by decide +kernel
theorem dX8_removedAt_11 : decode cX8_removedAt 11 = .ok (.bipush 50, 2) := by decide +kernel
theorem dX8_removedAt_13 : decode cX8_removedAt 13 = .ok (.bipush 10, 2) := by decide +kernel
theorem dX8_removedAt_15 : decode cX8_removedAt 15 = .ok (.iload_n 2, 1) := by decide +kernel
theorem dX8_removedAt_16 : decode cX8_removedAt 16 = .ok (.imul, 1) := by decide +kernel
theorem dX8_removedAt_17 : decode cX8_removedAt 17 = .ok (.iadd, 1) := by decide +kernel
theorem dX8_removedAt_18 : decode cX8_removedAt 18 = .ok (.if_icmp .lt 9, 3) := by decide +kernel
theorem dX8_removedAt_21 : decode cX8_removedAt 21 = .ok (.iload_n 1, 1) := by decide +kernel
theorem dX8_removedAt_22 : decode cX8_removedAt 22 = .ok (.iconst 1, 1) := by decide +kernel
theorem dX8_removedAt_23 : decode cX8_removedAt 23 = .ok (.iload_n 2, 1) := by decide +kernel
theorem dX8_removedAt_24 : decode cX8_removedAt 24 = .ok (.ishl, 1) := by decide +kernel
theorem dX8_removedAt_25 : decode cX8_removedAt 25 = .ok (.ior, 1) := by decide +kernel
theorem dX8_removedAt_26 : decode cX8_removedAt 26 = .ok (.istore_n 1, 1) := by decide +kernel
theorem dX8_removedAt_27 : decode cX8_removedAt 27 = .ok (.iinc 2 1, 3) := by decide +kernel
theorem dX8_removedAt_30 : decode cX8_removedAt 30 = .ok (.goto (-26), 3) := by decide +kernel
theorem dX8_removedAt_33 : decode cX8_removedAt 33 = .ok (.iload_n 1, 1) := by decide +kernel
theorem dX8_removedAt_34 : decode cX8_removedAt 34 = .ok (.ireturn, 1) := by decide +kernel
theorem dX8_removeStains_0 : decode cX8_removeStains 0 = .ok (.aload_n 0, 1) := by decide +kernel
theorem dX8_removeStains_1 : decode cX8_removeStains 1 = .ok (.getfield 49, 3) := by decide +kernel
theorem dX8_removeStains_4 : decode cX8_removeStains 4 = .ok (.iload_n 1, 1) := by decide +kernel
theorem dX8_removeStains_5 : decode cX8_removeStains 5 = .ok (.iaload, 1) := by decide +kernel
theorem dX8_removeStains_6 : decode cX8_removeStains 6 = .ok (.invokestatic 53, 3) := by decide +kernel
theorem dX8_removeStains_9 : decode cX8_removeStains 9 = .ok (.istore_n 2, 1) := by decide +kernel
theorem dX8_removeStains_10 : decode cX8_removeStains 10 = .ok (.iconst 0, 1) := by decide +kernel
theorem dX8_removeStains_11 : decode cX8_removeStains 11 = .ok (.istore_n 3, 1) := by decide +kernel
theorem dX8_removeStains_12 : decode cX8_removeStains 12 = .ok (.iload_n 3, 1) := by decide +kernel
theorem dX8_removeStains_13 : decode cX8_removeStains 13 = .ok (.aload_n 0, 1) := by decide +kernel
theorem dX8_removeStains_14 : decode cX8_removeStains 14 = .ok (.getfield 38, 3) := by decide +kernel
theorem dX8_removeStains_17 : decode cX8_removeStains 17 = .ok (.if_icmp .ge 30, 3) := by decide +kernel
theorem dX8_removeStains_20 : decode cX8_removeStains 20 = .ok (.aload_n 0, 1) := by decide +kernel
theorem dX8_removeStains_21 : decode cX8_removeStains 21 = .ok (.iload_n 3, 1) := by decide +kernel
theorem dX8_removeStains_22 : decode cX8_removeStains 22 = .ok (.iload_n 1, 1) := by decide +kernel
theorem dX8_removeStains_23 : decode cX8_removeStains 23 = .ok (.invokevirtual 41, 3) := by decide +kernel
theorem dX8_removeStains_26 : decode cX8_removeStains 26 = .ok (.ifCond .eq 15, 3) := by decide +kernel
theorem dX8_removeStains_29 : decode cX8_removeStains 29 = .ok (.aload_n 0, 1) := by decide +kernel
theorem dX8_removeStains_30 : decode cX8_removeStains 30 = .ok (.getfield 56, 3) := by decide +kernel
theorem dX8_removeStains_33 : decode cX8_removeStains 33 = .ok (.iload_n 3, 1) := by decide +kernel
theorem dX8_removeStains_34 : decode cX8_removeStains 34 = .ok (.dup2, 1) := by decide +kernel
theorem dX8_removeStains_35 : decode cX8_removeStains 35 = .ok (.iaload, 1) := by decide +kernel
theorem dX8_removeStains_36 : decode cX8_removeStains 36 = .ok (.iload_n 2, 1) := by decide +kernel
theorem dX8_removeStains_37 : decode cX8_removeStains 37 = .ok (.iconst (-1), 1) := by decide +kernel
theorem dX8_removeStains_38 : decode cX8_removeStains 38 = .ok (.ixor, 1) := by decide +kernel
theorem dX8_removeStains_39 : decode cX8_removeStains 39 = .ok (.iand, 1) := by decide +kernel
theorem dX8_removeStains_40 : decode cX8_removeStains 40 = .ok (.iastore, 1) := by decide +kernel
theorem dX8_removeStains_41 : decode cX8_removeStains 41 = .ok (.iinc 3 1, 3) := by decide +kernel
theorem dX8_removeStains_44 : decode cX8_removeStains 44 = .ok (.goto (-32), 3) := by decide +kernel
theorem dX8_removeStains_47 : decode cX8_removeStains 47 = .ok (.return_, 1) := by decide +kernel
theorem dX8_letColoursRun_0 : decode cX8_letColoursRun 0 = .ok (.aload_n 0, 1) := by decide +kernel
theorem dX8_letColoursRun_1 : decode cX8_letColoursRun 1 = .ok (.getfield 49, 3) := by decide +kernel
theorem dX8_letColoursRun_4 : decode cX8_letColoursRun 4 = .ok (.iload_n 1, 1) := by decide +kernel
theorem dX8_letColoursRun_5 : decode cX8_letColoursRun 5 = .ok (.iaload, 1) := by decide +kernel
theorem dX8_letColoursRun_6 : decode cX8_letColoursRun 6 = .ok (.bipush 120, 2) := by decide +kernel
theorem dX8_letColoursRun_8 : decode cX8_letColoursRun 8 = .ok (.if_icmp .ge 5, 3) := by decide +kernel
theorem dX8_letColoursRun_11 : decode cX8_letColoursRun 11 = .ok (.iconst 0, 1) := by decide +kernel
theorem dX8_letColoursRun_12 : decode cX8_letColoursRun 12 = .ok (.ireturn, 1) := by decide +kernel
theorem dX8_letColoursRun_13 : decode cX8_letColoursRun 13 = .ok (.iconst 1, 1) := by decide +kernel
theorem dX8_letColoursRun_14 : decode cX8_letColoursRun 14 = .ok (.aload_n 0, 1) := by decide +kernel
theorem dX8_letColoursRun_15 : decode cX8_letColoursRun 15 = .ok (.iload_n 1, 1) := by decide +kernel
theorem dX8_letColoursRun_16 : decode cX8_letColoursRun 16 = .ok (.invokevirtual 59, 3) := by decide +kernel
theorem dX8_letColoursRun_19 : decode cX8_letColoursRun 19 = .ok (.ishl, 1) := by decide +kernel
theorem dX8_letColoursRun_20 : decode cX8_letColoursRun 20 = .ok (.istore_n 2, 1) := by decide +kernel
theorem dX8_letColoursRun_21 : decode cX8_letColoursRun 21 = .ok (.iconst 0, 1) := by decide +kernel
theorem dX8_letColoursRun_22 : decode cX8_letColoursRun 22 = .ok (.istore_n 3, 1) := by decide +kernel
theorem dX8_letColoursRun_23 : decode cX8_letColoursRun 23 = .ok (.iconst 0, 1) := by decide +kernel
theorem dX8_letColoursRun_24 : decode cX8_letColoursRun 24 = .ok (.istore 4, 2) := by decide +kernel
theorem dX8_letColoursRun_26 : decode cX8_letColoursRun 26 = .ok (.iload 4, 2) := by decide +kernel
theorem dX8_letColoursRun_28 : decode cX8_letColoursRun 28 = .ok (.aload_n 0, 1) := by decide +kernel
theorem dX8_letColoursRun_29 : decode cX8_letColoursRun 29 = .ok (.getfield 38, 3) := by decide +kernel
theorem dX8_letColoursRun_32 : decode cX8_letColoursRun 32 = .ok (.if_icmp .ge 60, 3) := by decide +kernel
theorem dX8_letColoursRun_35 : decode cX8_letColoursRun 35 = .ok (.aload_n 0, 1) := by decide +kernel
theorem dX8_letColoursRun_36 : decode cX8_letColoursRun 36 = .ok (.iload 4, 2) := by decide +kernel
theorem dX8_letColoursRun_38 : decode cX8_letColoursRun 38 = .ok (.iload_n 1, 1) := by decide +kernel
theorem dX8_letColoursRun_39 : decode cX8_letColoursRun 39 = .ok (.invokevirtual 41, 3) := by decide +kernel
theorem dX8_letColoursRun_42 : decode cX8_letColoursRun 42 = .ok (.ifCond .eq 44, 3) := by decide +kernel
theorem dX8_letColoursRun_45 : decode cX8_letColoursRun 45 = .ok (.aload_n 0, 1) := by decide +kernel
theorem dX8_letColoursRun_46 : decode cX8_letColoursRun 46 = .ok (.getfield 62, 3) := by decide +kernel
theorem dX8_letColoursRun_49 : decode cX8_letColoursRun 49 = .ok (.iload 4, 2) := by decide +kernel
theorem dX8_letColoursRun_51 : decode cX8_letColoursRun 51 = .ok (.iaload, 1) := by decide +kernel
theorem dX8_letColoursRun_52 : decode cX8_letColoursRun 52 = .ok (.ifCond .ne 34, 3) := by decide +kernel
theorem dX8_letColoursRun_55 : decode cX8_letColoursRun 55 = .ok (.iload_n 3, 1) := by decide +kernel
theorem dX8_letColoursRun_56 : decode cX8_letColoursRun 56 = .ok (.aload_n 0, 1) := by decide +kernel
theorem dX8_letColoursRun_57 : decode cX8_letColoursRun 57 = .ok (.getfield 56, 3) := by decide +kernel
theorem dX8_letColoursRun_60 : decode cX8_letColoursRun 60 = .ok (.iload 4, 2) := by decide +kernel
theorem dX8_letColoursRun_62 : decode cX8_letColoursRun 62 = .ok (.iaload, 1) := by decide +kernel
theorem dX8_letColoursRun_63 : decode cX8_letColoursRun 63 = .ok (.iload_n 2, 1) := by decide +kernel
theorem dX8_letColoursRun_64 : decode cX8_letColoursRun 64 = .ok (.iand, 1) := by decide +kernel
theorem dX8_letColoursRun_65 : decode cX8_letColoursRun 65 = .ok (.ifCond .ne 7, 3) := by decide +kernel
theorem dX8_letColoursRun_68 : decode cX8_letColoursRun 68 = .ok (.iconst 1, 1) := by decide +kernel
theorem dX8_letColoursRun_69 : decode cX8_letColoursRun 69 = .ok (.goto 4, 3) := by decide +kernel
theorem dX8_letColoursRun_72 : decode cX8_letColoursRun 72 = .ok (.iconst 0, 1) := by decide +kernel
theorem dX8_letColoursRun_73 : decode cX8_letColoursRun 73 = .ok (.iadd, 1) := by decide +kernel
theorem dX8_letColoursRun_74 : decode cX8_letColoursRun 74 = .ok (.istore_n 3, 1) := by decide +kernel
theorem dX8_letColoursRun_75 : decode cX8_letColoursRun 75 = .ok (.aload_n 0, 1) := by decide +kernel
theorem dX8_letColoursRun_76 : decode cX8_letColoursRun 76 = .ok (.getfield 56, 3) := by decide +kernel
theorem dX8_letColoursRun_79 : decode cX8_letColoursRun 79 = .ok (.iload 4, 2) := by decide +kernel
theorem dX8_letColoursRun_81 : decode cX8_letColoursRun 81 = .ok (.dup2, 1) := by decide +kernel
theorem dX8_letColoursRun_82 : decode cX8_letColoursRun 82 = .ok (.iaload, 1) := by decide +kernel
theorem dX8_letColoursRun_83 : decode cX8_letColoursRun 83 = .ok (.iload_n 2, 1) := by decide +kernel
theorem dX8_letColoursRun_84 : decode cX8_letColoursRun 84 = .ok (.ior, 1) := by decide +kernel
theorem dX8_letColoursRun_85 : decode cX8_letColoursRun 85 = .ok (.iastore, 1) := by decide +kernel
theorem dX8_letColoursRun_86 : decode cX8_letColoursRun 86 = .ok (.iinc 4 1, 3) := by decide +kernel
theorem dX8_letColoursRun_89 : decode cX8_letColoursRun 89 = .ok (.goto (-63), 3) := by decide +kernel
theorem dX8_letColoursRun_92 : decode cX8_letColoursRun 92 = .ok (.iload_n 3, 1) := by decide +kernel
theorem dX8_letColoursRun_93 : decode cX8_letColoursRun 93 = .ok (.ireturn, 1) := by decide +kernel
theorem dX8_countWash_0 : decode cX8_countWash 0 = .ok (.iconst 0, 1) := by decide +kernel
theorem dX8_countWash_1 : decode cX8_countWash 1 = .ok (.istore_n 2, 1) := by decide +kernel
theorem dX8_countWash_2 : decode cX8_countWash 2 = .ok (.iload_n 2, 1) := by decide +kernel
theorem dX8_countWash_3 : decode cX8_countWash 3 = .ok (.aload_n 0, 1) := by decide +kernel
theorem dX8_countWash_4 : decode cX8_countWash 4 = .ok (.getfield 38, 3) := by decide +kernel
theorem dX8_countWash_7 : decode cX8_countWash 7 = .ok (.if_icmp .ge 28, 3) := by decide +kernel
theorem dX8_countWash_10 : decode cX8_countWash 10 = .ok (.aload_n 0, 1) := by decide +kernel
theorem dX8_countWash_11 : decode cX8_countWash 11 = .ok (.iload_n 2, 1) := by decide +kernel
theorem dX8_countWash_12 : decode cX8_countWash 12 = .ok (.iload_n 1, 1) := by decide +kernel
theorem dX8_countWash_13 : decode cX8_countWash 13 = .ok (.invokevirtual 41, 3) := by decide +kernel
theorem dX8_countWash_16 : decode cX8_countWash 16 = .ok (.ifCond .eq 13, 3) := by decide +kernel
theorem dX8_countWash_19 : decode cX8_countWash 19 = .ok (.aload_n 0, 1) := by decide +kernel
theorem dX8_countWash_20 : decode cX8_countWash 20 = .ok (.getfield 65, 3) := by decide +kernel
theorem dX8_countWash_23 : decode cX8_countWash 23 = .ok (.iload_n 2, 1) := by decide +kernel
theorem dX8_countWash_24 : decode cX8_countWash 24 = .ok (.dup2, 1) := by decide +kernel
theorem dX8_countWash_25 : decode cX8_countWash 25 = .ok (.iaload, 1) := by decide +kernel
theorem dX8_countWash_26 : decode cX8_countWash 26 = .ok (.iconst 1, 1) := by decide +kernel
theorem dX8_countWash_27 : decode cX8_countWash 27 = .ok (.iadd, 1) := by decide +kernel
theorem dX8_countWash_28 : decode cX8_countWash 28 = .ok (.iastore, 1) := by decide +kernel
theorem dX8_countWash_29 : decode cX8_countWash 29 = .ok (.iinc 2 1, 3) := by decide +kernel
theorem dX8_countWash_32 : decode cX8_countWash 32 = .ok (.goto (-30), 3) := by decide +kernel
theorem dX8_countWash_35 : decode cX8_countWash 35 = .ok (.return_, 1) := by decide +kernel
theorem dX8_loseSocks_0 : decode cX8_loseSocks 0 = .ok (.aload_n 0, 1) := by decide +kernel
theorem dX8_loseSocks_1 : decode cX8_loseSocks 1 = .ok (.iload_n 1, 1) := by decide +kernel
theorem dX8_loseSocks_2 : decode cX8_loseSocks 2 = .ok (.invokevirtual 68, 3) := by decide +kernel
theorem dX8_loseSocks_5 : decode cX8_loseSocks 5 = .ok (.iconst 2, 1) := by decide +kernel
theorem dX8_loseSocks_6 : decode cX8_loseSocks 6 = .ok (.irem, 1) := by decide +kernel
theorem dX8_loseSocks_7 : decode cX8_loseSocks 7 = .ok (.iconst 1, 1) := by decide +kernel
theorem dX8_loseSocks_8 : decode cX8_loseSocks 8 = .ok (.if_icmp .ne 7, 3) := by decide +kernel
theorem dX8_loseSocks_11 : decode cX8_loseSocks 11 = .ok (.iconst 1, 1) := by decide +kernel
theorem dX8_loseSocks_12 : decode cX8_loseSocks 12 = .ok (.goto 4, 3) := by decide +kernel
theorem dX8_loseSocks_15 : decode cX8_loseSocks 15 = .ok (.iconst 0, 1) := by decide +kernel
theorem dX8_loseSocks_16 : decode cX8_loseSocks 16 = .ok (.istore_n 2, 1) := by decide +kernel
theorem dX8_loseSocks_17 : decode cX8_loseSocks 17 = .ok (.iconst 0, 1) := by decide +kernel
theorem dX8_loseSocks_18 : decode cX8_loseSocks 18 = .ok (.istore_n 3, 1) := by decide +kernel
theorem dX8_loseSocks_19 : decode cX8_loseSocks 19 = .ok (.iconst 0, 1) := by decide +kernel
theorem dX8_loseSocks_20 : decode cX8_loseSocks 20 = .ok (.istore 4, 2) := by decide +kernel
theorem dX8_loseSocks_22 : decode cX8_loseSocks 22 = .ok (.iload 4, 2) := by decide +kernel
theorem dX8_loseSocks_24 : decode cX8_loseSocks 24 = .ok (.aload_n 0, 1) := by decide +kernel
theorem dX8_loseSocks_25 : decode cX8_loseSocks 25 = .ok (.getfield 38, 3) := by decide +kernel
theorem dX8_loseSocks_28 : decode cX8_loseSocks 28 = .ok (.if_icmp .ge 43, 3) := by decide +kernel
theorem dX8_loseSocks_31 : decode cX8_loseSocks 31 = .ok (.iload_n 2, 1) := by decide +kernel
theorem dX8_loseSocks_32 : decode cX8_loseSocks 32 = .ok (.ifCond .eq 33, 3) := by decide +kernel
theorem dX8_loseSocks_35 : decode cX8_loseSocks 35 = .ok (.aload_n 0, 1) := by decide +kernel
theorem dX8_loseSocks_36 : decode cX8_loseSocks 36 = .ok (.iload 4, 2) := by decide +kernel
theorem dX8_loseSocks_38 : decode cX8_loseSocks 38 = .ok (.iload_n 1, 1) := by decide +kernel
theorem dX8_loseSocks_39 : decode cX8_loseSocks 39 = .ok (.invokevirtual 41, 3) := by decide +kernel
theorem dX8_loseSocks_42 : decode cX8_loseSocks 42 = .ok (.ifCond .eq 23, 3) := by decide +kernel
theorem dX8_loseSocks_45 : decode cX8_loseSocks 45 = .ok (.aload_n 0, 1) := by decide +kernel
theorem dX8_loseSocks_46 : decode cX8_loseSocks 46 = .ok (.iload 4, 2) := by decide +kernel
theorem dX8_loseSocks_48 : decode cX8_loseSocks 48 = .ok (.invokestatic 71, 3) := by decide +kernel
theorem dX8_loseSocks_51 : decode cX8_loseSocks 51 = .ok (.ifCond .eq 14, 3) := by decide +kernel
theorem dX8_loseSocks_54 : decode cX8_loseSocks 54 = .ok (.aload_n 0, 1) := by decide +kernel
theorem dX8_loseSocks_55 : decode cX8_loseSocks 55 = .ok (.getfield 75, 3) := by decide +kernel
theorem dX8_loseSocks_58 : decode cX8_loseSocks 58 = .ok (.iload 4, 2) := by decide +kernel
theorem dX8_loseSocks_60 : decode cX8_loseSocks 60 = .ok (.iconst 3, 1) := by decide +kernel
theorem dX8_loseSocks_61 : decode cX8_loseSocks 61 = .ok (.iastore, 1) := by decide +kernel
theorem dX8_loseSocks_62 : decode cX8_loseSocks 62 = .ok (.iinc 3 1, 3) := by decide +kernel
theorem dX8_loseSocks_65 : decode cX8_loseSocks 65 = .ok (.iinc 4 1, 3) := by decide +kernel
theorem dX8_loseSocks_68 : decode cX8_loseSocks 68 = .ok (.goto (-46), 3) := by decide +kernel
theorem dX8_loseSocks_71 : decode cX8_loseSocks 71 = .ok (.iload_n 3, 1) := by decide +kernel
theorem dX8_loseSocks_72 : decode cX8_loseSocks 72 = .ok (.ireturn, 1) := by decide +kernel
theorem dX8_isCleanSingleSock_0 : decode cX8_isCleanSingleSock 0 = .ok (.aload_n 0, 1) := by decide +kernel
theorem dX8_isCleanSingleSock_1 : decode cX8_isCleanSingleSock 1 = .ok (.getfield 78, 3) := by decide +kernel
theorem dX8_isCleanSingleSock_4 : decode cX8_isCleanSingleSock 4 = .ok (.iload_n 1, 1) := by decide +kernel
theorem dX8_isCleanSingleSock_5 : decode cX8_isCleanSingleSock 5 = .ok (.baload, 1) := by decide +kernel
theorem dX8_isCleanSingleSock_6 : decode cX8_isCleanSingleSock 6 = .ok (.ifCond .eq 12, 3) := by decide +kernel
theorem dX8_isCleanSingleSock_9 : decode cX8_isCleanSingleSock 9 = .ok (.aload_n 0, 1) := by decide +kernel
theorem dX8_isCleanSingleSock_10 : decode cX8_isCleanSingleSock 10 = .ok (.getfield 56, 3) := by decide +kernel
theorem dX8_isCleanSingleSock_13 : decode cX8_isCleanSingleSock 13 = .ok (.iload_n 1, 1) := by decide +kernel
theorem dX8_isCleanSingleSock_14 : decode cX8_isCleanSingleSock 14 = .ok (.iaload, 1) := by decide +kernel
theorem dX8_isCleanSingleSock_15 : decode cX8_isCleanSingleSock 15 = .ok (.ifCond .eq 5, 3) := by decide +kernel
theorem dX8_isCleanSingleSock_18 : decode cX8_isCleanSingleSock 18 = .ok (.iconst 0, 1) := by decide +kernel
theorem dX8_isCleanSingleSock_19 : decode cX8_isCleanSingleSock 19 = .ok (.ireturn, 1) := by decide +kernel
theorem dX8_isCleanSingleSock_20 : decode cX8_isCleanSingleSock 20 = .ok (.iconst 0, 1) := by decide +kernel
theorem dX8_isCleanSingleSock_21 : decode cX8_isCleanSingleSock 21 = .ok (.istore_n 2, 1) := by decide +kernel
theorem dX8_isCleanSingleSock_22 : decode cX8_isCleanSingleSock 22 = .ok (.iload_n 2, 1) := by decide +kernel
theorem dX8_isCleanSingleSock_23 : decode cX8_isCleanSingleSock 23 = .ok (.aload_n 0, 1) := by decide +kernel
theorem dX8_isCleanSingleSock_24 : decode cX8_isCleanSingleSock 24 = .ok (.getfield 38, 3) := by decide +kernel
theorem dX8_isCleanSingleSock_27 : decode cX8_isCleanSingleSock 27 = .ok (.if_icmp .ge 55, 3) := by decide +kernel
theorem dX8_isCleanSingleSock_30 : decode cX8_isCleanSingleSock 30 = .ok (.iload_n 2, 1) := by decide +kernel
theorem dX8_isCleanSingleSock_31 : decode cX8_isCleanSingleSock 31 = .ok (.iload_n 1, 1) := by decide +kernel
theorem dX8_isCleanSingleSock_32 : decode cX8_isCleanSingleSock 32 = .ok (.if_icmp .eq 44, 3) := by decide +kernel
theorem dX8_isCleanSingleSock_35 : decode cX8_isCleanSingleSock 35 = .ok (.aload_n 0, 1) := by decide +kernel
theorem dX8_isCleanSingleSock_36 : decode cX8_isCleanSingleSock 36 = .ok (.getfield 78, 3) := by decide +kernel
theorem dX8_isCleanSingleSock_39 : decode cX8_isCleanSingleSock 39 = .ok (.iload_n 2, 1) := by decide +kernel
theorem dX8_isCleanSingleSock_40 : decode cX8_isCleanSingleSock 40 = .ok (.baload, 1) := by decide +kernel
theorem dX8_isCleanSingleSock_41 : decode cX8_isCleanSingleSock 41 = .ok (.ifCond .eq 35, 3) := by decide +kernel
theorem dX8_isCleanSingleSock_44 : decode cX8_isCleanSingleSock 44 = .ok (.aload_n 0, 1) := by decide +kernel
theorem dX8_isCleanSingleSock_45 : decode cX8_isCleanSingleSock 45 = .ok (.getfield 75, 3) := by decide +kernel
theorem dX8_isCleanSingleSock_48 : decode cX8_isCleanSingleSock 48 = .ok (.iload_n 2, 1) := by decide +kernel
theorem dX8_isCleanSingleSock_49 : decode cX8_isCleanSingleSock 49 = .ok (.iaload, 1) := by decide +kernel
theorem dX8_isCleanSingleSock_50 : decode cX8_isCleanSingleSock 50 = .ok (.aload_n 0, 1) := by decide +kernel
theorem dX8_isCleanSingleSock_51 : decode cX8_isCleanSingleSock 51 = .ok (.getfield 75, 3) := by decide +kernel
theorem dX8_isCleanSingleSock_54 : decode cX8_isCleanSingleSock 54 = .ok (.iload_n 1, 1) := by decide +kernel
theorem dX8_isCleanSingleSock_55 : decode cX8_isCleanSingleSock 55 = .ok (.iaload, 1) := by decide +kernel
theorem dX8_isCleanSingleSock_56 : decode cX8_isCleanSingleSock 56 = .ok (.if_icmp .ne 20, 3) := by decide +kernel
theorem dX8_isCleanSingleSock_59 : decode cX8_isCleanSingleSock 59 = .ok (.aload_n 0, 1) := by decide +kernel
theorem dX8_isCleanSingleSock_60 : decode cX8_isCleanSingleSock 60 = .ok (.getfield 62, 3) := by decide +kernel
theorem dX8_isCleanSingleSock_63 : decode cX8_isCleanSingleSock 63 = .ok (.iload_n 2, 1) := by decide +kernel
theorem dX8_isCleanSingleSock_64 : decode cX8_isCleanSingleSock 64 = .ok (.iaload, 1) := by decide +kernel
theorem dX8_isCleanSingleSock_65 : decode cX8_isCleanSingleSock 65 = .ok (.aload_n 0, 1) := by decide +kernel
theorem dX8_isCleanSingleSock_66 : decode cX8_isCleanSingleSock 66 = .ok (.getfield 62, 3) := by decide +kernel
theorem dX8_isCleanSingleSock_69 : decode cX8_isCleanSingleSock 69 = .ok (.iload_n 1, 1) := by decide +kernel
theorem dX8_isCleanSingleSock_70 : decode cX8_isCleanSingleSock 70 = .ok (.iaload, 1) := by decide +kernel
theorem dX8_isCleanSingleSock_71 : decode cX8_isCleanSingleSock 71 = .ok (.if_icmp .ne 5, 3) := by decide +kernel
theorem dX8_isCleanSingleSock_74 : decode cX8_isCleanSingleSock 74 = .ok (.iconst 0, 1) := by decide +kernel
theorem dX8_isCleanSingleSock_75 : decode cX8_isCleanSingleSock 75 = .ok (.ireturn, 1) := by decide +kernel
theorem dX8_isCleanSingleSock_76 : decode cX8_isCleanSingleSock 76 = .ok (.iinc 2 1, 3) := by decide +kernel
theorem dX8_isCleanSingleSock_79 : decode cX8_isCleanSingleSock 79 = .ok (.goto (-57), 3) := by decide +kernel
theorem dX8_isCleanSingleSock_82 : decode cX8_isCleanSingleSock 82 = .ok (.iconst 1, 1) := by decide +kernel
theorem dX8_isCleanSingleSock_83 : decode cX8_isCleanSingleSock 83 = .ok (.ireturn, 1) := by decide +kernel
theorem dX8_returnToBags_0 : decode cX8_returnToBags 0 = .ok (.iconst 0, 1) := by decide +kernel
theorem dX8_returnToBags_1 : decode cX8_returnToBags 1 = .ok (.istore_n 2, 1) := by decide +kernel
theorem dX8_returnToBags_2 : decode cX8_returnToBags 2 = .ok (.iload_n 2, 1) := by decide +kernel
theorem dX8_returnToBags_3 : decode cX8_returnToBags 3 = .ok (.aload_n 0, 1) := by decide +kernel
theorem dX8_returnToBags_4 : decode cX8_returnToBags 4 = .ok (.getfield 38, 3) := by decide +kernel
theorem dX8_returnToBags_7 : decode cX8_returnToBags 7 = .ok (.if_icmp .ge 25, 3) := by decide +kernel
theorem dX8_returnToBags_10 : decode cX8_returnToBags 10 = .ok (.aload_n 0, 1) := by decide +kernel
theorem dX8_returnToBags_11 : decode cX8_returnToBags 11 = .ok (.iload_n 2, 1) := by decide +kernel
theorem dX8_returnToBags_12 : decode cX8_returnToBags 12 = .ok (.iload_n 1, 1) := by decide +kernel
theorem dX8_returnToBags_13 : decode cX8_returnToBags 13 = .ok (.invokevirtual 41, 3) := by decide +kernel
theorem dX8_returnToBags_16 : decode cX8_returnToBags 16 = .ok (.ifCond .eq 10, 3) := by decide +kernel
theorem dX8_returnToBags_19 : decode cX8_returnToBags 19 = .ok (.aload_n 0, 1) := by decide +kernel
theorem dX8_returnToBags_20 : decode cX8_returnToBags 20 = .ok (.getfield 75, 3) := by decide +kernel
theorem dX8_returnToBags_23 : decode cX8_returnToBags 23 = .ok (.iload_n 2, 1) := by decide +kernel
theorem dX8_returnToBags_24 : decode cX8_returnToBags 24 = .ok (.iconst 0, 1) := by decide +kernel
theorem dX8_returnToBags_25 : decode cX8_returnToBags 25 = .ok (.iastore, 1) := by decide +kernel
theorem dX8_returnToBags_26 : decode cX8_returnToBags 26 = .ok (.iinc 2 1, 3) := by decide +kernel
theorem dX8_returnToBags_29 : decode cX8_returnToBags 29 = .ok (.goto (-27), 3) := by decide +kernel
theorem dX8_returnToBags_32 : decode cX8_returnToBags 32 = .ok (.return_, 1) := by decide +kernel
theorem dX8_damageFromSets_0 : decode cX8_damageFromSets 0 = .ok (.sipush 255, 3) := by decide +kernel
theorem dX8_damageFromSets_3 : decode cX8_damageFromSets 3 = .ok (.iload_n 2, 1) := by decide +kernel
theorem dX8_damageFromSets_4 : decode cX8_damageFromSets 4 = .ok (.invokestatic 53, 3) := by decide +kernel
theorem dX8_damageFromSets_7 : decode cX8_damageFromSets 7 = .ok (.iconst (-1), 1) := by decide +kernel
theorem dX8_damageFromSets_8 : decode cX8_damageFromSets 8 = .ok (.ixor, 1) := by decide +kernel
theorem dX8_damageFromSets_9 : decode cX8_damageFromSets 9 = .ok (.iand, 1) := by decide +kernel
theorem dX8_damageFromSets_10 : decode cX8_damageFromSets 10 = .ok (.istore_n 3, 1) := by decide +kernel
theorem dX8_damageFromSets_11 : decode cX8_damageFromSets 11 = .ok (.iload_n 2, 1) := by decide +kernel
theorem dX8_damageFromSets_12 : decode cX8_damageFromSets 12 = .ok (.bipush 120, 2) := by decide +kernel
theorem dX8_damageFromSets_14 : decode cX8_damageFromSets 14 = .ok (.if_icmp .lt 13, 3) := by decide +kernel
theorem dX8_damageFromSets_17 : decode cX8_damageFromSets 17 = .ok (.iconst 1, 1) := by decide +kernel
theorem dX8_damageFromSets_18 : decode cX8_damageFromSets 18 = .ok (.aload_n 0, 1) := by decide +kernel
theorem dX8_damageFromSets_19 : decode cX8_damageFromSets 19 = .ok (.iload_n 1, 1) := by decide +kernel
theorem dX8_damageFromSets_20 : decode cX8_damageFromSets 20 = .ok (.invokevirtual 59, 3) := by decide +kernel
theorem dX8_damageFromSets_23 : decode cX8_damageFromSets 23 = .ok (.ishl, 1) := by decide +kernel
theorem dX8_damageFromSets_24 : decode cX8_damageFromSets 24 = .ok (.goto 4, 3) := by decide +kernel
theorem dX8_damageFromSets_27 : decode cX8_damageFromSets 27 = .ok (.iconst 0, 1) := by decide +kernel
theorem dX8_damageFromSets_28 : decode cX8_damageFromSets 28 = .ok (.istore 4, 2) := by decide +kernel
theorem dX8_damageFromSets_30 : decode cX8_damageFromSets 30 = .ok (.aload_n 0, 1) := by decide +kernel
theorem dX8_damageFromSets_31 : decode cX8_damageFromSets 31 = .ok (.iload_n 1, 1) := by decide +kernel
theorem dX8_damageFromSets_32 : decode cX8_damageFromSets 32 = .ok (.invokevirtual 68, 3) := by decide +kernel
theorem dX8_damageFromSets_35 : decode cX8_damageFromSets 35 = .ok (.iconst 2, 1) := by decide +kernel
theorem dX8_damageFromSets_36 : decode cX8_damageFromSets 36 = .ok (.irem, 1) := by decide +kernel
theorem dX8_damageFromSets_37 : decode cX8_damageFromSets 37 = .ok (.iconst 1, 1) := by decide +kernel
theorem dX8_damageFromSets_38 : decode cX8_damageFromSets 38 = .ok (.if_icmp .ne 11, 3) := by decide +kernel
theorem dX8_damageFromSets_41 : decode cX8_damageFromSets 41 = .ok (.aload_n 0, 1) := by decide +kernel
theorem dX8_damageFromSets_42 : decode cX8_damageFromSets 42 = .ok (.iload_n 1, 1) := by decide +kernel
theorem dX8_damageFromSets_43 : decode cX8_damageFromSets 43 = .ok (.invokestatic 82, 3) := by decide +kernel
theorem dX8_damageFromSets_46 : decode cX8_damageFromSets 46 = .ok (.goto 4, 3) := by decide +kernel
theorem dX8_damageFromSets_49 : decode cX8_damageFromSets 49 = .ok (.iconst 0, 1) := by decide +kernel
theorem dX8_damageFromSets_50 : decode cX8_damageFromSets 50 = .ok (.istore 5, 2) := by decide +kernel
theorem dX8_damageFromSets_52 : decode cX8_damageFromSets 52 = .ok (.iconst 0, 1) := by decide +kernel
theorem dX8_damageFromSets_53 : decode cX8_damageFromSets 53 = .ok (.istore 6, 2) := by decide +kernel
theorem dX8_damageFromSets_55 : decode cX8_damageFromSets 55 = .ok (.iconst 0, 1) := by decide +kernel
theorem dX8_damageFromSets_56 : decode cX8_damageFromSets 56 = .ok (.istore 7, 2) := by decide +kernel
theorem dX8_damageFromSets_58 : decode cX8_damageFromSets 58 = .ok (.iload 7, 2) := by decide +kernel
theorem dX8_damageFromSets_60 : decode cX8_damageFromSets 60 = .ok (.aload_n 0, 1) := by decide +kernel
theorem dX8_damageFromSets_61 : decode cX8_damageFromSets 61 = .ok (.getfield 38, 3) := by decide +kernel
theorem dX8_damageFromSets_64 : decode cX8_damageFromSets 64 = .ok (.if_icmp .ge 140, 3) := by decide +kernel
theorem dX8_damageFromSets_67 : decode cX8_damageFromSets 67 = .ok (.aload_n 0, 1) := by decide +kernel
theorem dX8_damageFromSets_68 : decode cX8_damageFromSets 68 = .ok (.iload 7, 2) := by decide +kernel
theorem dX8_damageFromSets_70 : decode cX8_damageFromSets 70 = .ok (.iload_n 1, 1) := by decide +kernel
theorem dX8_damageFromSets_71 : decode cX8_damageFromSets 71 = .ok (.invokevirtual 41, 3) := by decide +kernel
theorem dX8_damageFromSets_74 : decode cX8_damageFromSets 74 = .ok (.ifCond .eq 124, 3) := by decide +kernel
theorem dX8_damageFromSets_77 : decode cX8_damageFromSets 77 = .ok (.aload_n 0, 1) := by decide +kernel
theorem dX8_damageFromSets_78 : decode cX8_damageFromSets 78 = .ok (.getfield 56, 3) := by decide +kernel
theorem dX8_damageFromSets_81 : decode cX8_damageFromSets 81 = .ok (.iload 7, 2) := by decide +kernel
theorem dX8_damageFromSets_83 : decode cX8_damageFromSets 83 = .ok (.iaload, 1) := by decide +kernel
theorem dX8_damageFromSets_84 : decode cX8_damageFromSets 84 = .ok (.iload_n 3, 1) := by decide +kernel
theorem dX8_damageFromSets_85 : decode cX8_damageFromSets 85 = .ok (.iand, 1) := by decide +kernel
theorem dX8_damageFromSets_86 : decode cX8_damageFromSets 86 = .ok (.istore 8, 2) := by decide +kernel
theorem dX8_damageFromSets_88 : decode cX8_damageFromSets 88 = .ok (.aload_n 0, 1) := by decide +kernel
theorem dX8_damageFromSets_89 : decode cX8_damageFromSets 89 = .ok (.getfield 62, 3) := by decide +kernel
theorem dX8_damageFromSets_92 : decode cX8_damageFromSets 92 = .ok (.iload 7, 2) := by decide +kernel
theorem dX8_damageFromSets_94 : decode cX8_damageFromSets 94 = .ok (.iaload, 1) := by decide +kernel
theorem dX8_damageFromSets_95 : decode cX8_damageFromSets 95 = .ok (.ifCond .ne 13, 3) := by decide +kernel
theorem dX8_damageFromSets_98 : decode cX8_damageFromSets 98 = .ok (.iload 4, 2) := by decide +kernel
theorem dX8_damageFromSets_100 : decode cX8_damageFromSets 100 = .ok (.iload 8, 2) := by decide +kernel
theorem dX8_damageFromSets_102 : decode cX8_damageFromSets 102 = .ok (.iconst (-1), 1) := by decide +kernel
theorem dX8_damageFromSets_103 : decode cX8_damageFromSets 103 = .ok (.ixor, 1) := by decide +kernel
theorem dX8_damageFromSets_104 : decode cX8_damageFromSets 104 = .ok (.iand, 1) := by decide +kernel
theorem dX8_damageFromSets_105 : decode cX8_damageFromSets 105 = .ok (.goto 4, 3) := by decide +kernel
theorem dX8_damageFromSets_108 : decode cX8_damageFromSets 108 = .ok (.iconst 0, 1) := by decide +kernel
theorem dX8_damageFromSets_109 : decode cX8_damageFromSets 109 = .ok (.istore 9, 2) := by decide +kernel
theorem dX8_damageFromSets_111 : decode cX8_damageFromSets 111 = .ok (.iload 6, 2) := by decide +kernel
theorem dX8_damageFromSets_113 : decode cX8_damageFromSets 113 = .ok (.iload 8, 2) := by decide +kernel
theorem dX8_damageFromSets_115 : decode cX8_damageFromSets 115 = .ok (.invokestatic 85, 3) := by decide +kernel
theorem dX8_damageFromSets_118 : decode cX8_damageFromSets 118 = .ok (.iconst 3, 1) := by decide +kernel
theorem dX8_damageFromSets_119 : decode cX8_damageFromSets 119 = .ok (.iload 9, 2) := by decide +kernel
theorem dX8_damageFromSets_121 : decode cX8_damageFromSets 121 = .ok (.invokestatic 85, 3) := by decide +kernel
theorem dX8_damageFromSets_124 : decode cX8_damageFromSets 124 = .ok (.imul, 1) := by decide +kernel
theorem dX8_damageFromSets_125 : decode cX8_damageFromSets 125 = .ok (.iadd, 1) := by decide +kernel
theorem dX8_damageFromSets_126 : decode cX8_damageFromSets 126 = .ok (.iadd, 1) := by decide +kernel
theorem dX8_damageFromSets_127 : decode cX8_damageFromSets 127 = .ok (.istore 6, 2) := by decide +kernel
theorem dX8_damageFromSets_129 : decode cX8_damageFromSets 129 = .ok (.iload 8, 2) := by decide +kernel
theorem dX8_damageFromSets_131 : decode cX8_damageFromSets 131 = .ok (.iload 9, 2) := by decide +kernel
theorem dX8_damageFromSets_133 : decode cX8_damageFromSets 133 = .ok (.ior, 1) := by decide +kernel
theorem dX8_damageFromSets_134 : decode cX8_damageFromSets 134 = .ok (.ifCond .ne 7, 3) := by decide +kernel
theorem dX8_damageFromSets_137 : decode cX8_damageFromSets 137 = .ok (.iconst 1, 1) := by decide +kernel
theorem dX8_damageFromSets_138 : decode cX8_damageFromSets 138 = .ok (.goto 4, 3) := by decide +kernel
theorem dX8_damageFromSets_141 : decode cX8_damageFromSets 141 = .ok (.iconst 0, 1) := by decide +kernel
theorem dX8_damageFromSets_142 : decode cX8_damageFromSets 142 = .ok (.istore 10, 2) := by decide +kernel
theorem dX8_damageFromSets_144 : decode cX8_damageFromSets 144 = .ok (.iload 5, 2) := by decide +kernel
theorem dX8_damageFromSets_146 : decode cX8_damageFromSets 146 = .ok (.aload_n 0, 1) := by decide +kernel
theorem dX8_damageFromSets_147 : decode cX8_damageFromSets 147 = .ok (.getfield 62, 3) := by decide +kernel
theorem dX8_damageFromSets_150 : decode cX8_damageFromSets 150 = .ok (.iload 7, 2) := by decide +kernel
theorem dX8_damageFromSets_152 : decode cX8_damageFromSets 152 = .ok (.iaload, 1) := by decide +kernel
theorem dX8_damageFromSets_153 : decode cX8_damageFromSets 153 = .ok (.ishr, 1) := by decide +kernel
theorem dX8_damageFromSets_154 : decode cX8_damageFromSets 154 = .ok (.iconst 1, 1) := by decide +kernel
theorem dX8_damageFromSets_155 : decode cX8_damageFromSets 155 = .ok (.iand, 1) := by decide +kernel
theorem dX8_damageFromSets_156 : decode cX8_damageFromSets 156 = .ok (.iconst 1, 1) := by decide +kernel
theorem dX8_damageFromSets_157 : decode cX8_damageFromSets 157 = .ok (.if_icmp .ne 7, 3) := by decide +kernel
theorem dX8_damageFromSets_160 : decode cX8_damageFromSets 160 = .ok (.iconst 1, 1) := by decide +kernel
theorem dX8_damageFromSets_161 : decode cX8_damageFromSets 161 = .ok (.goto 4, 3) := by decide +kernel
theorem dX8_damageFromSets_164 : decode cX8_damageFromSets 164 = .ok (.iconst 0, 1) := by decide +kernel
theorem dX8_damageFromSets_165 : decode cX8_damageFromSets 165 = .ok (.istore 11, 2) := by decide +kernel
theorem dX8_damageFromSets_167 : decode cX8_damageFromSets 167 = .ok (.iload 6, 2) := by decide +kernel
theorem dX8_damageFromSets_169 : decode cX8_damageFromSets 169 = .ok (.aload_n 0, 1) := by decide +kernel
theorem dX8_damageFromSets_170 : decode cX8_damageFromSets 170 = .ok (.getfield 78, 3) := by decide +kernel
theorem dX8_damageFromSets_173 : decode cX8_damageFromSets 173 = .ok (.iload 7, 2) := by decide +kernel
theorem dX8_damageFromSets_175 : decode cX8_damageFromSets 175 = .ok (.baload, 1) := by decide +kernel
theorem dX8_damageFromSets_176 : decode cX8_damageFromSets 176 = .ok (.ifCond .eq 18, 3) := by decide +kernel
theorem dX8_damageFromSets_179 : decode cX8_damageFromSets 179 = .ok (.iload 10, 2) := by decide +kernel
theorem dX8_damageFromSets_181 : decode cX8_damageFromSets 181 = .ok (.ifCond .eq 13, 3) := by decide +kernel
theorem dX8_damageFromSets_184 : decode cX8_damageFromSets 184 = .ok (.iload 11, 2) := by decide +kernel
theorem dX8_damageFromSets_186 : decode cX8_damageFromSets 186 = .ok (.ifCond .eq 8, 3) := by decide +kernel
theorem dX8_damageFromSets_189 : decode cX8_damageFromSets 189 = .ok (.bipush 10, 2) := by decide +kernel
theorem dX8_damageFromSets_191 : decode cX8_damageFromSets 191 = .ok (.goto 4, 3) := by decide +kernel
theorem dX8_damageFromSets_194 : decode cX8_damageFromSets 194 = .ok (.iconst 0, 1) := by decide +kernel
theorem dX8_damageFromSets_195 : decode cX8_damageFromSets 195 = .ok (.iadd, 1) := by decide +kernel
theorem dX8_damageFromSets_196 : decode cX8_damageFromSets 196 = .ok (.istore 6, 2) := by decide +kernel
theorem dX8_damageFromSets_198 : decode cX8_damageFromSets 198 = .ok (.iinc 7 1, 3) := by decide +kernel
theorem dX8_damageFromSets_201 : decode cX8_damageFromSets 201 = .ok (.goto (-143), 3) := by decide +kernel
theorem dX8_damageFromSets_204 : decode cX8_damageFromSets 204 = .ok (.iload 6, 2) := by decide +kernel
theorem dX8_damageFromSets_206 : decode cX8_damageFromSets 206 = .ok (.ireturn, 1) := by decide +kernel
theorem dX8_singleSockColours_0 : decode cX8_singleSockColours 0 = .ok (.iconst 0, 1) := by decide +kernel
theorem dX8_singleSockColours_1 : decode cX8_singleSockColours 1 = .ok (.istore_n 2, 1) := by decide +kernel
theorem dX8_singleSockColours_2 : decode cX8_singleSockColours 2 = .ok (.iconst 0, 1) := by decide +kernel
theorem dX8_singleSockColours_3 : decode cX8_singleSockColours 3 = .ok (.istore_n 3, 1) := by decide +kernel
theorem dX8_singleSockColours_4 : decode cX8_singleSockColours 4 = .ok (.iconst 0, 1) := by decide +kernel
theorem dX8_singleSockColours_5 : decode cX8_singleSockColours 5 = .ok (.istore 4, 2) := by decide +kernel
theorem dX8_singleSockColours_7 : decode cX8_singleSockColours 7 = .ok (.iload 4, 2) := by decide +kernel
theorem dX8_singleSockColours_9 : decode cX8_singleSockColours 9 = .ok (.aload_n 0, 1) := by decide +kernel
theorem dX8_singleSockColours_10 : decode cX8_singleSockColours 10 = .ok (.getfield 38, 3) := by decide +kernel
theorem dX8_singleSockColours_13 : decode cX8_singleSockColours 13 = .ok (.if_icmp .ge 52, 3) := by decide +kernel
theorem dX8_singleSockColours_16 : decode cX8_singleSockColours 16 = .ok (.aload_n 0, 1) := by decide +kernel
theorem dX8_singleSockColours_17 : decode cX8_singleSockColours 17 = .ok (.iload 4, 2) := by decide +kernel
theorem dX8_singleSockColours_19 : decode cX8_singleSockColours 19 = .ok (.iload_n 1, 1) := by decide +kernel
theorem dX8_singleSockColours_20 : decode cX8_singleSockColours 20 = .ok (.invokevirtual 41, 3) := by decide +kernel
theorem dX8_singleSockColours_23 : decode cX8_singleSockColours 23 = .ok (.ifCond .eq 36, 3) := by decide +kernel
theorem dX8_singleSockColours_26 : decode cX8_singleSockColours 26 = .ok (.aload_n 0, 1) := by decide +kernel
theorem dX8_singleSockColours_27 : decode cX8_singleSockColours 27 = .ok (.getfield 78, 3) := by decide +kernel
theorem dX8_singleSockColours_30 : decode cX8_singleSockColours 30 = .ok (.iload 4, 2) := by decide +kernel
theorem dX8_singleSockColours_32 : decode cX8_singleSockColours 32 = .ok (.baload, 1) := by decide +kernel
theorem dX8_singleSockColours_33 : decode cX8_singleSockColours 33 = .ok (.ifCond .eq 26, 3) := by decide +kernel
theorem dX8_singleSockColours_36 : decode cX8_singleSockColours 36 = .ok (.iconst 1, 1) := by decide +kernel
theorem dX8_singleSockColours_37 : decode cX8_singleSockColours 37 = .ok (.aload_n 0, 1) := by decide +kernel
theorem dX8_singleSockColours_38 : decode cX8_singleSockColours 38 = .ok (.getfield 62, 3) := by decide +kernel
theorem dX8_singleSockColours_41 : decode cX8_singleSockColours 41 = .ok (.iload 4, 2) := by decide +kernel
theorem dX8_singleSockColours_43 : decode cX8_singleSockColours 43 = .ok (.iaload, 1) := by decide +kernel
theorem dX8_singleSockColours_44 : decode cX8_singleSockColours 44 = .ok (.ishl, 1) := by decide +kernel
theorem dX8_singleSockColours_45 : decode cX8_singleSockColours 45 = .ok (.istore 5, 2) := by decide +kernel
theorem dX8_singleSockColours_47 : decode cX8_singleSockColours 47 = .ok (.iload_n 3, 1) := by decide +kernel
theorem dX8_singleSockColours_48 : decode cX8_singleSockColours 48 = .ok (.iload_n 2, 1) := by decide +kernel
theorem dX8_singleSockColours_49 : decode cX8_singleSockColours 49 = .ok (.iload 5, 2) := by decide +kernel
theorem dX8_singleSockColours_51 : decode cX8_singleSockColours 51 = .ok (.iand, 1) := by decide +kernel
theorem dX8_singleSockColours_52 : decode cX8_singleSockColours 52 = .ok (.ior, 1) := by decide +kernel
theorem dX8_singleSockColours_53 : decode cX8_singleSockColours 53 = .ok (.istore_n 3, 1) := by decide +kernel
theorem dX8_singleSockColours_54 : decode cX8_singleSockColours 54 = .ok (.iload_n 2, 1) := by decide +kernel
theorem dX8_singleSockColours_55 : decode cX8_singleSockColours 55 = .ok (.iload 5, 2) := by decide +kernel
theorem dX8_singleSockColours_57 : decode cX8_singleSockColours 57 = .ok (.ior, 1) := by decide +kernel
theorem dX8_singleSockColours_58 : decode cX8_singleSockColours 58 = .ok (.istore_n 2, 1) := by decide +kernel
theorem dX8_singleSockColours_59 : decode cX8_singleSockColours 59 = .ok (.iinc 4 1, 3) := by decide +kernel
theorem dX8_singleSockColours_62 : decode cX8_singleSockColours 62 = .ok (.goto (-55), 3) := by decide +kernel
theorem dX8_singleSockColours_65 : decode cX8_singleSockColours 65 = .ok (.iload_n 2, 1) := by decide +kernel
theorem dX8_singleSockColours_66 : decode cX8_singleSockColours 66 = .ok (.iload_n 3, 1) := by decide +kernel
theorem dX8_singleSockColours_67 : decode cX8_singleSockColours 67 = .ok (.iconst (-1), 1) := by decide +kernel
theorem dX8_singleSockColours_68 : decode cX8_singleSockColours 68 = .ok (.ixor, 1) := by decide +kernel
theorem dX8_singleSockColours_69 : decode cX8_singleSockColours 69 = .ok (.iand, 1) := by decide +kernel
theorem dX8_singleSockColours_70 : decode cX8_singleSockColours 70 = .ok (.ireturn, 1) := by decide +kernel
theorem dX8_leastHarmfulHalves_0 : decode cX8_leastHarmfulHalves 0 = .ok (.bipush 40, 2) := by decide +kernel
theorem dX8_leastHarmfulHalves_2 : decode cX8_leastHarmfulHalves 2 = .ok (.istore_n 2, 1) := by decide +kernel
theorem dX8_leastHarmfulHalves_3 : decode cX8_leastHarmfulHalves 3 = .ok (.aload_n 0, 1) := by decide +kernel
theorem dX8_leastHarmfulHalves_4 : decode cX8_leastHarmfulHalves 4 = .ok (.iload_n 1, 1) := by decide +kernel
theorem dX8_leastHarmfulHalves_5 : decode cX8_leastHarmfulHalves 5 = .ok (.iload_n 2, 1) := by decide +kernel
theorem dX8_leastHarmfulHalves_6 : decode cX8_leastHarmfulHalves 6 = .ok (.invokestatic 90, 3) := by decide +kernel
theorem dX8_leastHarmfulHalves_9 : decode cX8_leastHarmfulHalves 9 = .ok (.istore_n 3, 1) := by decide +kernel
theorem dX8_leastHarmfulHalves_10 : decode cX8_leastHarmfulHalves 10 = .ok (.bipush 50, 2) := by decide +kernel
theorem dX8_leastHarmfulHalves_12 : decode cX8_leastHarmfulHalves 12 = .ok (.istore 4, 2) := by decide +kernel
theorem dX8_leastHarmfulHalves_14 : decode cX8_leastHarmfulHalves 14 = .ok (.iload 4, 2) := by decide +kernel
theorem dX8_leastHarmfulHalves_16 : decode cX8_leastHarmfulHalves 16 = .ok (.bipush 120, 2) := by decide +kernel
theorem dX8_leastHarmfulHalves_18 : decode cX8_leastHarmfulHalves 18 = .ok (.if_icmp .gt 30, 3) := by decide +kernel
theorem dX8_leastHarmfulHalves_21 : decode cX8_leastHarmfulHalves 21 = .ok (.aload_n 0, 1) := by decide +kernel
theorem dX8_leastHarmfulHalves_22 : decode cX8_leastHarmfulHalves 22 = .ok (.iload_n 1, 1) := by decide +kernel
theorem dX8_leastHarmfulHalves_23 : decode cX8_leastHarmfulHalves 23 = .ok (.iload 4, 2) := by decide +kernel
theorem dX8_leastHarmfulHalves_25 : decode cX8_leastHarmfulHalves 25 = .ok (.invokestatic 90, 3) := by decide +kernel
theorem dX8_leastHarmfulHalves_28 : decode cX8_leastHarmfulHalves 28 = .ok (.istore 5, 2) := by decide +kernel
theorem dX8_leastHarmfulHalves_30 : decode cX8_leastHarmfulHalves 30 = .ok (.iload 5, 2) := by decide +kernel
theorem dX8_leastHarmfulHalves_32 : decode cX8_leastHarmfulHalves 32 = .ok (.iload_n 3, 1) := by decide +kernel
theorem dX8_leastHarmfulHalves_33 : decode cX8_leastHarmfulHalves 33 = .ok (.if_icmp .ge 9, 3) := by decide +kernel
theorem dX8_leastHarmfulHalves_36 : decode cX8_leastHarmfulHalves 36 = .ok (.iload 5, 2) := by decide +kernel
theorem dX8_leastHarmfulHalves_38 : decode cX8_leastHarmfulHalves 38 = .ok (.istore_n 3, 1) := by decide +kernel
theorem dX8_leastHarmfulHalves_39 : decode cX8_leastHarmfulHalves 39 = .ok (.iload 4, 2) := by decide +kernel
theorem dX8_leastHarmfulHalves_41 : decode cX8_leastHarmfulHalves 41 = .ok (.istore_n 2, 1) := by decide +kernel
theorem dX8_leastHarmfulHalves_42 : decode cX8_leastHarmfulHalves 42 = .ok (.iinc 4 10, 3) := by decide +kernel
theorem dX8_leastHarmfulHalves_45 : decode cX8_leastHarmfulHalves 45 = .ok (.goto (-31), 3) := by decide +kernel
theorem dX8_leastHarmfulHalves_48 : decode cX8_leastHarmfulHalves 48 = .ok (.iload_n 2, 1) := by decide +kernel
theorem dX8_leastHarmfulHalves_49 : decode cX8_leastHarmfulHalves 49 = .ok (.ireturn, 1) := by decide +kernel
theorem dX9_init_0 : decode cX9_init 0 = .ok (.aload_n 0, 1) := by decide +kernel
theorem dX9_init_1 : decode cX9_init 1 = .ok (.invokespecial 3, 3) := by decide +kernel
theorem dX9_init_4 : decode cX9_init 4 = .ok (.aload_n 0, 1) := by decide +kernel
theorem dX9_init_5 : decode cX9_init 5 = .ok (.new 9, 3) := by decide +kernel
theorem dX9_init_8 : decode cX9_init 8 = .ok (.dup, 1) := by decide +kernel
theorem dX9_init_9 : decode cX9_init 9 = .ok (.invokespecial 11, 3) := by decide +kernel
theorem dX9_init_12 : decode cX9_init 12 = .ok (.putfield 12, 3) := by decide +kernel
theorem dX9_init_15 : decode cX9_init 15 = .ok (.aload_n 0, 1) := by decide +kernel
theorem dX9_init_16 : decode cX9_init 16 = .ok (.new 9, 3) := by decide +kernel
theorem dX9_init_19 : decode cX9_init 19 = .ok (.dup, 1) := by decide +kernel
theorem dX9_init_20 : decode cX9_init 20 = .ok (.invokespecial 11, 3) := by decide +kernel
theorem dX9_init_23 : decode cX9_init 23 = .ok (.putfield 16, 3) := by decide +kernel
theorem dX9_init_26 : decode cX9_init 26 = .ok (.aload_n 0, 1) := by decide +kernel
theorem dX9_init_27 : decode cX9_init 27 = .ok (.new 9, 3) := by decide +kernel
theorem dX9_init_30 : decode cX9_init 30 = .ok (.dup, 1) := by decide +kernel
theorem dX9_init_31 : decode cX9_init 31 = .ok (.invokespecial 11, 3) := by decide +kernel
theorem dX9_init_34 : decode cX9_init 34 = .ok (.putfield 19, 3) := by decide +kernel
theorem dX9_init_37 : decode cX9_init 37 = .ok (.aload_n 0, 1) := by decide +kernel
theorem dX9_init_38 : decode cX9_init 38 = .ok (.iconst 0, 1) := by decide +kernel
theorem dX9_init_39 : decode cX9_init 39 = .ok (.putfield 22, 3) := by decide +kernel
theorem dX9_init_42 : decode cX9_init 42 = .ok (.aload_n 0, 1) := by decide +kernel
theorem dX9_init_43 : decode cX9_init 43 = .ok (.new 26, 3) := by decide +kernel
theorem dX9_init_46 : decode cX9_init 46 = .ok (.dup, 1) := by decide +kernel
theorem dX9_init_47 : decode cX9_init 47 = .ok (.invokespecial 28, 3) := by decide +kernel
theorem dX9_init_50 : decode cX9_init 50 = .ok (.putfield 29, 3) := by decide +kernel
theorem dX9_init_53 : decode cX9_init 53 = .ok (.aload_n 0, 1) := by decide +kernel
theorem dX9_init_54 : decode cX9_init 54 = .ok (.new 33, 3) := by decide +kernel
theorem dX9_init_57 : decode cX9_init 57 = .ok (.dup, 1) := by decide +kernel
theorem dX9_init_58 : decode cX9_init 58 = .ok (.invokespecial 35, 3) := by decide +kernel
theorem dX9_init_61 : decode cX9_init 61 = .ok (.putfield 36, 3) := by decide +kernel
theorem dX9_init_64 : decode cX9_init 64 = .ok (.aload_n 0, 1) := by decide +kernel
theorem dX9_init_65 : decode cX9_init 65 = .ok (.new 40, 3) := by decide +kernel
theorem dX9_init_68 : decode cX9_init 68 = .ok (.dup, 1) := by decide +kernel
theorem dX9_init_69 : decode cX9_init 69 = .ok (.invokespecial 42, 3) := by decide +kernel
theorem dX9_init_72 : decode cX9_init 72 = .ok (.putfield 43, 3) := by decide +kernel
theorem dX9_init_75 : decode cX9_init 75 = .ok (.aload_n 0, 1) := by decide +kernel
theorem dX9_init_76 : decode cX9_init 76 = .ok (.iconst (-1), 1) := by decide +kernel
theorem dX9_init_77 : decode cX9_init 77 = .ok (.putfield 47, 3) := by decide +kernel
theorem dX9_init_80 : decode cX9_init 80 = .ok (.aload_n 0, 1) := by decide +kernel
theorem dX9_init_81 : decode cX9_init 81 = .ok (.iconst (-1), 1) := by decide +kernel
theorem dX9_init_82 : decode cX9_init 82 = .ok (.putfield 51, 3) := by decide +kernel
theorem dX9_init_85 : decode cX9_init 85 = .ok (.return_, 1) := by decide +kernel
theorem dX9_bring_0 : decode cX9_bring 0 = .ok (.aload_n 0, 1) := by decide +kernel
theorem dX9_bring_1 : decode cX9_bring 1 = .ok (.getfield 12, 3) := by decide +kernel
theorem dX9_bring_4 : decode cX9_bring 4 = .ok (.iload_n 1, 1) := by decide +kernel
theorem dX9_bring_5 : decode cX9_bring 5 = .ok (.iload_n 3, 1) := by decide +kernel
theorem dX9_bring_6 : decode cX9_bring 6 = .ok (.iload 4, 2) := by decide +kernel
theorem dX9_bring_8 : decode cX9_bring 8 = .ok (.invokevirtual 54, 3) := by decide +kernel
theorem dX9_bring_11 : decode cX9_bring 11 = .ok (.invokestatic 58, 3) := by decide +kernel
theorem dX9_bring_14 : decode cX9_bring 14 = .ok (.aload_n 0, 1) := by decide +kernel
theorem dX9_bring_15 : decode cX9_bring 15 = .ok (.getfield 29, 3) := by decide +kernel
theorem dX9_bring_18 : decode cX9_bring 18 = .ok (.aload_n 0, 1) := by decide +kernel
theorem dX9_bring_19 : decode cX9_bring 19 = .ok (.getfield 12, 3) := by decide +kernel
theorem dX9_bring_22 : decode cX9_bring 22 = .ok (.invokevirtual 62, 3) := by decide +kernel
theorem dX9_bring_25 : decode cX9_bring 25 = .ok (.aload_n 0, 1) := by decide +kernel
theorem dX9_bring_26 : decode cX9_bring 26 = .ok (.getfield 12, 3) := by decide +kernel
theorem dX9_bring_29 : decode cX9_bring 29 = .ok (.iload_n 1, 1) := by decide +kernel
theorem dX9_bring_30 : decode cX9_bring 30 = .ok (.iload_n 2, 1) := by decide +kernel
theorem dX9_bring_31 : decode cX9_bring 31 = .ok (.iload_n 3, 1) := by decide +kernel
theorem dX9_bring_32 : decode cX9_bring 32 = .ok (.iload 4, 2) := by decide +kernel
theorem dX9_bring_34 : decode cX9_bring 34 = .ok (.invokevirtual 66, 3) := by decide +kernel
theorem dX9_bring_37 : decode cX9_bring 37 = .ok (.ireturn, 1) := by decide +kernel
theorem dX9_load_0 : decode cX9_load 0 = .ok (.aload_n 0, 1) := by decide +kernel
theorem dX9_load_1 : decode cX9_load 1 = .ok (.getfield 12, 3) := by decide +kernel
theorem dX9_load_4 : decode cX9_load 4 = .ok (.iload_n 1, 1) := by decide +kernel
theorem dX9_load_5 : decode cX9_load 5 = .ok (.iload_n 2, 1) := by decide +kernel
theorem dX9_load_6 : decode cX9_load 6 = .ok (.invokevirtual 70, 3) := by decide +kernel
theorem dX9_load_9 : decode cX9_load 9 = .ok (.invokestatic 58, 3) := by decide +kernel
theorem dX9_load_12 : decode cX9_load 12 = .ok (.aload_n 0, 1) := by decide +kernel
theorem dX9_load_13 : decode cX9_load 13 = .ok (.getfield 29, 3) := by decide +kernel
theorem dX9_load_16 : decode cX9_load 16 = .ok (.aload_n 0, 1) := by decide +kernel
theorem dX9_load_17 : decode cX9_load 17 = .ok (.getfield 12, 3) := by decide +kernel
theorem dX9_load_20 : decode cX9_load 20 = .ok (.invokevirtual 62, 3) := by decide +kernel
theorem dX9_load_23 : decode cX9_load 23 = .ok (.aload_n 0, 1) := by decide +kernel
theorem dX9_load_24 : decode cX9_load 24 = .ok (.getfield 12, 3) := by decide +kernel
theorem dX9_load_27 : decode cX9_load 27 = .ok (.iload_n 1, 1) := by decide +kernel
theorem dX9_load_28 : decode cX9_load 28 = .ok (.iload_n 2, 1) := by decide +kernel
theorem dX9_load_29 : decode cX9_load 29 = .ok (.invokevirtual 74, 3) := by decide +kernel
theorem dX9_load_32 : decode cX9_load 32 = .ok (.aload_n 0, 1) := by decide +kernel
theorem dX9_load_33 : decode cX9_load 33 = .ok (.getfield 12, 3) := by decide +kernel
theorem dX9_load_36 : decode cX9_load 36 = .ok (.iload_n 2, 1) := by decide +kernel
theorem dX9_load_37 : decode cX9_load 37 = .ok (.invokevirtual 78, 3) := by decide +kernel
theorem dX9_load_40 : decode cX9_load 40 = .ok (.ireturn, 1) := by decide +kernel
theorem dX9_takeOut_0 : decode cX9_takeOut 0 = .ok (.aload_n 0, 1) := by decide +kernel
theorem dX9_takeOut_1 : decode cX9_takeOut 1 = .ok (.getfield 12, 3) := by decide +kernel
theorem dX9_takeOut_4 : decode cX9_takeOut 4 = .ok (.iload_n 1, 1) := by decide +kernel
theorem dX9_takeOut_5 : decode cX9_takeOut 5 = .ok (.invokevirtual 82, 3) := by decide +kernel
theorem dX9_takeOut_8 : decode cX9_takeOut 8 = .ok (.invokestatic 58, 3) := by decide +kernel
theorem dX9_takeOut_11 : decode cX9_takeOut 11 = .ok (.aload_n 0, 1) := by decide +kernel
theorem dX9_takeOut_12 : decode cX9_takeOut 12 = .ok (.getfield 29, 3) := by decide +kernel
theorem dX9_takeOut_15 : decode cX9_takeOut 15 = .ok (.aload_n 0, 1) := by decide +kernel
theorem dX9_takeOut_16 : decode cX9_takeOut 16 = .ok (.getfield 12, 3) := by decide +kernel
theorem dX9_takeOut_19 : decode cX9_takeOut 19 = .ok (.invokevirtual 62, 3) := by decide +kernel
theorem dX9_takeOut_22 : decode cX9_takeOut 22 = .ok (.aload_n 0, 1) := by decide +kernel
theorem dX9_takeOut_23 : decode cX9_takeOut 23 = .ok (.getfield 12, 3) := by decide +kernel
theorem dX9_takeOut_26 : decode cX9_takeOut 26 = .ok (.iload_n 1, 1) := by decide +kernel
theorem dX9_takeOut_27 : decode cX9_takeOut 27 = .ok (.invokevirtual 86, 3) := by decide +kernel
theorem dX9_takeOut_30 : decode cX9_takeOut 30 = .ok (.ireturn, 1) := by decide +kernel
theorem dX9_setTemperature_0 : decode cX9_setTemperature 0 = .ok (.aload_n 0, 1) := by decide +kernel
theorem dX9_setTemperature_1 : decode cX9_setTemperature 1 = .ok (.getfield 12, 3) := by decide +kernel
theorem dX9_setTemperature_4 : decode cX9_setTemperature 4 = .ok (.iload_n 1, 1) := by decide +kernel
theorem dX9_setTemperature_5 : decode cX9_setTemperature 5 = .ok (.iload_n 2, 1) := by decide +kernel
theorem dX9_setTemperature_6 : decode cX9_setTemperature 6 = .ok (.invokevirtual 89, 3) := by decide +kernel
theorem dX9_setTemperature_9 : decode cX9_setTemperature 9 = .ok (.invokestatic 58, 3) := by decide +kernel
theorem dX9_setTemperature_12 : decode cX9_setTemperature 12 = .ok (.aload_n 0, 1) := by decide +kernel
theorem dX9_setTemperature_13 : decode cX9_setTemperature 13 = .ok (.getfield 29, 3) := by decide +kernel
theorem dX9_setTemperature_16 : decode cX9_setTemperature 16 = .ok (.aload_n 0, 1) := by decide +kernel
theorem dX9_setTemperature_17 : decode cX9_setTemperature 17 = .ok (.getfield 12, 3) := by decide +kernel
theorem dX9_setTemperature_20 : decode cX9_setTemperature 20 = .ok (.invokevirtual 62, 3) := by decide +kernel
theorem dX9_setTemperature_23 : decode cX9_setTemperature 23 = .ok (.aload_n 0, 1) := by decide +kernel
theorem dX9_setTemperature_24 : decode cX9_setTemperature 24 = .ok (.getfield 12, 3) := by decide +kernel
theorem dX9_setTemperature_27 : decode cX9_setTemperature 27 = .ok (.iload_n 1, 1) := by decide +kernel
theorem dX9_setTemperature_28 : decode cX9_setTemperature 28 = .ok (.invokevirtual 92, 3) := by decide +kernel
theorem dX9_setTemperature_31 : decode cX9_setTemperature 31 = .ok (.fstore_n 3, 1) := by decide +kernel
theorem dX9_setTemperature_32 : decode cX9_setTemperature 32 = .ok (.aload_n 0, 1) := by decide +kernel
theorem dX9_setTemperature_33 : decode cX9_setTemperature 33 = .ok (.getfield 12, 3) := by decide +kernel
theorem dX9_setTemperature_36 : decode cX9_setTemperature 36 = .ok (.getfield 96, 3) := by decide +kernel
theorem dX9_setTemperature_39 : decode cX9_setTemperature 39 = .ok (.iload_n 1, 1) := by decide +kernel
theorem dX9_setTemperature_40 : decode cX9_setTemperature 40 = .ok (.iload_n 2, 1) := by decide +kernel
theorem dX9_setTemperature_41 : decode cX9_setTemperature 41 = .ok (.iastore, 1) := by decide +kernel
theorem dX9_setTemperature_42 : decode cX9_setTemperature 42 = .ok (.fload_n 3, 1) := by decide +kernel
theorem dX9_setTemperature_43 : decode cX9_setTemperature 43 = .ok (.freturn, 1) := by decide +kernel
theorem dX9_run_0 : decode cX9_run 0 = .ok (.aload_n 0, 1) := by decide +kernel
theorem dX9_run_1 : decode cX9_run 1 = .ok (.getfield 12, 3) := by decide +kernel
theorem dX9_run_4 : decode cX9_run 4 = .ok (.iload_n 1, 1) := by decide +kernel
theorem dX9_run_5 : decode cX9_run 5 = .ok (.invokevirtual 100, 3) := by decide +kernel
theorem dX9_run_8 : decode cX9_run 8 = .ok (.invokestatic 58, 3) := by decide +kernel
theorem dX9_run_11 : decode cX9_run 11 = .ok (.aload_n 0, 1) := by decide +kernel
theorem dX9_run_12 : decode cX9_run 12 = .ok (.getfield 29, 3) := by decide +kernel
theorem dX9_run_15 : decode cX9_run 15 = .ok (.aload_n 0, 1) := by decide +kernel
theorem dX9_run_16 : decode cX9_run 16 = .ok (.getfield 12, 3) := by decide +kernel
theorem dX9_run_19 : decode cX9_run 19 = .ok (.invokevirtual 62, 3) := by decide +kernel
theorem dX9_run_22 : decode cX9_run 22 = .ok (.aload_n 0, 1) := by decide +kernel
theorem dX9_run_23 : decode cX9_run 23 = .ok (.getfield 12, 3) := by decide +kernel
theorem dX9_run_26 : decode cX9_run 26 = .ok (.iload_n 1, 1) := by decide +kernel
theorem dX9_run_27 : decode cX9_run 27 = .ok (.invokestatic 103, 3) := by decide +kernel
theorem dX9_run_30 : decode cX9_run 30 = .ok (.ireturn, 1) := by decide +kernel
theorem dX9_garmentCount_0 : decode cX9_garmentCount 0 = .ok (.aload_n 0, 1) := by decide +kernel
theorem dX9_garmentCount_1 : decode cX9_garmentCount 1 = .ok (.getfield 12, 3) := by decide +kernel
theorem dX9_garmentCount_4 : decode cX9_garmentCount 4 = .ok (.getfield 109, 3) := by decide +kernel
theorem dX9_garmentCount_7 : decode cX9_garmentCount 7 = .ok (.ireturn, 1) := by decide +kernel
theorem dX9_client_0 : decode cX9_client 0 = .ok (.aload_n 0, 1) := by decide +kernel
theorem dX9_client_1 : decode cX9_client 1 = .ok (.iload_n 1, 1) := by decide +kernel
theorem dX9_client_2 : decode cX9_client 2 = .ok (.invokevirtual 112, 3) := by decide +kernel
theorem dX9_client_5 : decode cX9_client 5 = .ok (.aload_n 0, 1) := by decide +kernel
theorem dX9_client_6 : decode cX9_client 6 = .ok (.getfield 12, 3) := by decide +kernel
theorem dX9_client_9 : decode cX9_client 9 = .ok (.getfield 116, 3) := by decide +kernel
theorem dX9_client_12 : decode cX9_client 12 = .ok (.iload_n 1, 1) := by decide +kernel
theorem dX9_client_13 : decode cX9_client 13 = .ok (.iaload, 1) := by decide +kernel
theorem dX9_client_14 : decode cX9_client 14 = .ok (.ireturn, 1) := by decide +kernel
theorem dX9_isSock_0 : decode cX9_isSock 0 = .ok (.aload_n 0, 1) := by decide +kernel
theorem dX9_isSock_1 : decode cX9_isSock 1 = .ok (.iload_n 1, 1) := by decide +kernel
theorem dX9_isSock_2 : decode cX9_isSock 2 = .ok (.invokevirtual 112, 3) := by decide +kernel
theorem dX9_isSock_5 : decode cX9_isSock 5 = .ok (.aload_n 0, 1) := by decide +kernel
theorem dX9_isSock_6 : decode cX9_isSock 6 = .ok (.getfield 12, 3) := by decide +kernel
theorem dX9_isSock_9 : decode cX9_isSock 9 = .ok (.getfield 119, 3) := by decide +kernel
theorem dX9_isSock_12 : decode cX9_isSock 12 = .ok (.iload_n 1, 1) := by decide +kernel
theorem dX9_isSock_13 : decode cX9_isSock 13 = .ok (.baload, 1) := by decide +kernel
theorem dX9_isSock_14 : decode cX9_isSock 14 = .ok (.ireturn, 1) := by decide +kernel
theorem dX9_colour_0 : decode cX9_colour 0 = .ok (.aload_n 0, 1) := by decide +kernel
theorem dX9_colour_1 : decode cX9_colour 1 = .ok (.iload_n 1, 1) := by decide +kernel
theorem dX9_colour_2 : decode cX9_colour 2 = .ok (.invokevirtual 112, 3) := by decide +kernel
theorem dX9_colour_5 : decode cX9_colour 5 = .ok (.aload_n 0, 1) := by decide +kernel
theorem dX9_colour_6 : decode cX9_colour 6 = .ok (.getfield 12, 3) := by decide +kernel
theorem dX9_colour_9 : decode cX9_colour 9 = .ok (.getfield 123, 3) := by decide +kernel
theorem dX9_colour_12 : decode cX9_colour 12 = .ok (.iload_n 1, 1) := by decide +kernel
theorem dX9_colour_13 : decode cX9_colour 13 = .ok (.iaload, 1) := by decide +kernel
theorem dX9_colour_14 : decode cX9_colour 14 = .ok (.ireturn, 1) := by decide +kernel
theorem dX9_stains_0 : decode cX9_stains 0 = .ok (.aload_n 0, 1) := by decide +kernel
theorem dX9_stains_1 : decode cX9_stains 1 = .ok (.iload_n 1, 1) := by decide +kernel
theorem dX9_stains_2 : decode cX9_stains 2 = .ok (.invokevirtual 112, 3) := by decide +kernel
theorem dX9_stains_5 : decode cX9_stains 5 = .ok (.aload_n 0, 1) := by decide +kernel
theorem dX9_stains_6 : decode cX9_stains 6 = .ok (.getfield 12, 3) := by decide +kernel
theorem dX9_stains_9 : decode cX9_stains 9 = .ok (.getfield 126, 3) := by decide +kernel
theorem dX9_stains_12 : decode cX9_stains 12 = .ok (.iload_n 1, 1) := by decide +kernel
theorem dX9_stains_13 : decode cX9_stains 13 = .ok (.iaload, 1) := by decide +kernel
theorem dX9_stains_14 : decode cX9_stains 14 = .ok (.ireturn, 1) := by decide +kernel
theorem dX9_stainCount_0 : decode cX9_stainCount 0 = .ok (.aload_n 0, 1) := by decide +kernel
theorem dX9_stainCount_1 : decode cX9_stainCount 1 = .ok (.iload_n 1, 1) := by decide +kernel
theorem dX9_stainCount_2 : decode cX9_stainCount 2 = .ok (.invokevirtual 112, 3) := by decide +kernel
theorem dX9_stainCount_5 : decode cX9_stainCount 5 = .ok (.aload_n 0, 1) := by decide +kernel
theorem dX9_stainCount_6 : decode cX9_stainCount 6 = .ok (.getfield 12, 3) := by decide +kernel
theorem dX9_stainCount_9 : decode cX9_stainCount 9 = .ok (.iload_n 1, 1) := by decide +kernel
theorem dX9_stainCount_10 : decode cX9_stainCount 10 = .ok (.invokevirtual 129, 3) := by decide +kernel
theorem dX9_stainCount_13 : decode cX9_stainCount 13 = .ok (.ireturn, 1) := by decide +kernel
theorem dX9_place_0 : decode cX9_place 0 = .ok (.aload_n 0, 1) := by decide +kernel
theorem dX9_place_1 : decode cX9_place 1 = .ok (.iload_n 1, 1) := by decide +kernel
theorem dX9_place_2 : decode cX9_place 2 = .ok (.invokevirtual 112, 3) := by decide +kernel
theorem dX9_place_5 : decode cX9_place 5 = .ok (.aload_n 0, 1) := by decide +kernel
theorem dX9_place_6 : decode cX9_place 6 = .ok (.getfield 12, 3) := by decide +kernel
theorem dX9_place_9 : decode cX9_place 9 = .ok (.getfield 132, 3) := by decide +kernel
theorem dX9_place_12 : decode cX9_place 12 = .ok (.iload_n 1, 1) := by decide +kernel
theorem dX9_place_13 : decode cX9_place 13 = .ok (.iaload, 1) := by decide +kernel
theorem dX9_place_14 : decode cX9_place 14 = .ok (.invokestatic 135, 3) := by decide +kernel
theorem dX9_place_17 : decode cX9_place 17 = .ok (.ireturn, 1) := by decide +kernel
theorem dX9_washes_0 : decode cX9_washes 0 = .ok (.aload_n 0, 1) := by decide +kernel
theorem dX9_washes_1 : decode cX9_washes 1 = .ok (.iload_n 1, 1) := by decide +kernel
theorem dX9_washes_2 : decode cX9_washes 2 = .ok (.invokevirtual 112, 3) := by decide +kernel
theorem dX9_washes_5 : decode cX9_washes 5 = .ok (.aload_n 0, 1) := by decide +kernel
theorem dX9_washes_6 : decode cX9_washes 6 = .ok (.getfield 12, 3) := by decide +kernel
theorem dX9_washes_9 : decode cX9_washes 9 = .ok (.getfield 139, 3) := by decide +kernel
theorem dX9_washes_12 : decode cX9_washes 12 = .ok (.iload_n 1, 1) := by decide +kernel
theorem dX9_washes_13 : decode cX9_washes 13 = .ok (.iaload, 1) := by decide +kernel
theorem dX9_washes_14 : decode cX9_washes 14 = .ok (.ireturn, 1) := by decide +kernel
theorem dX9_partner_0 : decode cX9_partner 0 = .ok (.aload_n 0, 1) := by decide +kernel
theorem dX9_partner_1 : decode cX9_partner 1 = .ok (.iload_n 1, 1) := by decide +kernel
theorem dX9_partner_2 : decode cX9_partner 2 = .ok (.invokevirtual 112, 3) := by decide +kernel
theorem dX9_partner_5 : decode cX9_partner 5 = .ok (.aload_n 0, 1) := by decide +kernel
theorem dX9_partner_6 : decode cX9_partner 6 = .ok (.getfield 12, 3) := by decide +kernel
theorem dX9_partner_9 : decode cX9_partner 9 = .ok (.getfield 119, 3) := by decide +kernel
theorem dX9_partner_12 : decode cX9_partner 12 = .ok (.iload_n 1, 1) := by decide +kernel
theorem dX9_partner_13 : decode cX9_partner 13 = .ok (.baload, 1) := by decide +kernel
