theorem dX10_isSock_0 : decode cX10_isSock 0 = .ok (.aload_n 0, 1) := by decide +kernel
theorem dX10_isSock_1 : decode cX10_isSock 1 = .ok (.iload_n 1, 1) := by decide +kernel
theorem dX10_isSock_2 : decode cX10_isSock 2 = .ok (.iconst 1, 1) := by decide +kernel
theorem dX10_isSock_3 : decode cX10_isSock 3 = .ok (.invokevirtual 159, 3) := by decide +kernel
theorem dX10_isSock_6 : decode cX10_isSock 6 = .ok (.iconst 1, 1) := by decide +kernel
theorem dX10_isSock_7 : decode cX10_isSock 7 = .ok (.if_icmp .ne 7, 3) := by decide +kernel
theorem dX10_isSock_10 : decode cX10_isSock 10 = .ok (.iconst 1, 1) := by decide +kernel
theorem dX10_isSock_11 : decode cX10_isSock 11 = .ok (.goto 4, 3) := by decide +kernel
theorem dX10_isSock_14 : decode cX10_isSock 14 = .ok (.iconst 0, 1) := by decide +kernel
theorem dX10_isSock_15 : decode cX10_isSock 15 = .ok (.ireturn, 1) := by decide +kernel
theorem dX10_colour_0 : decode cX10_colour 0 = .ok (.aload_n 0, 1) := by decide +kernel
theorem dX10_colour_1 : decode cX10_colour 1 = .ok (.iload_n 1, 1) := by decide +kernel
theorem dX10_colour_2 : decode cX10_colour 2 = .ok (.iconst 2, 1) := by decide +kernel
theorem dX10_colour_3 : decode cX10_colour 3 = .ok (.invokevirtual 159, 3) := by decide +kernel
theorem dX10_colour_6 : decode cX10_colour 6 = .ok (.ireturn, 1) := by decide +kernel
theorem dX10_stains_0 : decode cX10_stains 0 = .ok (.aload_n 0, 1) := by decide +kernel
theorem dX10_stains_1 : decode cX10_stains 1 = .ok (.iload_n 1, 1) := by decide +kernel
theorem dX10_stains_2 : decode cX10_stains 2 = .ok (.iconst 3, 1) := by decide +kernel
theorem dX10_stains_3 : decode cX10_stains 3 = .ok (.invokevirtual 159, 3) := by decide +kernel
theorem dX10_stains_6 : decode cX10_stains 6 = .ok (.ireturn, 1) := by decide +kernel
theorem dX10_stainCount_0 : decode cX10_stainCount 0 = .ok (.aload_n 0, 1) := by decide +kernel
theorem dX10_stainCount_1 : decode cX10_stainCount 1 = .ok (.iload_n 1, 1) := by decide +kernel
theorem dX10_stainCount_2 : decode cX10_stainCount 2 = .ok (.iconst 3, 1) := by decide +kernel
theorem dX10_stainCount_3 : decode cX10_stainCount 3 = .ok (.invokevirtual 159, 3) := by decide +kernel
theorem dX10_stainCount_6 : decode cX10_stainCount 6 = .ok (.invokestatic 88, 3) := by decide +kernel
theorem dX10_stainCount_9 : decode cX10_stainCount 9 = .ok (.ireturn, 1) := by decide +kernel
theorem dX10_place_0 : decode cX10_place 0 = .ok (.aload_n 0, 1) := by decide +kernel
theorem dX10_place_1 : decode cX10_place 1 = .ok (.aload_n 0, 1) := by decide +kernel
theorem dX10_place_2 : decode cX10_place 2 = .ok (.iload_n 1, 1) := by decide +kernel
theorem dX10_place_3 : decode cX10_place 3 = .ok (.invokevirtual 120, 3) := by decide +kernel
theorem dX10_place_6 : decode cX10_place 6 = .ok (.ifCond .eq 7, 3) := by decide +kernel
theorem dX10_place_9 : decode cX10_place 9 = .ok (.iconst 0, 1) := by decide +kernel
theorem dX10_place_10 : decode cX10_place 10 = .ok (.goto 4, 3) := by decide +kernel
theorem dX10_place_13 : decode cX10_place 13 = .ok (.iconst 1, 1) := by decide +kernel
theorem dX10_place_14 : decode cX10_place 14 = .ok (.putfield 41, 3) := by decide +kernel
theorem dX10_place_17 : decode cX10_place 17 = .ok (.aload_n 0, 1) := by decide +kernel
theorem dX10_place_18 : decode cX10_place 18 = .ok (.getfield 41, 3) := by decide +kernel
theorem dX10_place_21 : decode cX10_place 21 = .ok (.ifCond .le 7, 3) := by decide +kernel
theorem dX10_place_24 : decode cX10_place 24 = .ok (.iconst 0, 1) := by decide +kernel
theorem dX10_place_25 : decode cX10_place 25 = .ok (.goto 14, 3) := by decide +kernel
theorem dX10_place_28 : decode cX10_place 28 = .ok (.ldc 162, 2) := by decide +kernel
theorem dX10_place_30 : decode cX10_place 30 = .ok (.aload_n 0, 1) := by decide +kernel
theorem dX10_place_31 : decode cX10_place 31 = .ok (.iload_n 1, 1) := by decide +kernel
theorem dX10_place_32 : decode cX10_place 32 = .ok (.iconst 4, 1) := by decide +kernel
theorem dX10_place_33 : decode cX10_place 33 = .ok (.invokevirtual 61, 3) := by decide +kernel
theorem dX10_place_36 : decode cX10_place 36 = .ok (.invokevirtual 164, 3) := by decide +kernel
theorem dX10_place_39 : decode cX10_place 39 = .ok (.ireturn, 1) := by decide +kernel
theorem dX10_washes_0 : decode cX10_washes 0 = .ok (.aload_n 0, 1) := by decide +kernel
theorem dX10_washes_1 : decode cX10_washes 1 = .ok (.iload_n 1, 1) := by decide +kernel
theorem dX10_washes_2 : decode cX10_washes 2 = .ok (.iconst 5, 1) := by decide +kernel
theorem dX10_washes_3 : decode cX10_washes 3 = .ok (.invokevirtual 159, 3) := by decide +kernel
theorem dX10_washes_6 : decode cX10_washes 6 = .ok (.ireturn, 1) := by decide +kernel
theorem dX10_isSockIn_0 : decode cX10_isSockIn 0 = .ok (.aload_n 0, 1) := by decide +kernel
theorem dX10_isSockIn_1 : decode cX10_isSockIn 1 = .ok (.iload_n 1, 1) := by decide +kernel
theorem dX10_isSockIn_2 : decode cX10_isSockIn 2 = .ok (.iconst 1, 1) := by decide +kernel
theorem dX10_isSockIn_3 : decode cX10_isSockIn 3 = .ok (.invokevirtual 61, 3) := by decide +kernel
theorem dX10_isSockIn_6 : decode cX10_isSockIn 6 = .ok (.iconst 1, 1) := by decide +kernel
theorem dX10_isSockIn_7 : decode cX10_isSockIn 7 = .ok (.if_icmp .ne 36, 3) := by decide +kernel
theorem dX10_isSockIn_10 : decode cX10_isSockIn 10 = .ok (.aload_n 0, 1) := by decide +kernel
theorem dX10_isSockIn_11 : decode cX10_isSockIn 11 = .ok (.iload_n 1, 1) := by decide +kernel
theorem dX10_isSockIn_12 : decode cX10_isSockIn 12 = .ok (.iconst 4, 1) := by decide +kernel
theorem dX10_isSockIn_13 : decode cX10_isSockIn 13 = .ok (.invokevirtual 61, 3) := by decide +kernel
theorem dX10_isSockIn_16 : decode cX10_isSockIn 16 = .ok (.ifCond .ne 27, 3) := by decide +kernel
theorem dX10_isSockIn_19 : decode cX10_isSockIn 19 = .ok (.aload_n 0, 1) := by decide +kernel
theorem dX10_isSockIn_20 : decode cX10_isSockIn 20 = .ok (.iload_n 1, 1) := by decide +kernel
theorem dX10_isSockIn_21 : decode cX10_isSockIn 21 = .ok (.iconst 0, 1) := by decide +kernel
theorem dX10_isSockIn_22 : decode cX10_isSockIn 22 = .ok (.invokevirtual 61, 3) := by decide +kernel
theorem dX10_isSockIn_25 : decode cX10_isSockIn 25 = .ok (.iload_n 2, 1) := by decide +kernel
theorem dX10_isSockIn_26 : decode cX10_isSockIn 26 = .ok (.if_icmp .ne 17, 3) := by decide +kernel
theorem dX10_isSockIn_29 : decode cX10_isSockIn 29 = .ok (.aload_n 0, 1) := by decide +kernel
theorem dX10_isSockIn_30 : decode cX10_isSockIn 30 = .ok (.iload_n 1, 1) := by decide +kernel
theorem dX10_isSockIn_31 : decode cX10_isSockIn 31 = .ok (.iconst 2, 1) := by decide +kernel
theorem dX10_isSockIn_32 : decode cX10_isSockIn 32 = .ok (.invokevirtual 61, 3) := by decide +kernel
theorem dX10_isSockIn_35 : decode cX10_isSockIn 35 = .ok (.iload_n 3, 1) := by decide +kernel
theorem dX10_isSockIn_36 : decode cX10_isSockIn 36 = .ok (.if_icmp .ne 7, 3) := by decide +kernel
theorem dX10_isSockIn_39 : decode cX10_isSockIn 39 = .ok (.iconst 1, 1) := by decide +kernel
theorem dX10_isSockIn_40 : decode cX10_isSockIn 40 = .ok (.goto 4, 3) := by decide +kernel
theorem dX10_isSockIn_43 : decode cX10_isSockIn 43 = .ok (.iconst 0, 1) := by decide +kernel
theorem dX10_isSockIn_44 : decode cX10_isSockIn 44 = .ok (.ireturn, 1) := by decide +kernel
theorem dX10_other_0 : decode cX10_other 0 = .ok (.aload_n 0, 1) := by decide +kernel
theorem dX10_other_1 : decode cX10_other 1 = .ok (.iload_n 1, 1) := by decide +kernel
theorem dX10_other_2 : decode cX10_other 2 = .ok (.iconst 4, 1) := by decide +kernel
theorem dX10_other_3 : decode cX10_other 3 = .ok (.invokevirtual 61, 3) := by decide +kernel
theorem dX10_other_6 : decode cX10_other 6 = .ok (.ifCond .eq 5, 3) := by decide +kernel
theorem dX10_other_9 : decode cX10_other 9 = .ok (.iconst (-1), 1) := by decide +kernel
theorem dX10_other_10 : decode cX10_other 10 = .ok (.ireturn, 1) := by decide +kernel
theorem dX10_other_11 : decode cX10_other 11 = .ok (.iconst (-1), 1) := by decide +kernel
theorem dX10_other_12 : decode cX10_other 12 = .ok (.istore_n 2, 1) := by decide +kernel
theorem dX10_other_13 : decode cX10_other 13 = .ok (.iconst 0, 1) := by decide +kernel
theorem dX10_other_14 : decode cX10_other 14 = .ok (.istore_n 3, 1) := by decide +kernel
theorem dX10_other_15 : decode cX10_other 15 = .ok (.iload_n 3, 1) := by decide +kernel
theorem dX10_other_16 : decode cX10_other 16 = .ok (.aload_n 0, 1) := by decide +kernel
theorem dX10_other_17 : decode cX10_other 17 = .ok (.getfield 7, 3) := by decide +kernel
theorem dX10_other_20 : decode cX10_other 20 = .ok (.iconst 0, 1) := by decide +kernel
theorem dX10_other_21 : decode cX10_other 21 = .ok (.iaload, 1) := by decide +kernel
theorem dX10_other_22 : decode cX10_other 22 = .ok (.if_icmp .ge 58, 3) := by decide +kernel
theorem dX10_other_25 : decode cX10_other 25 = .ok (.aload_n 0, 1) := by decide +kernel
theorem dX10_other_26 : decode cX10_other 26 = .ok (.iload_n 3, 1) := by decide +kernel
theorem dX10_other_27 : decode cX10_other 27 = .ok (.aload_n 0, 1) := by decide +kernel
theorem dX10_other_28 : decode cX10_other 28 = .ok (.iload_n 1, 1) := by decide +kernel
theorem dX10_other_29 : decode cX10_other 29 = .ok (.iconst 0, 1) := by decide +kernel
theorem dX10_other_30 : decode cX10_other 30 = .ok (.invokevirtual 61, 3) := by decide +kernel
theorem dX10_other_33 : decode cX10_other 33 = .ok (.aload_n 0, 1) := by decide +kernel
theorem dX10_other_34 : decode cX10_other 34 = .ok (.iload_n 1, 1) := by decide +kernel
theorem dX10_other_35 : decode cX10_other 35 = .ok (.iconst 2, 1) := by decide +kernel
theorem dX10_other_36 : decode cX10_other 36 = .ok (.invokevirtual 61, 3) := by decide +kernel
theorem dX10_other_39 : decode cX10_other 39 = .ok (.invokevirtual 170, 3) := by decide +kernel
theorem dX10_other_42 : decode cX10_other 42 = .ok (.ifCond .ne 6, 3) := by decide +kernel
theorem dX10_other_45 : decode cX10_other 45 = .ok (.goto 29, 3) := by decide +kernel
theorem dX10_other_48 : decode cX10_other 48 = .ok (.iload_n 2, 1) := by decide +kernel
theorem dX10_other_49 : decode cX10_other 49 = .ok (.iconst (-1), 1) := by decide +kernel
theorem dX10_other_50 : decode cX10_other 50 = .ok (.if_icmp .ne 8, 3) := by decide +kernel
theorem dX10_other_53 : decode cX10_other 53 = .ok (.iload_n 3, 1) := by decide +kernel
theorem dX10_other_54 : decode cX10_other 54 = .ok (.istore_n 2, 1) := by decide +kernel
theorem dX10_other_55 : decode cX10_other 55 = .ok (.goto 19, 3) := by decide +kernel
theorem dX10_other_58 : decode cX10_other 58 = .ok (.iload_n 2, 1) := by decide +kernel
theorem dX10_other_59 : decode cX10_other 59 = .ok (.iload_n 1, 1) := by decide +kernel
theorem dX10_other_60 : decode cX10_other 60 = .ok (.if_icmp .ne 5, 3) := by decide +kernel
theorem dX10_other_63 : decode cX10_other 63 = .ok (.iload_n 3, 1) := by decide +kernel
theorem dX10_other_64 : decode cX10_other 64 = .ok (.ireturn, 1) := by decide +kernel
theorem dX10_other_65 : decode cX10_other 65 = .ok (.iload_n 3, 1) := by decide +kernel
theorem dX10_other_66 : decode cX10_other 66 = .ok (.iload_n 1, 1) := by decide +kernel
theorem dX10_other_67 : decode cX10_other 67 = .ok (.if_icmp .ne 5, 3) := by decide +kernel
theorem dX10_other_70 : decode cX10_other 70 = .ok (.iload_n 2, 1) := by decide +kernel
theorem dX10_other_71 : decode cX10_other 71 = .ok (.ireturn, 1) := by decide +kernel
theorem dX10_other_72 : decode cX10_other 72 = .ok (.iconst (-1), 1) := by decide +kernel
theorem dX10_other_73 : decode cX10_other 73 = .ok (.istore_n 2, 1) := by decide +kernel
theorem dX10_other_74 : decode cX10_other 74 = .ok (.iinc 3 1, 3) := by decide +kernel
theorem dX10_other_77 : decode cX10_other 77 = .ok (.goto (-62), 3) := by decide +kernel
theorem dX10_other_80 : decode cX10_other 80 = .ok (.iconst (-1), 1) := by decide +kernel
theorem dX10_other_81 : decode cX10_other 81 = .ok (.ireturn, 1) := by decide +kernel
theorem dX10_partner_0 : decode cX10_partner 0 = .ok (.aload_n 0, 1) := by decide +kernel
theorem dX10_partner_1 : decode cX10_partner 1 = .ok (.aload_n 0, 1) := by decide +kernel
theorem dX10_partner_2 : decode cX10_partner 2 = .ok (.iload_n 1, 1) := by decide +kernel
theorem dX10_partner_3 : decode cX10_partner 3 = .ok (.invokevirtual 120, 3) := by decide +kernel
theorem dX10_partner_6 : decode cX10_partner 6 = .ok (.ifCond .ne 7, 3) := by decide +kernel
theorem dX10_partner_9 : decode cX10_partner 9 = .ok (.iconst 1, 1) := by decide +kernel
theorem dX10_partner_10 : decode cX10_partner 10 = .ok (.goto 30, 3) := by decide +kernel
theorem dX10_partner_13 : decode cX10_partner 13 = .ok (.aload_n 0, 1) := by decide +kernel
theorem dX10_partner_14 : decode cX10_partner 14 = .ok (.iload_n 1, 1) := by decide +kernel
theorem dX10_partner_15 : decode cX10_partner 15 = .ok (.iconst 1, 1) := by decide +kernel
theorem dX10_partner_16 : decode cX10_partner 16 = .ok (.invokevirtual 61, 3) := by decide +kernel
theorem dX10_partner_19 : decode cX10_partner 19 = .ok (.ifCond .ne 7, 3) := by decide +kernel
theorem dX10_partner_22 : decode cX10_partner 22 = .ok (.iconst 2, 1) := by decide +kernel
theorem dX10_partner_23 : decode cX10_partner 23 = .ok (.goto 17, 3) := by decide +kernel
theorem dX10_partner_26 : decode cX10_partner 26 = .ok (.aload_n 0, 1) := by decide +kernel
theorem dX10_partner_27 : decode cX10_partner 27 = .ok (.iload_n 1, 1) := by decide +kernel
theorem dX10_partner_28 : decode cX10_partner 28 = .ok (.invokevirtual 173, 3) := by decide +kernel
theorem dX10_partner_31 : decode cX10_partner 31 = .ok (.iconst (-1), 1) := by decide +kernel
theorem dX10_partner_32 : decode cX10_partner 32 = .ok (.if_icmp .ne 7, 3) := by decide +kernel
theorem dX10_partner_35 : decode cX10_partner 35 = .ok (.iconst 3, 1) := by decide +kernel
theorem dX10_partner_36 : decode cX10_partner 36 = .ok (.goto 4, 3) := by decide +kernel
theorem dX10_partner_39 : decode cX10_partner 39 = .ok (.iconst 0, 1) := by decide +kernel
theorem dX10_partner_40 : decode cX10_partner 40 = .ok (.putfield 41, 3) := by decide +kernel
theorem dX10_partner_43 : decode cX10_partner 43 = .ok (.aload_n 0, 1) := by decide +kernel
theorem dX10_partner_44 : decode cX10_partner 44 = .ok (.getfield 41, 3) := by decide +kernel
theorem dX10_partner_47 : decode cX10_partner 47 = .ok (.ifCond .le 7, 3) := by decide +kernel
theorem dX10_partner_50 : decode cX10_partner 50 = .ok (.iconst 0, 1) := by decide +kernel
theorem dX10_partner_51 : decode cX10_partner 51 = .ok (.goto 8, 3) := by decide +kernel
theorem dX10_partner_54 : decode cX10_partner 54 = .ok (.aload_n 0, 1) := by decide +kernel
theorem dX10_partner_55 : decode cX10_partner 55 = .ok (.iload_n 1, 1) := by decide +kernel
theorem dX10_partner_56 : decode cX10_partner 56 = .ok (.invokevirtual 173, 3) := by decide +kernel
theorem dX10_partner_59 : decode cX10_partner 59 = .ok (.ireturn, 1) := by decide +kernel
theorem dX10_pairCount_0 : decode cX10_pairCount 0 = .ok (.aload_n 0, 1) := by decide +kernel
theorem dX10_pairCount_1 : decode cX10_pairCount 1 = .ok (.iload_n 1, 1) := by decide +kernel
theorem dX10_pairCount_2 : decode cX10_pairCount 2 = .ok (.invokestatic 109, 3) := by decide +kernel
theorem dX10_pairCount_5 : decode cX10_pairCount 5 = .ok (.ifCond .eq 7, 3) := by decide +kernel
theorem dX10_pairCount_8 : decode cX10_pairCount 8 = .ok (.iconst 0, 1) := by decide +kernel
theorem dX10_pairCount_9 : decode cX10_pairCount 9 = .ok (.goto 4, 3) := by decide +kernel
theorem dX10_pairCount_12 : decode cX10_pairCount 12 = .ok (.iconst 1, 1) := by decide +kernel
theorem dX10_pairCount_13 : decode cX10_pairCount 13 = .ok (.putfield 41, 3) := by decide +kernel
theorem dX10_pairCount_16 : decode cX10_pairCount 16 = .ok (.aload_n 0, 1) := by decide +kernel
theorem dX10_pairCount_17 : decode cX10_pairCount 17 = .ok (.getfield 41, 3) := by decide +kernel
theorem dX10_pairCount_20 : decode cX10_pairCount 20 = .ok (.ifCond .le 5, 3) := by decide +kernel
theorem dX10_pairCount_23 : decode cX10_pairCount 23 = .ok (.iconst 0, 1) := by decide +kernel
theorem dX10_pairCount_24 : decode cX10_pairCount 24 = .ok (.ireturn, 1) := by decide +kernel
theorem dX10_pairCount_25 : decode cX10_pairCount 25 = .ok (.iconst 0, 1) := by decide +kernel
theorem dX10_pairCount_26 : decode cX10_pairCount 26 = .ok (.istore_n 2, 1) := by decide +kernel
theorem dX10_pairCount_27 : decode cX10_pairCount 27 = .ok (.iconst 0, 1) := by decide +kernel
theorem dX10_pairCount_28 : decode cX10_pairCount 28 = .ok (.istore_n 3, 1) := by decide +kernel
theorem dX10_pairCount_29 : decode cX10_pairCount 29 = .ok (.iload_n 3, 1) := by decide +kernel
theorem dX10_pairCount_30 : decode cX10_pairCount 30 = .ok (.bipush 8, 2) := by decide +kernel
theorem dX10_pairCount_32 : decode cX10_pairCount 32 = .ok (.if_icmp .ge 60, 3) := by decide +kernel
theorem dX10_pairCount_35 : decode cX10_pairCount 35 = .ok (.iconst 0, 1) := by decide +kernel
theorem dX10_pairCount_36 : decode cX10_pairCount 36 = .ok (.istore 4, 2) := by decide +kernel
theorem dX10_pairCount_38 : decode cX10_pairCount 38 = .ok (.iconst 0, 1) := by decide +kernel
theorem dX10_pairCount_39 : decode cX10_pairCount 39 = .ok (.istore 5, 2) := by decide +kernel
theorem dX10_pairCount_41 : decode cX10_pairCount 41 = .ok (.iload 5, 2) := by decide +kernel
theorem dX10_pairCount_43 : decode cX10_pairCount 43 = .ok (.aload_n 0, 1) := by decide +kernel
theorem dX10_pairCount_44 : decode cX10_pairCount 44 = .ok (.getfield 7, 3) := by decide +kernel
theorem dX10_pairCount_47 : decode cX10_pairCount 47 = .ok (.iconst 0, 1) := by decide +kernel
theorem dX10_pairCount_48 : decode cX10_pairCount 48 = .ok (.iaload, 1) := by decide +kernel
theorem dX10_pairCount_49 : decode cX10_pairCount 49 = .ok (.if_icmp .ge 30, 3) := by decide +kernel
theorem dX10_pairCount_52 : decode cX10_pairCount 52 = .ok (.iload 4, 2) := by decide +kernel
theorem dX10_pairCount_54 : decode cX10_pairCount 54 = .ok (.aload_n 0, 1) := by decide +kernel
theorem dX10_pairCount_55 : decode cX10_pairCount 55 = .ok (.iload 5, 2) := by decide +kernel
theorem dX10_pairCount_57 : decode cX10_pairCount 57 = .ok (.iload_n 1, 1) := by decide +kernel
theorem dX10_pairCount_58 : decode cX10_pairCount 58 = .ok (.iload_n 3, 1) := by decide +kernel
theorem dX10_pairCount_59 : decode cX10_pairCount 59 = .ok (.invokevirtual 170, 3) := by decide +kernel
theorem dX10_pairCount_62 : decode cX10_pairCount 62 = .ok (.ifCond .eq 7, 3) := by decide +kernel
theorem dX10_pairCount_65 : decode cX10_pairCount 65 = .ok (.iconst 1, 1) := by decide +kernel
theorem dX10_pairCount_66 : decode cX10_pairCount 66 = .ok (.goto 4, 3) := by decide +kernel
theorem dX10_pairCount_69 : decode cX10_pairCount 69 = .ok (.iconst 0, 1) := by decide +kernel
theorem dX10_pairCount_70 : decode cX10_pairCount 70 = .ok (.iadd, 1) := by decide +kernel
theorem dX10_pairCount_71 : decode cX10_pairCount 71 = .ok (.istore 4, 2) := by decide +kernel
theorem dX10_pairCount_73 : decode cX10_pairCount 73 = .ok (.iinc 5 1, 3) := by decide +kernel
theorem dX10_pairCount_76 : decode cX10_pairCount 76 = .ok (.goto (-35), 3) := by decide +kernel
theorem dX10_pairCount_79 : decode cX10_pairCount 79 = .ok (.iload_n 2, 1) := by decide +kernel
theorem dX10_pairCount_80 : decode cX10_pairCount 80 = .ok (.iload 4, 2) := by decide +kernel
theorem dX10_pairCount_82 : decode cX10_pairCount 82 = .ok (.iconst 2, 1) := by decide +kernel
theorem dX10_pairCount_83 : decode cX10_pairCount 83 = .ok (.idiv, 1) := by decide +kernel
theorem dX10_pairCount_84 : decode cX10_pairCount 84 = .ok (.iadd, 1) := by decide +kernel
theorem dX10_pairCount_85 : decode cX10_pairCount 85 = .ok (.istore_n 2, 1) := by decide +kernel
theorem dX10_pairCount_86 : decode cX10_pairCount 86 = .ok (.iinc 3 1, 3) := by decide +kernel
theorem dX10_pairCount_89 : decode cX10_pairCount 89 = .ok (.goto (-60), 3) := by decide +kernel
theorem dX10_pairCount_92 : decode cX10_pairCount 92 = .ok (.iload_n 2, 1) := by decide +kernel
theorem dX10_pairCount_93 : decode cX10_pairCount 93 = .ok (.ireturn, 1) := by decide +kernel
theorem dX10_pairCountByParity_0 : decode cX10_pairCountByParity 0 = .ok (.aload_n 0, 1) := by decide +kernel
theorem dX10_pairCountByParity_1 : decode cX10_pairCountByParity 1 = .ok (.iload_n 1, 1) := by decide +kernel
theorem dX10_pairCountByParity_2 : decode cX10_pairCountByParity 2 = .ok (.invokevirtual 176, 3) := by decide +kernel
theorem dX10_pairCountByParity_5 : decode cX10_pairCountByParity 5 = .ok (.ireturn, 1) := by decide +kernel
theorem dX10_inBag_0 : decode cX10_inBag 0 = .ok (.aload_n 0, 1) := by decide +kernel
theorem dX10_inBag_1 : decode cX10_inBag 1 = .ok (.iload_n 1, 1) := by decide +kernel
theorem dX10_inBag_2 : decode cX10_inBag 2 = .ok (.invokestatic 109, 3) := by decide +kernel
theorem dX10_inBag_5 : decode cX10_inBag 5 = .ok (.ifCond .eq 7, 3) := by decide +kernel
theorem dX10_inBag_8 : decode cX10_inBag 8 = .ok (.iconst 0, 1) := by decide +kernel
theorem dX10_inBag_9 : decode cX10_inBag 9 = .ok (.goto 4, 3) := by decide +kernel
theorem dX10_inBag_12 : decode cX10_inBag 12 = .ok (.iconst 1, 1) := by decide +kernel
theorem dX10_inBag_13 : decode cX10_inBag 13 = .ok (.putfield 41, 3) := by decide +kernel
theorem dX10_inBag_16 : decode cX10_inBag 16 = .ok (.iconst 0, 1) := by decide +kernel
theorem dX10_inBag_17 : decode cX10_inBag 17 = .ok (.istore_n 2, 1) := by decide +kernel
theorem dX10_inBag_18 : decode cX10_inBag 18 = .ok (.iconst 0, 1) := by decide +kernel
theorem dX10_inBag_19 : decode cX10_inBag 19 = .ok (.istore_n 3, 1) := by decide +kernel
theorem dX10_inBag_20 : decode cX10_inBag 20 = .ok (.iload_n 3, 1) := by decide +kernel
theorem dX10_inBag_21 : decode cX10_inBag 21 = .ok (.aload_n 0, 1) := by decide +kernel
theorem dX10_inBag_22 : decode cX10_inBag 22 = .ok (.getfield 7, 3) := by decide +kernel
theorem dX10_inBag_25 : decode cX10_inBag 25 = .ok (.iconst 0, 1) := by decide +kernel
theorem dX10_inBag_26 : decode cX10_inBag 26 = .ok (.iaload, 1) := by decide +kernel
theorem dX10_inBag_27 : decode cX10_inBag 27 = .ok (.if_icmp .ge 45, 3) := by decide +kernel
theorem dX10_inBag_30 : decode cX10_inBag 30 = .ok (.aload_n 0, 1) := by decide +kernel
theorem dX10_inBag_31 : decode cX10_inBag 31 = .ok (.getfield 41, 3) := by decide +kernel
theorem dX10_inBag_34 : decode cX10_inBag 34 = .ok (.ifCond .ne 38, 3) := by decide +kernel
theorem dX10_inBag_37 : decode cX10_inBag 37 = .ok (.iload_n 2, 1) := by decide +kernel
theorem dX10_inBag_38 : decode cX10_inBag 38 = .ok (.aload_n 0, 1) := by decide +kernel
theorem dX10_inBag_39 : decode cX10_inBag 39 = .ok (.iload_n 3, 1) := by decide +kernel
theorem dX10_inBag_40 : decode cX10_inBag 40 = .ok (.iconst 4, 1) := by decide +kernel
theorem dX10_inBag_41 : decode cX10_inBag 41 = .ok (.invokevirtual 61, 3) := by decide +kernel
theorem dX10_inBag_44 : decode cX10_inBag 44 = .ok (.ifCond .ne 19, 3) := by decide +kernel
theorem dX10_inBag_47 : decode cX10_inBag 47 = .ok (.aload_n 0, 1) := by decide +kernel
theorem dX10_inBag_48 : decode cX10_inBag 48 = .ok (.iload_n 3, 1) := by decide +kernel
theorem dX10_inBag_49 : decode cX10_inBag 49 = .ok (.iconst 0, 1) := by decide +kernel
theorem dX10_inBag_50 : decode cX10_inBag 50 = .ok (.invokevirtual 61, 3) := by decide +kernel
theorem dX10_inBag_53 : decode cX10_inBag 53 = .ok (.iload_n 1, 1) := by decide +kernel
theorem dX10_inBag_54 : decode cX10_inBag 54 = .ok (.if_icmp .ne 9, 3) := by decide +kernel
theorem dX10_inBag_57 : decode cX10_inBag 57 = .ok (.iconst 1, 1) := by decide +kernel
theorem dX10_inBag_58 : decode cX10_inBag 58 = .ok (.iload_n 3, 1) := by decide +kernel
theorem dX10_inBag_59 : decode cX10_inBag 59 = .ok (.ishl, 1) := by decide +kernel
theorem dX10_inBag_60 : decode cX10_inBag 60 = .ok (.goto 4, 3) := by decide +kernel
theorem dX10_inBag_63 : decode cX10_inBag 63 = .ok (.iconst 0, 1) := by decide +kernel
theorem dX10_inBag_64 : decode cX10_inBag 64 = .ok (.ior, 1) := by decide +kernel
theorem dX10_inBag_65 : decode cX10_inBag 65 = .ok (.istore_n 2, 1) := by decide +kernel
theorem dX10_inBag_66 : decode cX10_inBag 66 = .ok (.iinc 3 1, 3) := by decide +kernel
theorem dX10_inBag_69 : decode cX10_inBag 69 = .ok (.goto (-49), 3) := by decide +kernel
theorem dX10_inBag_72 : decode cX10_inBag 72 = .ok (.iload_n 2, 1) := by decide +kernel
theorem dX10_inBag_73 : decode cX10_inBag 73 = .ok (.ireturn, 1) := by decide +kernel
theorem dX10_inMachine_0 : decode cX10_inMachine 0 = .ok (.aload_n 0, 1) := by decide +kernel
theorem dX10_inMachine_1 : decode cX10_inMachine 1 = .ok (.iload_n 1, 1) := by decide +kernel
theorem dX10_inMachine_2 : decode cX10_inMachine 2 = .ok (.invokestatic 123, 3) := by decide +kernel
theorem dX10_inMachine_5 : decode cX10_inMachine 5 = .ok (.ifCond .eq 7, 3) := by decide +kernel
theorem dX10_inMachine_8 : decode cX10_inMachine 8 = .ok (.iconst 0, 1) := by decide +kernel
theorem dX10_inMachine_9 : decode cX10_inMachine 9 = .ok (.goto 4, 3) := by decide +kernel
theorem dX10_inMachine_12 : decode cX10_inMachine 12 = .ok (.iconst 1, 1) := by decide +kernel
theorem dX10_inMachine_13 : decode cX10_inMachine 13 = .ok (.putfield 41, 3) := by decide +kernel
theorem dX10_inMachine_16 : decode cX10_inMachine 16 = .ok (.iconst 0, 1) := by decide +kernel
theorem dX10_inMachine_17 : decode cX10_inMachine 17 = .ok (.istore_n 2, 1) := by decide +kernel
theorem dX10_inMachine_18 : decode cX10_inMachine 18 = .ok (.iconst 0, 1) := by decide +kernel
theorem dX10_inMachine_19 : decode cX10_inMachine 19 = .ok (.istore_n 3, 1) := by decide +kernel
theorem dX10_inMachine_20 : decode cX10_inMachine 20 = .ok (.iload_n 3, 1) := by decide +kernel
theorem dX10_inMachine_21 : decode cX10_inMachine 21 = .ok (.aload_n 0, 1) := by decide +kernel
theorem dX10_inMachine_22 : decode cX10_inMachine 22 = .ok (.getfield 7, 3) := by decide +kernel
theorem dX10_inMachine_25 : decode cX10_inMachine 25 = .ok (.iconst 0, 1) := by decide +kernel
theorem dX10_inMachine_26 : decode cX10_inMachine 26 = .ok (.iaload, 1) := by decide +kernel
theorem dX10_inMachine_27 : decode cX10_inMachine 27 = .ok (.if_icmp .ge 35, 3) := by decide +kernel
theorem dX10_inMachine_30 : decode cX10_inMachine 30 = .ok (.aload_n 0, 1) := by decide +kernel
theorem dX10_inMachine_31 : decode cX10_inMachine 31 = .ok (.getfield 41, 3) := by decide +kernel
theorem dX10_inMachine_34 : decode cX10_inMachine 34 = .ok (.ifCond .ne 28, 3) := by decide +kernel
theorem dX10_inMachine_37 : decode cX10_inMachine 37 = .ok (.iload_n 2, 1) := by decide +kernel
theorem dX10_inMachine_38 : decode cX10_inMachine 38 = .ok (.aload_n 0, 1) := by decide +kernel
theorem dX10_inMachine_39 : decode cX10_inMachine 39 = .ok (.iload_n 3, 1) := by decide +kernel
theorem dX10_inMachine_40 : decode cX10_inMachine 40 = .ok (.iload_n 1, 1) := by decide +kernel
theorem dX10_inMachine_41 : decode cX10_inMachine 41 = .ok (.invokevirtual 65, 3) := by decide +kernel
theorem dX10_inMachine_44 : decode cX10_inMachine 44 = .ok (.ifCond .eq 9, 3) := by decide +kernel
theorem dX10_inMachine_47 : decode cX10_inMachine 47 = .ok (.iconst 1, 1) := by decide +kernel
theorem dX10_inMachine_48 : decode cX10_inMachine 48 = .ok (.iload_n 3, 1) := by decide +kernel
theorem dX10_inMachine_49 : decode cX10_inMachine 49 = .ok (.ishl, 1) := by decide +kernel
theorem dX10_inMachine_50 : decode cX10_inMachine 50 = .ok (.goto 4, 3) := by decide +kernel
theorem dX10_inMachine_53 : decode cX10_inMachine 53 = .ok (.iconst 0, 1) := by decide +kernel
theorem dX10_inMachine_54 : decode cX10_inMachine 54 = .ok (.ior, 1) := by decide +kernel
theorem dX10_inMachine_55 : decode cX10_inMachine 55 = .ok (.istore_n 2, 1) := by decide +kernel
theorem dX10_inMachine_56 : decode cX10_inMachine 56 = .ok (.iinc 3 1, 3) := by decide +kernel
theorem dX10_inMachine_59 : decode cX10_inMachine 59 = .ok (.goto (-39), 3) := by decide +kernel
theorem dX10_inMachine_62 : decode cX10_inMachine 62 = .ok (.iload_n 2, 1) := by decide +kernel
theorem dX10_inMachine_63 : decode cX10_inMachine 63 = .ok (.ireturn, 1) := by decide +kernel
theorem dX10_lost_0 : decode cX10_lost 0 = .ok (.aload_n 0, 1) := by decide +kernel
theorem dX10_lost_1 : decode cX10_lost 1 = .ok (.iconst 0, 1) := by decide +kernel
theorem dX10_lost_2 : decode cX10_lost 2 = .ok (.putfield 41, 3) := by decide +kernel
theorem dX10_lost_5 : decode cX10_lost 5 = .ok (.iconst 0, 1) := by decide +kernel
theorem dX10_lost_6 : decode cX10_lost 6 = .ok (.istore_n 1, 1) := by decide +kernel
theorem dX10_lost_7 : decode cX10_lost 7 = .ok (.iconst 0, 1) := by decide +kernel
theorem dX10_lost_8 : decode cX10_lost 8 = .ok (.istore_n 2, 1) := by decide +kernel
theorem dX10_lost_9 : decode cX10_lost 9 = .ok (.iload_n 2, 1) := by decide +kernel
theorem dX10_lost_10 : decode cX10_lost 10 = .ok (.aload_n 0, 1) := by decide +kernel
theorem dX10_lost_11 : decode cX10_lost 11 = .ok (.getfield 7, 3) := by decide +kernel
theorem dX10_lost_14 : decode cX10_lost 14 = .ok (.iconst 0, 1) := by decide +kernel
theorem dX10_lost_15 : decode cX10_lost 15 = .ok (.iaload, 1) := by decide +kernel
theorem dX10_lost_16 : decode cX10_lost 16 = .ok (.if_icmp .ge 29, 3) := by decide +kernel
theorem dX10_lost_19 : decode cX10_lost 19 = .ok (.iload_n 1, 1) := by decide +kernel
theorem dX10_lost_20 : decode cX10_lost 20 = .ok (.aload_n 0, 1) := by decide +kernel
theorem dX10_lost_21 : decode cX10_lost 21 = .ok (.iload_n 2, 1) := by decide +kernel
theorem dX10_lost_22 : decode cX10_lost 22 = .ok (.iconst 4, 1) := by decide +kernel
theorem dX10_lost_23 : decode cX10_lost 23 = .ok (.invokevirtual 61, 3) := by decide +kernel
theorem dX10_lost_26 : decode cX10_lost 26 = .ok (.iconst 3, 1) := by decide +kernel
theorem dX10_lost_27 : decode cX10_lost 27 = .ok (.if_icmp .ne 9, 3) := by decide +kernel
theorem dX10_lost_30 : decode cX10_lost 30 = .ok (.iconst 1, 1) := by decide +kernel
theorem dX10_lost_31 : decode cX10_lost 31 = .ok (.iload_n 2, 1) := by decide +kernel
theorem dX10_lost_32 : decode cX10_lost 32 = .ok (.ishl, 1) := by decide +kernel
theorem dX10_lost_33 : decode cX10_lost 33 = .ok (.goto 4, 3) := by decide +kernel
theorem dX10_lost_36 : decode cX10_lost 36 = .ok (.iconst 0, 1) := by decide +kernel
theorem dX10_lost_37 : decode cX10_lost 37 = .ok (.ior, 1) := by decide +kernel
theorem dX10_lost_38 : decode cX10_lost 38 = .ok (.istore_n 1, 1) := by decide +kernel
theorem dX10_lost_39 : decode cX10_lost 39 = .ok (.iinc 2 1, 3) := by decide +kernel
theorem dX10_lost_42 : decode cX10_lost 42 = .ok (.goto (-33), 3) := by decide +kernel
theorem dX10_lost_45 : decode cX10_lost 45 = .ok (.iload_n 1, 1) := by decide +kernel
theorem dX10_lost_46 : decode cX10_lost 46 = .ok (.ireturn, 1) := by decide +kernel
theorem dX10_temperature_0 : decode cX10_temperature 0 = .ok (.aload_n 0, 1) := by decide +kernel
theorem dX10_temperature_1 : decode cX10_temperature 1 = .ok (.iload_n 1, 1) := by decide +kernel
theorem dX10_temperature_2 : decode cX10_temperature 2 = .ok (.invokestatic 123, 3) := by decide +kernel
theorem dX10_temperature_5 : decode cX10_temperature 5 = .ok (.ifCond .eq 7, 3) := by decide +kernel
theorem dX10_temperature_8 : decode cX10_temperature 8 = .ok (.iconst 0, 1) := by decide +kernel
theorem dX10_temperature_9 : decode cX10_temperature 9 = .ok (.goto 4, 3) := by decide +kernel
theorem dX10_temperature_12 : decode cX10_temperature 12 = .ok (.iconst 1, 1) := by decide +kernel
theorem dX10_temperature_13 : decode cX10_temperature 13 = .ok (.putfield 41, 3) := by decide +kernel
theorem dX10_temperature_16 : decode cX10_temperature 16 = .ok (.aload_n 0, 1) := by decide +kernel
theorem dX10_temperature_17 : decode cX10_temperature 17 = .ok (.getfield 41, 3) := by decide +kernel
theorem dX10_temperature_20 : decode cX10_temperature 20 = .ok (.ifCond .le 7, 3) := by decide +kernel
theorem dX10_temperature_23 : decode cX10_temperature 23 = .ok (.fconst 0, 1) := by decide +kernel
theorem dX10_temperature_24 : decode cX10_temperature 24 = .ok (.goto 8, 3) := by decide +kernel
theorem dX10_temperature_27 : decode cX10_temperature 27 = .ok (.aload_n 0, 1) := by decide +kernel
theorem dX10_temperature_28 : decode cX10_temperature 28 = .ok (.iload_n 1, 1) := by decide +kernel
theorem dX10_temperature_29 : decode cX10_temperature 29 = .ok (.invokevirtual 99, 3) := by decide +kernel
theorem dX10_temperature_32 : decode cX10_temperature 32 = .ok (.freturn, 1) := by decide +kernel
theorem dX10_temperatureBits_0 : decode cX10_temperatureBits 0 = .ok (.aload_n 0, 1) := by decide +kernel
theorem dX10_temperatureBits_1 : decode cX10_temperatureBits 1 = .ok (.iload_n 1, 1) := by decide +kernel
theorem dX10_temperatureBits_2 : decode cX10_temperatureBits 2 = .ok (.invokestatic 123, 3) := by decide +kernel
theorem dX10_temperatureBits_5 : decode cX10_temperatureBits 5 = .ok (.ifCond .eq 7, 3) := by decide +kernel
theorem dX10_temperatureBits_8 : decode cX10_temperatureBits 8 = .ok (.iconst 0, 1) := by decide +kernel
theorem dX10_temperatureBits_9 : decode cX10_temperatureBits 9 = .ok (.goto 4, 3) := by decide +kernel
theorem dX10_temperatureBits_12 : decode cX10_temperatureBits 12 = .ok (.iconst 1, 1) := by decide +kernel
theorem dX10_temperatureBits_13 : decode cX10_temperatureBits 13 = .ok (.putfield 41, 3) := by decide +kernel
theorem dX10_temperatureBits_16 : decode cX10_temperatureBits 16 = .ok (.aload_n 0, 1) := by decide +kernel
theorem dX10_temperatureBits_17 : decode cX10_temperatureBits 17 = .ok (.getfield 41, 3) := by decide +kernel
theorem dX10_temperatureBits_20 : decode cX10_temperatureBits 20 = .ok (.ifCond .le 7, 3) := by decide +kernel
theorem dX10_temperatureBits_23 : decode cX10_temperatureBits 23 = .ok (.iconst 0, 1) := by decide +kernel
theorem dX10_temperatureBits_24 : decode cX10_temperatureBits 24 = .ok (.goto 11, 3) := by decide +kernel
theorem dX10_temperatureBits_27 : decode cX10_temperatureBits 27 = .ok (.aload_n 0, 1) := by decide +kernel
theorem dX10_temperatureBits_28 : decode cX10_temperatureBits 28 = .ok (.iload_n 1, 1) := by decide +kernel
theorem dX10_temperatureBits_29 : decode cX10_temperatureBits 29 = .ok (.invokevirtual 99, 3) := by decide +kernel
theorem dX10_temperatureBits_32 : decode cX10_temperatureBits 32 = .ok (.invokestatic 133, 3) := by decide +kernel
theorem dX10_temperatureBits_35 : decode cX10_temperatureBits 35 = .ok (.ireturn, 1) := by decide +kernel
theorem dX10_washableStains_0 : decode cX10_washableStains 0 = .ok (.aload_n 0, 1) := by decide +kernel
theorem dX10_washableStains_1 : decode cX10_washableStains 1 = .ok (.iload_n 1, 1) := by decide +kernel
theorem dX10_washableStains_2 : decode cX10_washableStains 2 = .ok (.invokestatic 123, 3) := by decide +kernel
theorem dX10_washableStains_5 : decode cX10_washableStains 5 = .ok (.ifCond .eq 7, 3) := by decide +kernel
theorem dX10_washableStains_8 : decode cX10_washableStains 8 = .ok (.iconst 0, 1) := by decide +kernel
theorem dX10_washableStains_9 : decode cX10_washableStains 9 = .ok (.goto 4, 3) := by decide +kernel
theorem dX10_washableStains_12 : decode cX10_washableStains 12 = .ok (.iconst 1, 1) := by decide +kernel
theorem dX10_washableStains_13 : decode cX10_washableStains 13 = .ok (.putfield 41, 3) := by decide +kernel
theorem dX10_washableStains_16 : decode cX10_washableStains 16 = .ok (.aload_n 0, 1) := by decide +kernel
theorem dX10_washableStains_17 : decode cX10_washableStains 17 = .ok (.getfield 41, 3) := by decide +kernel
theorem dX10_washableStains_20 : decode cX10_washableStains 20 = .ok (.ifCond .le 7, 3) := by decide +kernel
theorem dX10_washableStains_23 : decode cX10_washableStains 23 = .ok (.iconst 0, 1) := by decide +kernel
theorem dX10_washableStains_24 : decode cX10_washableStains 24 = .ok (.goto 14, 3) := by decide +kernel
theorem dX10_washableStains_27 : decode cX10_washableStains 27 = .ok (.aload_n 0, 1) := by decide +kernel
theorem dX10_washableStains_28 : decode cX10_washableStains 28 = .ok (.getfield 7, 3) := by decide +kernel
theorem dX10_washableStains_31 : decode cX10_washableStains 31 = .ok (.iconst 2, 1) := by decide +kernel
theorem dX10_washableStains_32 : decode cX10_washableStains 32 = .ok (.iload_n 1, 1) := by decide +kernel
theorem dX10_washableStains_33 : decode cX10_washableStains 33 = .ok (.iadd, 1) := by decide +kernel
theorem dX10_washableStains_34 : decode cX10_washableStains 34 = .ok (.iaload, 1) := by decide +kernel
theorem dX10_washableStains_35 : decode cX10_washableStains 35 = .ok (.invokestatic 69, 3) := by decide +kernel
theorem dX10_washableStains_38 : decode cX10_washableStains 38 = .ok (.ireturn, 1) := by decide +kernel
theorem dX10_commonStains_0 : decode cX10_commonStains 0 = .ok (.aload_n 0, 1) := by decide +kernel
theorem dX10_commonStains_1 : decode cX10_commonStains 1 = .ok (.iload_n 1, 1) := by decide +kernel
theorem dX10_commonStains_2 : decode cX10_commonStains 2 = .ok (.invokestatic 123, 3) := by decide +kernel
theorem dX10_commonStains_5 : decode cX10_commonStains 5 = .ok (.ifCond .eq 7, 3) := by decide +kernel
theorem dX10_commonStains_8 : decode cX10_commonStains 8 = .ok (.iconst 0, 1) := by decide +kernel
theorem dX10_commonStains_9 : decode cX10_commonStains 9 = .ok (.goto 4, 3) := by decide +kernel
theorem dX10_commonStains_12 : decode cX10_commonStains 12 = .ok (.iconst 1, 1) := by decide +kernel
theorem dX10_commonStains_13 : decode cX10_commonStains 13 = .ok (.putfield 41, 3) := by decide +kernel
theorem dX10_commonStains_16 : decode cX10_commonStains 16 = .ok (.aload_n 0, 1) := by decide +kernel
theorem dX10_commonStains_17 : decode cX10_commonStains 17 = .ok (.getfield 41, 3) := by decide +kernel
theorem dX10_commonStains_20 : decode cX10_commonStains 20 = .ok (.ifCond .le 5, 3) := by decide +kernel
theorem dX10_commonStains_23 : decode cX10_commonStains 23 = .ok (.iconst 0, 1) := by decide +kernel
theorem dX10_commonStains_24 : decode cX10_commonStains 24 = .ok (.ireturn, 1) := by decide +kernel
theorem dX10_commonStains_25 : decode cX10_commonStains 25 = .ok (.sipush 255, 3) := by decide +kernel
theorem dX10_commonStains_28 : decode cX10_commonStains 28 = .ok (.istore_n 2, 1) := by decide +kernel
theorem dX10_commonStains_29 : decode cX10_commonStains 29 = .ok (.iconst 0, 1) := by decide +kernel
theorem dX10_commonStains_30 : decode cX10_commonStains 30 = .ok (.istore_n 3, 1) := by decide +kernel
theorem dX10_commonStains_31 : decode cX10_commonStains 31 = .ok (.iload_n 3, 1) := by decide +kernel
theorem dX10_commonStains_32 : decode cX10_commonStains 32 = .ok (.aload_n 0, 1) := by decide +kernel
theorem dX10_commonStains_33 : decode cX10_commonStains 33 = .ok (.getfield 7, 3) := by decide +kernel
theorem dX10_commonStains_36 : decode cX10_commonStains 36 = .ok (.iconst 0, 1) := by decide +kernel
theorem dX10_commonStains_37 : decode cX10_commonStains 37 = .ok (.iaload, 1) := by decide +kernel
theorem dX10_commonStains_38 : decode cX10_commonStains 38 = .ok (.if_icmp .ge 33, 3) := by decide +kernel
theorem dX10_commonStains_41 : decode cX10_commonStains 41 = .ok (.iload_n 2, 1) := by decide +kernel
theorem dX10_commonStains_42 : decode cX10_commonStains 42 = .ok (.aload_n 0, 1) := by decide +kernel
theorem dX10_commonStains_43 : decode cX10_commonStains 43 = .ok (.iload_n 3, 1) := by decide +kernel
theorem dX10_commonStains_44 : decode cX10_commonStains 44 = .ok (.iload_n 1, 1) := by decide +kernel
theorem dX10_commonStains_45 : decode cX10_commonStains 45 = .ok (.invokevirtual 65, 3) := by decide +kernel
theorem dX10_commonStains_48 : decode cX10_commonStains 48 = .ok (.ifCond .eq 12, 3) := by decide +kernel
theorem dX10_commonStains_51 : decode cX10_commonStains 51 = .ok (.aload_n 0, 1) := by decide +kernel
theorem dX10_commonStains_52 : decode cX10_commonStains 52 = .ok (.iload_n 3, 1) := by decide +kernel
theorem dX10_commonStains_53 : decode cX10_commonStains 53 = .ok (.iconst 3, 1) := by decide +kernel
theorem dX10_commonStains_54 : decode cX10_commonStains 54 = .ok (.invokevirtual 61, 3) := by decide +kernel
theorem dX10_commonStains_57 : decode cX10_commonStains 57 = .ok (.goto 6, 3) := by decide +kernel
theorem dX10_commonStains_60 : decode cX10_commonStains 60 = .ok (.sipush 255, 3) := by decide +kernel
theorem dX10_commonStains_63 : decode cX10_commonStains 63 = .ok (.iand, 1) := by decide +kernel
theorem dX10_commonStains_64 : decode cX10_commonStains 64 = .ok (.istore_n 2, 1) := by decide +kernel
theorem dX10_commonStains_65 : decode cX10_commonStains 65 = .ok (.iinc 3 1, 3) := by decide +kernel
theorem dX10_commonStains_68 : decode cX10_commonStains 68 = .ok (.goto (-37), 3) := by decide +kernel
theorem dX10_commonStains_71 : decode cX10_commonStains 71 = .ok (.iload_n 2, 1) := by decide +kernel
theorem dX10_commonStains_72 : decode cX10_commonStains 72 = .ok (.ireturn, 1) := by decide +kernel
theorem dX10_coloursIn_0 : decode cX10_coloursIn 0 = .ok (.aload_n 0, 1) := by decide +kernel
theorem dX10_coloursIn_1 : decode cX10_coloursIn 1 = .ok (.iload_n 1, 1) := by decide +kernel
theorem dX10_coloursIn_2 : decode cX10_coloursIn 2 = .ok (.invokestatic 123, 3) := by decide +kernel
theorem dX10_coloursIn_5 : decode cX10_coloursIn 5 = .ok (.ifCond .eq 7, 3) := by decide +kernel
theorem dX10_coloursIn_8 : decode cX10_coloursIn 8 = .ok (.iconst 0, 1) := by decide +kernel
theorem dX10_coloursIn_9 : decode cX10_coloursIn 9 = .ok (.goto 4, 3) := by decide +kernel
theorem dX10_coloursIn_12 : decode cX10_coloursIn 12 = .ok (.iconst 1, 1) := by decide +kernel
theorem dX10_coloursIn_13 : decode cX10_coloursIn 13 = .ok (.putfield 41, 3) := by decide +kernel
theorem dX10_coloursIn_16 : decode cX10_coloursIn 16 = .ok (.aload_n 0, 1) := by decide +kernel
theorem dX10_coloursIn_17 : decode cX10_coloursIn 17 = .ok (.getfield 41, 3) := by decide +kernel
theorem dX10_coloursIn_20 : decode cX10_coloursIn 20 = .ok (.ifCond .le 5, 3) := by decide +kernel
theorem dX10_coloursIn_23 : decode cX10_coloursIn 23 = .ok (.iconst 0, 1) := by decide +kernel
theorem dX10_coloursIn_24 : decode cX10_coloursIn 24 = .ok (.ireturn, 1) := by decide +kernel
theorem dX10_coloursIn_25 : decode cX10_coloursIn 25 = .ok (.iconst 0, 1) := by decide +kernel
theorem dX10_coloursIn_26 : decode cX10_coloursIn 26 = .ok (.istore_n 2, 1) := by decide +kernel
theorem dX10_coloursIn_27 : decode cX10_coloursIn 27 = .ok (.iconst 0, 1) := by decide +kernel
theorem dX10_coloursIn_28 : decode cX10_coloursIn 28 = .ok (.istore_n 3, 1) := by decide +kernel
theorem dX10_coloursIn_29 : decode cX10_coloursIn 29 = .ok (.iload_n 3, 1) := by decide +kernel
theorem dX10_coloursIn_30 : decode cX10_coloursIn 30 = .ok (.aload_n 0, 1) := by decide +kernel
theorem dX10_coloursIn_31 : decode cX10_coloursIn 31 = .ok (.getfield 7, 3) := by decide +kernel
theorem dX10_coloursIn_34 : decode cX10_coloursIn 34 = .ok (.iconst 0, 1) := by decide +kernel
theorem dX10_coloursIn_35 : decode cX10_coloursIn 35 = .ok (.iaload, 1) := by decide +kernel
theorem dX10_coloursIn_36 : decode cX10_coloursIn 36 = .ok (.if_icmp .ge 33, 3) := by decide +kernel
theorem dX10_coloursIn_39 : decode cX10_coloursIn 39 = .ok (.iload_n 2, 1) := by decide +kernel
theorem dX10_coloursIn_40 : decode cX10_coloursIn 40 = .ok (.aload_n 0, 1) := by decide +kernel
theorem dX10_coloursIn_41 : decode cX10_coloursIn 41 = .ok (.iload_n 3, 1) := by decide +kernel
theorem dX10_coloursIn_42 : decode cX10_coloursIn 42 = .ok (.iload_n 1, 1) := by decide +kernel
theorem dX10_coloursIn_43 : decode cX10_coloursIn 43 = .ok (.invokevirtual 65, 3) := by decide +kernel
theorem dX10_coloursIn_46 : decode cX10_coloursIn 46 = .ok (.ifCond .eq 14, 3) := by decide +kernel
theorem dX10_coloursIn_49 : decode cX10_coloursIn 49 = .ok (.iconst 1, 1) := by decide +kernel
theorem dX10_coloursIn_50 : decode cX10_coloursIn 50 = .ok (.aload_n 0, 1) := by decide +kernel
theorem dX10_coloursIn_51 : decode cX10_coloursIn 51 = .ok (.iload_n 3, 1) := by decide +kernel
theorem dX10_coloursIn_52 : decode cX10_coloursIn 52 = .ok (.iconst 2, 1) := by decide +kernel
theorem dX10_coloursIn_53 : decode cX10_coloursIn 53 = .ok (.invokevirtual 61, 3) := by decide +kernel
theorem dX10_coloursIn_56 : decode cX10_coloursIn 56 = .ok (.ishl, 1) := by decide +kernel
theorem dX10_coloursIn_57 : decode cX10_coloursIn 57 = .ok (.goto 4, 3) := by decide +kernel
theorem dX10_coloursIn_60 : decode cX10_coloursIn 60 = .ok (.iconst 0, 1) := by decide +kernel
theorem dX10_coloursIn_61 : decode cX10_coloursIn 61 = .ok (.ior, 1) := by decide +kernel
theorem dX10_coloursIn_62 : decode cX10_coloursIn 62 = .ok (.istore_n 2, 1) := by decide +kernel
theorem dX10_coloursIn_63 : decode cX10_coloursIn 63 = .ok (.iinc 3 1, 3) := by decide +kernel
theorem dX10_coloursIn_66 : decode cX10_coloursIn 66 = .ok (.goto (-37), 3) := by decide +kernel
theorem dX10_coloursIn_69 : decode cX10_coloursIn 69 = .ok (.iload_n 2, 1) := by decide +kernel
theorem dX10_coloursIn_70 : decode cX10_coloursIn 70 = .ok (.ireturn, 1) := by decide +kernel
theorem dX10_damage_0 : decode cX10_damage 0 = .ok (.aload_n 0, 1) := by decide +kernel
theorem dX10_damage_1 : decode cX10_damage 1 = .ok (.iload_n 1, 1) := by decide +kernel
theorem dX10_damage_2 : decode cX10_damage 2 = .ok (.invokestatic 123, 3) := by decide +kernel
theorem dX10_damage_5 : decode cX10_damage 5 = .ok (.ifCond .eq 7, 3) := by decide +kernel
theorem dX10_damage_8 : decode cX10_damage 8 = .ok (.iconst 0, 1) := by decide +kernel
theorem dX10_damage_9 : decode cX10_damage 9 = .ok (.goto 4, 3) := by decide +kernel
theorem dX10_damage_12 : decode cX10_damage 12 = .ok (.iconst 1, 1) := by decide +kernel
theorem dX10_damage_13 : decode cX10_damage 13 = .ok (.putfield 41, 3) := by decide +kernel
theorem dX10_damage_16 : decode cX10_damage 16 = .ok (.aload_n 0, 1) := by decide +kernel
theorem dX10_damage_17 : decode cX10_damage 17 = .ok (.getfield 41, 3) := by decide +kernel
theorem dX10_damage_20 : decode cX10_damage 20 = .ok (.ifCond .le 7, 3) := by decide +kernel
theorem dX10_damage_23 : decode cX10_damage 23 = .ok (.iconst 0, 1) := by decide +kernel
theorem dX10_damage_24 : decode cX10_damage 24 = .ok (.goto 16, 3) := by decide +kernel
theorem dX10_damage_27 : decode cX10_damage 27 = .ok (.aload_n 0, 1) := by decide +kernel
theorem dX10_damage_28 : decode cX10_damage 28 = .ok (.iload_n 1, 1) := by decide +kernel
theorem dX10_damage_29 : decode cX10_damage 29 = .ok (.aload_n 0, 1) := by decide +kernel
theorem dX10_damage_30 : decode cX10_damage 30 = .ok (.getfield 7, 3) := by decide +kernel
theorem dX10_damage_33 : decode cX10_damage 33 = .ok (.iconst 2, 1) := by decide +kernel
theorem dX10_damage_34 : decode cX10_damage 34 = .ok (.iload_n 1, 1) := by decide +kernel
theorem dX10_damage_35 : decode cX10_damage 35 = .ok (.iadd, 1) := by decide +kernel
theorem dX10_damage_36 : decode cX10_damage 36 = .ok (.iaload, 1) := by decide +kernel
theorem dX10_damage_37 : decode cX10_damage 37 = .ok (.invokevirtual 179, 3) := by decide +kernel
theorem dX10_damage_40 : decode cX10_damage 40 = .ok (.ireturn, 1) := by decide +kernel
theorem dX10_damageByMasks_0 : decode cX10_damageByMasks 0 = .ok (.aload_n 0, 1) := by decide +kernel
theorem dX10_damageByMasks_1 : decode cX10_damageByMasks 1 = .ok (.iload_n 1, 1) := by decide +kernel
theorem dX10_damageByMasks_2 : decode cX10_damageByMasks 2 = .ok (.invokevirtual 182, 3) := by decide +kernel
theorem dX10_damageByMasks_5 : decode cX10_damageByMasks 5 = .ok (.ireturn, 1) := by decide +kernel
theorem dX10_bestTemperature_0 : decode cX10_bestTemperature 0 = .ok (.aload_n 0, 1) := by decide +kernel
theorem dX10_bestTemperature_1 : decode cX10_bestTemperature 1 = .ok (.iload_n 1, 1) := by decide +kernel
theorem dX10_bestTemperature_2 : decode cX10_bestTemperature 2 = .ok (.invokestatic 123, 3) := by decide +kernel
theorem dX10_bestTemperature_5 : decode cX10_bestTemperature 5 = .ok (.ifCond .ne 7, 3) := by decide +kernel
theorem dX10_bestTemperature_8 : decode cX10_bestTemperature 8 = .ok (.iconst 1, 1) := by decide +kernel
theorem dX10_bestTemperature_9 : decode cX10_bestTemperature 9 = .ok (.goto 16, 3) := by decide +kernel
theorem dX10_bestTemperature_12 : decode cX10_bestTemperature 12 = .ok (.aload_n 0, 1) := by decide +kernel
theorem dX10_bestTemperature_13 : decode cX10_bestTemperature 13 = .ok (.iload_n 1, 1) := by decide +kernel
theorem dX10_bestTemperature_14 : decode cX10_bestTemperature 14 = .ok (.invokevirtual 78, 3) := by decide +kernel
theorem dX10_bestTemperature_17 : decode cX10_bestTemperature 17 = .ok (.ifCond .ne 7, 3) := by decide +kernel
theorem dX10_bestTemperature_20 : decode cX10_bestTemperature 20 = .ok (.iconst 2, 1) := by decide +kernel
theorem dX10_bestTemperature_21 : decode cX10_bestTemperature 21 = .ok (.goto 4, 3) := by decide +kernel
theorem dX10_bestTemperature_24 : decode cX10_bestTemperature 24 = .ok (.iconst 0, 1) := by decide +kernel
theorem dX10_bestTemperature_25 : decode cX10_bestTemperature 25 = .ok (.putfield 41, 3) := by decide +kernel
theorem dX10_bestTemperature_28 : decode cX10_bestTemperature 28 = .ok (.aload_n 0, 1) := by decide +kernel
theorem dX10_bestTemperature_29 : decode cX10_bestTemperature 29 = .ok (.getfield 41, 3) := by decide +kernel
theorem dX10_bestTemperature_32 : decode cX10_bestTemperature 32 = .ok (.ifCond .le 5, 3) := by decide +kernel
theorem dX10_bestTemperature_35 : decode cX10_bestTemperature 35 = .ok (.iconst 0, 1) := by decide +kernel
theorem dX10_bestTemperature_36 : decode cX10_bestTemperature 36 = .ok (.ireturn, 1) := by decide +kernel
theorem dX10_bestTemperature_37 : decode cX10_bestTemperature 37 = .ok (.bipush 40, 2) := by decide +kernel
theorem dX10_bestTemperature_39 : decode cX10_bestTemperature 39 = .ok (.istore_n 2, 1) := by decide +kernel
theorem dX10_bestTemperature_40 : decode cX10_bestTemperature 40 = .ok (.bipush 41, 2) := by decide +kernel
theorem dX10_bestTemperature_42 : decode cX10_bestTemperature 42 = .ok (.istore_n 3, 1) := by decide +kernel
theorem dX10_bestTemperature_43 : decode cX10_bestTemperature 43 = .ok (.iload_n 3, 1) := by decide +kernel
theorem dX10_bestTemperature_44 : decode cX10_bestTemperature 44 = .ok (.sipush 180, 3) := by decide +kernel
theorem dX10_bestTemperature_47 : decode cX10_bestTemperature 47 = .ok (.if_icmp .gt 30, 3) := by decide +kernel
theorem dX10_bestTemperature_50 : decode cX10_bestTemperature 50 = .ok (.aload_n 0, 1) := by decide +kernel
theorem dX10_bestTemperature_51 : decode cX10_bestTemperature 51 = .ok (.iload_n 1, 1) := by decide +kernel
theorem dX10_bestTemperature_52 : decode cX10_bestTemperature 52 = .ok (.iload_n 3, 1) := by decide +kernel
theorem dX10_bestTemperature_53 : decode cX10_bestTemperature 53 = .ok (.invokevirtual 179, 3) := by decide +kernel
theorem dX10_bestTemperature_56 : decode cX10_bestTemperature 56 = .ok (.aload_n 0, 1) := by decide +kernel
theorem dX10_bestTemperature_57 : decode cX10_bestTemperature 57 = .ok (.iload_n 1, 1) := by decide +kernel
theorem dX10_bestTemperature_58 : decode cX10_bestTemperature 58 = .ok (.iload_n 2, 1) := by decide +kernel
theorem dX10_bestTemperature_59 : decode cX10_bestTemperature 59 = .ok (.invokevirtual 179, 3) := by decide +kernel
theorem dX10_bestTemperature_62 : decode cX10_bestTemperature 62 = .ok (.if_icmp .ge 7, 3) := by decide +kernel
theorem dX10_bestTemperature_65 : decode cX10_bestTemperature 65 = .ok (.iload_n 3, 1) := by decide +kernel
theorem dX10_bestTemperature_66 : decode cX10_bestTemperature 66 = .ok (.goto 4, 3) := by decide +kernel
theorem dX10_bestTemperature_69 : decode cX10_bestTemperature 69 = .ok (.iload_n 2, 1) := by decide +kernel
theorem dX10_bestTemperature_70 : decode cX10_bestTemperature 70 = .ok (.istore_n 2, 1) := by decide +kernel
theorem dX10_bestTemperature_71 : decode cX10_bestTemperature 71 = .ok (.iinc 3 1, 3) := by decide +kernel
theorem dX10_bestTemperature_74 : decode cX10_bestTemperature 74 = .ok (.goto (-31), 3) := by decide +kernel
theorem dX10_bestTemperature_77 : decode cX10_bestTemperature 77 = .ok (.iload_n 2, 1) := by decide +kernel
theorem dX10_bestTemperature_78 : decode cX10_bestTemperature 78 = .ok (.ireturn, 1) := by decide +kernel
theorem dX10_price_0 : decode cX10_price 0 = .ok (.aload_n 0, 1) := by decide +kernel
theorem dX10_price_1 : decode cX10_price 1 = .ok (.iload_n 1, 1) := by decide +kernel
theorem dX10_price_2 : decode cX10_price 2 = .ok (.invokestatic 123, 3) := by decide +kernel
theorem dX10_price_5 : decode cX10_price 5 = .ok (.ifCond .eq 14, 3) := by decide +kernel
theorem dX10_price_8 : decode cX10_price 8 = .ok (.iload_n 2, 1) := by decide +kernel
theorem dX10_price_9 : decode cX10_price 9 = .ok (.invokestatic 109, 3) := by decide +kernel
theorem dX10_price_12 : decode cX10_price 12 = .ok (.ifCond .eq 7, 3) := by decide +kernel
theorem dX10_price_15 : decode cX10_price 15 = .ok (.iconst 0, 1) := by decide +kernel
theorem dX10_price_16 : decode cX10_price 16 = .ok (.goto 4, 3) := by decide +kernel
theorem dX10_price_19 : decode cX10_price 19 = .ok (.iconst 1, 1) := by decide +kernel
theorem dX10_price_20 : decode cX10_price 20 = .ok (.putfield 41, 3) := by decide +kernel
theorem dX10_price_23 : decode cX10_price 23 = .ok (.aload_n 0, 1) := by decide +kernel
theorem dX10_price_24 : decode cX10_price 24 = .ok (.getfield 41, 3) := by decide +kernel
theorem dX10_price_27 : decode cX10_price 27 = .ok (.ifCond .le 7, 3) := by decide +kernel
theorem dX10_price_30 : decode cX10_price 30 = .ok (.fconst 0, 1) := by decide +kernel
theorem dX10_price_31 : decode cX10_price 31 = .ok (.goto 9, 3) := by decide +kernel
theorem dX10_price_34 : decode cX10_price 34 = .ok (.aload_n 0, 1) := by decide +kernel
theorem dX10_price_35 : decode cX10_price 35 = .ok (.iload_n 1, 1) := by decide +kernel
theorem dX10_price_36 : decode cX10_price 36 = .ok (.iload_n 2, 1) := by decide +kernel
theorem dX10_price_37 : decode cX10_price 37 = .ok (.invokevirtual 129, 3) := by decide +kernel
theorem dX10_price_40 : decode cX10_price 40 = .ok (.freturn, 1) := by decide +kernel
theorem dX10_paid_0 : decode cX10_paid 0 = .ok (.aload_n 0, 1) := by decide +kernel
theorem dX10_paid_1 : decode cX10_paid 1 = .ok (.iload_n 1, 1) := by decide +kernel
theorem dX10_paid_2 : decode cX10_paid 2 = .ok (.invokestatic 109, 3) := by decide +kernel
theorem dX10_paid_5 : decode cX10_paid 5 = .ok (.ifCond .eq 7, 3) := by decide +kernel
theorem dX10_paid_8 : decode cX10_paid 8 = .ok (.iconst 0, 1) := by decide +kernel
theorem dX10_paid_9 : decode cX10_paid 9 = .ok (.goto 4, 3) := by decide +kernel
theorem dX10_paid_12 : decode cX10_paid 12 = .ok (.iconst 1, 1) := by decide +kernel
theorem dX10_paid_13 : decode cX10_paid 13 = .ok (.putfield 41, 3) := by decide +kernel
theorem dX10_paid_16 : decode cX10_paid 16 = .ok (.aload_n 0, 1) := by decide +kernel
theorem dX10_paid_17 : decode cX10_paid 17 = .ok (.getfield 41, 3) := by decide +kernel
theorem dX10_paid_20 : decode cX10_paid 20 = .ok (.ifCond .le 7, 3) := by decide +kernel
theorem dX10_paid_23 : decode cX10_paid 23 = .ok (.fconst 0, 1) := by decide +kernel
theorem dX10_paid_24 : decode cX10_paid 24 = .ok (.goto 8, 3) := by decide +kernel
theorem dX10_paid_27 : decode cX10_paid 27 = .ok (.aload_n 0, 1) := by decide +kernel
theorem dX10_paid_28 : decode cX10_paid 28 = .ok (.iload_n 1, 1) := by decide +kernel
theorem dX10_paid_29 : decode cX10_paid 29 = .ok (.invokevirtual 126, 3) := by decide +kernel
theorem dX10_paid_32 : decode cX10_paid 32 = .ok (.freturn, 1) := by decide +kernel
theorem dX10_paidBits_0 : decode cX10_paidBits 0 = .ok (.aload_n 0, 1) := by decide +kernel
theorem dX10_paidBits_1 : decode cX10_paidBits 1 = .ok (.iload_n 1, 1) := by decide +kernel
theorem dX10_paidBits_2 : decode cX10_paidBits 2 = .ok (.invokestatic 109, 3) := by decide +kernel
theorem dX10_paidBits_5 : decode cX10_paidBits 5 = .ok (.ifCond .eq 7, 3) := by decide +kernel
theorem dX10_paidBits_8 : decode cX10_paidBits 8 = .ok (.iconst 0, 1) := by decide +kernel
theorem dX10_paidBits_9 : decode cX10_paidBits 9 = .ok (.goto 4, 3) := by decide +kernel
theorem dX10_paidBits_12 : decode cX10_paidBits 12 = .ok (.iconst 1, 1) := by decide +kernel
theorem dX10_paidBits_13 : decode cX10_paidBits 13 = .ok (.putfield 41, 3) := by decide +kernel
theorem dX10_paidBits_16 : decode cX10_paidBits 16 = .ok (.aload_n 0, 1) := by decide +kernel
theorem dX10_paidBits_17 : decode cX10_paidBits 17 = .ok (.getfield 41, 3) := by decide +kernel
theorem dX10_paidBits_20 : decode cX10_paidBits 20 = .ok (.ifCond .le 7, 3) := by decide +kernel
theorem dX10_paidBits_23 : decode cX10_paidBits 23 = .ok (.iconst 0, 1) := by decide +kernel
theorem dX10_paidBits_24 : decode cX10_paidBits 24 = .ok (.goto 12, 3) := by decide +kernel
theorem dX10_paidBits_27 : decode cX10_paidBits 27 = .ok (.aload_n 0, 1) := by decide +kernel
theorem dX10_paidBits_28 : decode cX10_paidBits 28 = .ok (.getfield 7, 3) := by decide +kernel
theorem dX10_paidBits_31 : decode cX10_paidBits 31 = .ok (.bipush 100, 2) := by decide +kernel
theorem dX10_paidBits_33 : decode cX10_paidBits 33 = .ok (.iload_n 1, 1) := by decide +kernel
theorem dX10_paidBits_34 : decode cX10_paidBits 34 = .ok (.iadd, 1) := by decide +kernel
theorem dX10_paidBits_35 : decode cX10_paidBits 35 = .ok (.iaload, 1) := by decide +kernel
theorem dX10_paidBits_36 : decode cX10_paidBits 36 = .ok (.ireturn, 1) := by decide +kernel
theorem dX10_packed_0 : decode cX10_packed 0 = .ok (.aload_n 0, 1) := by decide +kernel
theorem dX10_packed_1 : decode cX10_packed 1 = .ok (.aload_n 0, 1) := by decide +kernel
theorem dX10_packed_2 : decode cX10_packed 2 = .ok (.iload_n 1, 1) := by decide +kernel
theorem dX10_packed_3 : decode cX10_packed 3 = .ok (.invokevirtual 120, 3) := by decide +kernel
theorem dX10_packed_6 : decode cX10_packed 6 = .ok (.ifCond .eq 7, 3) := by decide +kernel
theorem dX10_packed_9 : decode cX10_packed 9 = .ok (.iconst 0, 1) := by decide +kernel
theorem dX10_packed_10 : decode cX10_packed 10 = .ok (.goto 4, 3) := by decide +kernel
theorem dX10_packed_13 : decode cX10_packed 13 = .ok (.iconst 1, 1) := by decide +kernel
theorem dX10_packed_14 : decode cX10_packed 14 = .ok (.putfield 41, 3) := by decide +kernel
theorem dX10_packed_17 : decode cX10_packed 17 = .ok (.aload_n 0, 1) := by decide +kernel
theorem dX10_packed_18 : decode cX10_packed 18 = .ok (.getfield 41, 3) := by decide +kernel
theorem dX10_packed_21 : decode cX10_packed 21 = .ok (.ifCond .le 5, 3) := by decide +kernel
theorem dX10_packed_24 : decode cX10_packed 24 = .ok (.lconst 0, 1) := by decide +kernel
theorem dX10_packed_25 : decode cX10_packed 25 = .ok (.lreturn, 1) := by decide +kernel
theorem dX10_packed_26 : decode cX10_packed 26 = .ok (.aload_n 0, 1) := by decide +kernel
theorem dX10_packed_27 : decode cX10_packed 27 = .ok (.iload_n 1, 1) := by decide +kernel
theorem dX10_packed_28 : decode cX10_packed 28 = .ok (.iconst 3, 1) := by decide +kernel
theorem dX10_packed_29 : decode cX10_packed 29 = .ok (.invokevirtual 61, 3) := by decide +kernel
theorem dX10_packed_32 : decode cX10_packed 32 = .ok (.aload_n 0, 1) := by decide +kernel
theorem dX10_packed_33 : decode cX10_packed 33 = .ok (.iload_n 1, 1) := by decide +kernel
theorem dX10_packed_34 : decode cX10_packed 34 = .ok (.iconst 2, 1) := by decide +kernel
theorem dX10_packed_35 : decode cX10_packed 35 = .ok (.invokevirtual 61, 3) := by decide +kernel
theorem dX10_packed_38 : decode cX10_packed 38 = .ok (.bipush 8, 2) := by decide +kernel
theorem dX10_packed_40 : decode cX10_packed 40 = .ok (.ishl, 1) := by decide +kernel
theorem dX10_packed_41 : decode cX10_packed 41 = .ok (.ior, 1) := by decide +kernel
theorem dX10_packed_42 : decode cX10_packed 42 = .ok (.aload_n 0, 1) := by decide +kernel
theorem dX10_packed_43 : decode cX10_packed 43 = .ok (.iload_n 1, 1) := by decide +kernel
theorem dX10_packed_44 : decode cX10_packed 44 = .ok (.iconst 0, 1) := by decide +kernel
theorem dX10_packed_45 : decode cX10_packed 45 = .ok (.invokevirtual 61, 3) := by decide +kernel
theorem dX10_packed_48 : decode cX10_packed 48 = .ok (.bipush 11, 2) := by decide +kernel
theorem dX10_packed_50 : decode cX10_packed 50 = .ok (.ishl, 1) := by decide +kernel
theorem dX10_packed_51 : decode cX10_packed 51 = .ok (.ior, 1) := by decide +kernel
theorem dX10_packed_52 : decode cX10_packed 52 = .ok (.aload_n 0, 1) := by decide +kernel
theorem dX10_packed_53 : decode cX10_packed 53 = .ok (.iload_n 1, 1) := by decide +kernel
theorem dX10_packed_54 : decode cX10_packed 54 = .ok (.iconst 1, 1) := by decide +kernel
theorem dX10_packed_55 : decode cX10_packed 55 = .ok (.invokevirtual 61, 3) := by decide +kernel
theorem dX10_packed_58 : decode cX10_packed 58 = .ok (.bipush 13, 2) := by decide +kernel
theorem dX10_packed_60 : decode cX10_packed 60 = .ok (.ishl, 1) := by decide +kernel
theorem dX10_packed_61 : decode cX10_packed 61 = .ok (.ior, 1) := by decide +kernel
theorem dX10_packed_62 : decode cX10_packed 62 = .ok (.aload_n 0, 1) := by decide +kernel
theorem dX10_packed_63 : decode cX10_packed 63 = .ok (.iload_n 1, 1) := by decide +kernel
theorem dX10_packed_64 : decode cX10_packed 64 = .ok (.iconst 4, 1) := by decide +kernel
theorem dX10_packed_65 : decode cX10_packed 65 = .ok (.invokevirtual 61, 3) := by decide +kernel
theorem dX10_packed_68 : decode cX10_packed 68 = .ok (.bipush 14, 2) := by decide +kernel
theorem dX10_packed_70 : decode cX10_packed 70 = .ok (.ishl, 1) := by decide +kernel
theorem dX10_packed_71 : decode cX10_packed 71 = .ok (.ior, 1) := by decide +kernel
theorem dX10_packed_72 : decode cX10_packed 72 = .ok (.i2l, 1) := by decide +kernel
theorem dX10_packed_73 : decode cX10_packed 73 = .ok (.lstore_n 2, 1) := by decide +kernel
theorem dX10_packed_74 : decode cX10_packed 74 = .ok (.lload_n 2, 1) := by decide +kernel
theorem dX10_packed_75 : decode cX10_packed 75 = .ok (.aload_n 0, 1) := by decide +kernel
theorem dX10_packed_76 : decode cX10_packed 76 = .ok (.iload_n 1, 1) := by decide +kernel
theorem dX10_packed_77 : decode cX10_packed 77 = .ok (.iconst 5, 1) := by decide +kernel
theorem dX10_packed_78 : decode cX10_packed 78 = .ok (.invokevirtual 61, 3) := by decide +kernel
theorem dX10_packed_81 : decode cX10_packed 81 = .ok (.i2l, 1) := by decide +kernel
theorem dX10_packed_82 : decode cX10_packed 82 = .ok (.bipush 16, 2) := by decide +kernel
theorem dX10_packed_84 : decode cX10_packed 84 = .ok (.lshl, 1) := by decide +kernel
theorem dX10_packed_85 : decode cX10_packed 85 = .ok (.lor, 1) := by decide +kernel
theorem dX10_packed_86 : decode cX10_packed 86 = .ok (.lreturn, 1) := by decide +kernel
theorem dX10_runCount_0 : decode cX10_runCount 0 = .ok (.aload_n 0, 1) := by decide +kernel
theorem dX10_runCount_1 : decode cX10_runCount 1 = .ok (.iconst 0, 1) := by decide +kernel
theorem dX10_runCount_2 : decode cX10_runCount 2 = .ok (.putfield 41, 3) := by decide +kernel
theorem dX10_runCount_5 : decode cX10_runCount 5 = .ok (.aload_n 0, 1) := by decide +kernel
theorem dX10_runCount_6 : decode cX10_runCount 6 = .ok (.getfield 7, 3) := by decide +kernel
theorem dX10_runCount_9 : decode cX10_runCount 9 = .ok (.iconst 1, 1) := by decide +kernel
theorem dX10_runCount_10 : decode cX10_runCount 10 = .ok (.iaload, 1) := by decide +kernel
theorem dX10_runCount_11 : decode cX10_runCount 11 = .ok (.ireturn, 1) := by decide +kernel
theorem dX10_isHere_0 : decode cX10_isHere 0 = .ok (.aload_n 0, 1) := by decide +kernel
theorem dX10_isHere_1 : decode cX10_isHere 1 = .ok (.iload_n 1, 1) := by decide +kernel
theorem dX10_isHere_2 : decode cX10_isHere 2 = .ok (.iconst 4, 1) := by decide +kernel
theorem dX10_isHere_3 : decode cX10_isHere 3 = .ok (.invokevirtual 61, 3) := by decide +kernel
theorem dX10_isHere_6 : decode cX10_isHere 6 = .ok (.iconst 3, 1) := by decide +kernel
theorem dX10_isHere_7 : decode cX10_isHere 7 = .ok (.if_icmp .eq 7, 3) := by decide +kernel
theorem dX10_isHere_10 : decode cX10_isHere 10 = .ok (.iconst 1, 1) := by decide +kernel
theorem dX10_isHere_11 : decode cX10_isHere 11 = .ok (.goto 4, 3) := by decide +kernel
theorem dX10_isHere_14 : decode cX10_isHere 14 = .ok (.iconst 0, 1) := by decide +kernel
theorem dX10_isHere_15 : decode cX10_isHere 15 = .ok (.ireturn, 1) := by decide +kernel
theorem dX10_dirtiest_0 : decode cX10_dirtiest 0 = .ok (.aload_n 0, 1) := by decide +kernel
theorem dX10_dirtiest_1 : decode cX10_dirtiest 1 = .ok (.iconst 0, 1) := by decide +kernel
theorem dX10_dirtiest_2 : decode cX10_dirtiest 2 = .ok (.putfield 41, 3) := by decide +kernel
theorem dX10_dirtiest_5 : decode cX10_dirtiest 5 = .ok (.iconst 0, 1) := by decide +kernel
theorem dX10_dirtiest_6 : decode cX10_dirtiest 6 = .ok (.istore_n 2, 1) := by decide +kernel
theorem dX10_dirtiest_7 : decode cX10_dirtiest 7 = .ok (.iload_n 2, 1) := by decide +kernel
theorem dX10_dirtiest_8 : decode cX10_dirtiest 8 = .ok (.aload_n 0, 1) := by decide +kernel
theorem dX10_dirtiest_9 : decode cX10_dirtiest 9 = .ok (.getfield 7, 3) := by decide +kernel
theorem dX10_dirtiest_12 : decode cX10_dirtiest 12 = .ok (.iconst 0, 1) := by decide +kernel
theorem dX10_dirtiest_13 : decode cX10_dirtiest 13 = .ok (.iaload, 1) := by decide +kernel
theorem dX10_dirtiest_14 : decode cX10_dirtiest 14 = .ok (.if_icmp .ge 104, 3) := by decide +kernel
theorem dX10_dirtiest_17 : decode cX10_dirtiest 17 = .ok (.aload_n 0, 1) := by decide +kernel
theorem dX10_dirtiest_18 : decode cX10_dirtiest 18 = .ok (.iload_n 2, 1) := by decide +kernel
theorem dX10_dirtiest_19 : decode cX10_dirtiest 19 = .ok (.invokevirtual 185, 3) := by decide +kernel
theorem dX10_dirtiest_22 : decode cX10_dirtiest 22 = .ok (.ifCond .ne 6, 3) := by decide +kernel
theorem dX10_dirtiest_25 : decode cX10_dirtiest 25 = .ok (.goto 87, 3) := by decide +kernel
theorem dX10_dirtiest_28 : decode cX10_dirtiest 28 = .ok (.iconst 0, 1) := by decide +kernel
theorem dX10_dirtiest_29 : decode cX10_dirtiest 29 = .ok (.istore_n 3, 1) := by decide +kernel
theorem dX10_dirtiest_30 : decode cX10_dirtiest 30 = .ok (.iconst 0, 1) := by decide +kernel
theorem dX10_dirtiest_31 : decode cX10_dirtiest 31 = .ok (.istore 4, 2) := by decide +kernel
theorem dX10_dirtiest_33 : decode cX10_dirtiest 33 = .ok (.iload 4, 2) := by decide +kernel
theorem dX10_dirtiest_35 : decode cX10_dirtiest 35 = .ok (.aload_n 0, 1) := by decide +kernel
theorem dX10_dirtiest_36 : decode cX10_dirtiest 36 = .ok (.getfield 7, 3) := by decide +kernel
theorem dX10_dirtiest_39 : decode cX10_dirtiest 39 = .ok (.iconst 0, 1) := by decide +kernel
theorem dX10_dirtiest_40 : decode cX10_dirtiest 40 = .ok (.iaload, 1) := by decide +kernel
theorem dX10_dirtiest_41 : decode cX10_dirtiest 41 = .ok (.if_icmp .ge 64, 3) := by decide +kernel
theorem dX10_dirtiest_44 : decode cX10_dirtiest 44 = .ok (.aload_n 0, 1) := by decide +kernel
theorem dX10_dirtiest_45 : decode cX10_dirtiest 45 = .ok (.iload 4, 2) := by decide +kernel
theorem dX10_dirtiest_47 : decode cX10_dirtiest 47 = .ok (.iconst 3, 1) := by decide +kernel
theorem dX10_dirtiest_48 : decode cX10_dirtiest 48 = .ok (.invokevirtual 61, 3) := by decide +kernel
theorem dX10_dirtiest_51 : decode cX10_dirtiest 51 = .ok (.invokestatic 88, 3) := by decide +kernel
theorem dX10_dirtiest_54 : decode cX10_dirtiest 54 = .ok (.aload_n 0, 1) := by decide +kernel
theorem dX10_dirtiest_55 : decode cX10_dirtiest 55 = .ok (.iload_n 2, 1) := by decide +kernel
theorem dX10_dirtiest_56 : decode cX10_dirtiest 56 = .ok (.iconst 3, 1) := by decide +kernel
theorem dX10_dirtiest_57 : decode cX10_dirtiest 57 = .ok (.invokevirtual 61, 3) := by decide +kernel
theorem dX10_dirtiest_60 : decode cX10_dirtiest 60 = .ok (.invokestatic 88, 3) := by decide +kernel
theorem dX10_dirtiest_63 : decode cX10_dirtiest 63 = .ok (.isub, 1) := by decide +kernel
theorem dX10_dirtiest_64 : decode cX10_dirtiest 64 = .ok (.istore 5, 2) := by decide +kernel
theorem dX10_dirtiest_66 : decode cX10_dirtiest 66 = .ok (.iload_n 3, 1) := by decide +kernel
theorem dX10_dirtiest_67 : decode cX10_dirtiest 67 = .ok (.aload_n 0, 1) := by decide +kernel
theorem dX10_dirtiest_68 : decode cX10_dirtiest 68 = .ok (.iload 4, 2) := by decide +kernel
theorem dX10_dirtiest_70 : decode cX10_dirtiest 70 = .ok (.invokevirtual 185, 3) := by decide +kernel
theorem dX10_dirtiest_73 : decode cX10_dirtiest 73 = .ok (.ifCond .eq 23, 3) := by decide +kernel
theorem dX10_dirtiest_76 : decode cX10_dirtiest 76 = .ok (.iload 5, 2) := by decide +kernel
theorem dX10_dirtiest_78 : decode cX10_dirtiest 78 = .ok (.ifCond .gt 14, 3) := by decide +kernel
theorem dX10_dirtiest_81 : decode cX10_dirtiest 81 = .ok (.iload 5, 2) := by decide +kernel
theorem dX10_dirtiest_83 : decode cX10_dirtiest 83 = .ok (.ifCond .ne 13, 3) := by decide +kernel
theorem dX10_dirtiest_86 : decode cX10_dirtiest 86 = .ok (.iload 4, 2) := by decide +kernel
theorem dX10_dirtiest_88 : decode cX10_dirtiest 88 = .ok (.iload_n 2, 1) := by decide +kernel
theorem dX10_dirtiest_89 : decode cX10_dirtiest 89 = .ok (.if_icmp .ge 7, 3) := by decide +kernel
theorem dX10_dirtiest_92 : decode cX10_dirtiest 92 = .ok (.iconst 1, 1) := by decide +kernel
theorem dX10_dirtiest_93 : decode cX10_dirtiest 93 = .ok (.goto 4, 3) := by decide +kernel
theorem dX10_dirtiest_96 : decode cX10_dirtiest 96 = .ok (.iconst 0, 1) := by decide +kernel
theorem dX10_dirtiest_97 : decode cX10_dirtiest 97 = .ok (.iadd, 1) := by decide +kernel
theorem dX10_dirtiest_98 : decode cX10_dirtiest 98 = .ok (.istore_n 3, 1) := by decide +kernel
theorem dX10_dirtiest_99 : decode cX10_dirtiest 99 = .ok (.iinc 4 1, 3) := by decide +kernel
theorem dX10_dirtiest_102 : decode cX10_dirtiest 102 = .ok (.goto (-69), 3) := by decide +kernel
theorem dX10_dirtiest_105 : decode cX10_dirtiest 105 = .ok (.iload_n 3, 1) := by decide +kernel
theorem dX10_dirtiest_106 : decode cX10_dirtiest 106 = .ok (.iload_n 1, 1) := by decide +kernel
theorem dX10_dirtiest_107 : decode cX10_dirtiest 107 = .ok (.if_icmp .ne 5, 3) := by decide +kernel
theorem dX10_dirtiest_110 : decode cX10_dirtiest 110 = .ok (.iload_n 2, 1) := by decide +kernel
theorem dX10_dirtiest_111 : decode cX10_dirtiest 111 = .ok (.ireturn, 1) := by decide +kernel
theorem dX10_dirtiest_112 : decode cX10_dirtiest 112 = .ok (.iinc 2 1, 3) := by decide +kernel
theorem dX10_dirtiest_115 : decode cX10_dirtiest 115 = .ok (.goto (-108), 3) := by decide +kernel
theorem dX10_dirtiest_118 : decode cX10_dirtiest 118 = .ok (.aload_n 0, 1) := by decide +kernel
theorem dX10_dirtiest_119 : decode cX10_dirtiest 119 = .ok (.iconst 1, 1) := by decide +kernel
theorem dX10_dirtiest_120 : decode cX10_dirtiest 120 = .ok (.invokevirtual 54, 3) := by decide +kernel
theorem dX10_dirtiest_123 : decode cX10_dirtiest 123 = .ok (.ireturn, 1) := by decide +kernel
theorem dX10_spender_0 : decode cX10_spender 0 = .ok (.aload_n 0, 1) := by decide +kernel
theorem dX10_spender_1 : decode cX10_spender 1 = .ok (.iconst 0, 1) := by decide +kernel
theorem dX10_spender_2 : decode cX10_spender 2 = .ok (.putfield 41, 3) := by decide +kernel
theorem dX10_spender_5 : decode cX10_spender 5 = .ok (.iconst 0, 1) := by decide +kernel
theorem dX10_spender_6 : decode cX10_spender 6 = .ok (.istore_n 2, 1) := by decide +kernel
theorem dX10_spender_7 : decode cX10_spender 7 = .ok (.iload_n 2, 1) := by decide +kernel
theorem dX10_spender_8 : decode cX10_spender 8 = .ok (.iconst 4, 1) := by decide +kernel
theorem dX10_spender_9 : decode cX10_spender 9 = .ok (.if_icmp .ge 77, 3) := by decide +kernel
theorem dX10_spender_12 : decode cX10_spender 12 = .ok (.iconst 0, 1) := by decide +kernel
theorem dX10_spender_13 : decode cX10_spender 13 = .ok (.istore_n 3, 1) := by decide +kernel
theorem dX10_spender_14 : decode cX10_spender 14 = .ok (.iconst 0, 1) := by decide +kernel
theorem dX10_spender_15 : decode cX10_spender 15 = .ok (.istore 4, 2) := by decide +kernel
theorem dX10_spender_17 : decode cX10_spender 17 = .ok (.iload 4, 2) := by decide +kernel
theorem dX10_spender_19 : decode cX10_spender 19 = .ok (.iconst 4, 1) := by decide +kernel
theorem dX10_spender_20 : decode cX10_spender 20 = .ok (.if_icmp .ge 53, 3) := by decide +kernel
theorem dX10_spender_23 : decode cX10_spender 23 = .ok (.iload_n 3, 1) := by decide +kernel
theorem dX10_spender_24 : decode cX10_spender 24 = .ok (.aload_n 0, 1) := by decide +kernel
theorem dX10_spender_25 : decode cX10_spender 25 = .ok (.iload 4, 2) := by decide +kernel
theorem dX10_spender_27 : decode cX10_spender 27 = .ok (.invokevirtual 126, 3) := by decide +kernel
theorem dX10_spender_30 : decode cX10_spender 30 = .ok (.aload_n 0, 1) := by decide +kernel
theorem dX10_spender_31 : decode cX10_spender 31 = .ok (.iload_n 2, 1) := by decide +kernel
theorem dX10_spender_32 : decode cX10_spender 32 = .ok (.invokevirtual 126, 3) := by decide +kernel
theorem dX10_spender_35 : decode cX10_spender 35 = .ok (.fcmp .l, 1) := by decide +kernel
theorem dX10_spender_36 : decode cX10_spender 36 = .ok (.ifCond .gt 24, 3) := by decide +kernel
theorem dX10_spender_39 : decode cX10_spender 39 = .ok (.aload_n 0, 1) := by decide +kernel
theorem dX10_spender_40 : decode cX10_spender 40 = .ok (.iload 4, 2) := by decide +kernel
theorem dX10_spender_42 : decode cX10_spender 42 = .ok (.invokevirtual 126, 3) := by decide +kernel
theorem dX10_spender_45 : decode cX10_spender 45 = .ok (.aload_n 0, 1) := by decide +kernel
theorem dX10_spender_46 : decode cX10_spender 46 = .ok (.iload_n 2, 1) := by decide +kernel
theorem dX10_spender_47 : decode cX10_spender 47 = .ok (.invokevirtual 126, 3) := by decide +kernel
theorem dX10_spender_50 : decode cX10_spender 50 = .ok (.fcmp .l, 1) := by decide +kernel
theorem dX10_spender_51 : decode cX10_spender 51 = .ok (.ifCond .ne 13, 3) := by decide +kernel
theorem dX10_spender_54 : decode cX10_spender 54 = .ok (.iload 4, 2) := by decide +kernel
theorem dX10_spender_56 : decode cX10_spender 56 = .ok (.iload_n 2, 1) := by decide +kernel
theorem dX10_spender_57 : decode cX10_spender 57 = .ok (.if_icmp .ge 7, 3) := by decide +kernel
theorem dX10_spender_60 : decode cX10_spender 60 = .ok (.iconst 1, 1) := by decide +kernel
theorem dX10_spender_61 : decode cX10_spender 61 = .ok (.goto 4, 3) := by decide +kernel
theorem dX10_spender_64 : decode cX10_spender 64 = .ok (.iconst 0, 1) := by decide +kernel
theorem dX10_spender_65 : decode cX10_spender 65 = .ok (.iadd, 1) := by decide +kernel
theorem dX10_spender_66 : decode cX10_spender 66 = .ok (.istore_n 3, 1) := by decide +kernel
theorem dX10_spender_67 : decode cX10_spender 67 = .ok (.iinc 4 1, 3) := by decide +kernel
theorem dX10_spender_70 : decode cX10_spender 70 = .ok (.goto (-53), 3) := by decide +kernel
theorem dX10_spender_73 : decode cX10_spender 73 = .ok (.iload_n 3, 1) := by decide +kernel
theorem dX10_spender_74 : decode cX10_spender 74 = .ok (.iload_n 1, 1) := by decide +kernel
theorem dX10_spender_75 : decode cX10_spender 75 = .ok (.if_icmp .ne 5, 3) := by decide +kernel
theorem dX10_spender_78 : decode cX10_spender 78 = .ok (.iload_n 2, 1) := by decide +kernel
theorem dX10_spender_79 : decode cX10_spender 79 = .ok (.ireturn, 1) := by decide +kernel
theorem dX10_spender_80 : decode cX10_spender 80 = .ok (.iinc 2 1, 3) := by decide +kernel
theorem dX10_spender_83 : decode cX10_spender 83 = .ok (.goto (-76), 3) := by decide +kernel
theorem dX10_spender_86 : decode cX10_spender 86 = .ok (.aload_n 0, 1) := by decide +kernel
theorem dX10_spender_87 : decode cX10_spender 87 = .ok (.iconst 1, 1) := by decide +kernel
theorem dX10_spender_88 : decode cX10_spender 88 = .ok (.invokevirtual 54, 3) := by decide +kernel
theorem dX10_spender_91 : decode cX10_spender 91 = .ok (.ireturn, 1) := by decide +kernel
theorem dX10_meanStains_0 : decode cX10_meanStains 0 = .ok (.iconst 0, 1) := by decide +kernel
theorem dX10_meanStains_1 : decode cX10_meanStains 1 = .ok (.istore_n 1, 1) := by decide +kernel
theorem dX10_meanStains_2 : decode cX10_meanStains 2 = .ok (.iconst 0, 1) := by decide +kernel
theorem dX10_meanStains_3 : decode cX10_meanStains 3 = .ok (.istore_n 2, 1) := by decide +kernel
theorem dX10_meanStains_4 : decode cX10_meanStains 4 = .ok (.iconst 0, 1) := by decide +kernel
theorem dX10_meanStains_5 : decode cX10_meanStains 5 = .ok (.istore_n 3, 1) := by decide +kernel
theorem dX10_meanStains_6 : decode cX10_meanStains 6 = .ok (.iload_n 3, 1) := by decide +kernel
theorem dX10_meanStains_7 : decode cX10_meanStains 7 = .ok (.aload_n 0, 1) := by decide +kernel
theorem dX10_meanStains_8 : decode cX10_meanStains 8 = .ok (.getfield 7, 3) := by decide +kernel
theorem dX10_meanStains_11 : decode cX10_meanStains 11 = .ok (.iconst 0, 1) := by decide +kernel
theorem dX10_meanStains_12 : decode cX10_meanStains 12 = .ok (.iaload, 1) := by decide +kernel
theorem dX10_meanStains_13 : decode cX10_meanStains 13 = .ok (.if_icmp .ge 49, 3) := by decide +kernel
theorem dX10_meanStains_16 : decode cX10_meanStains 16 = .ok (.iload_n 1, 1) := by decide +kernel
theorem dX10_meanStains_17 : decode cX10_meanStains 17 = .ok (.aload_n 0, 1) := by decide +kernel
theorem dX10_meanStains_18 : decode cX10_meanStains 18 = .ok (.iload_n 3, 1) := by decide +kernel
theorem dX10_meanStains_19 : decode cX10_meanStains 19 = .ok (.invokevirtual 185, 3) := by decide +kernel
theorem dX10_meanStains_22 : decode cX10_meanStains 22 = .ok (.ifCond .eq 7, 3) := by decide +kernel
theorem dX10_meanStains_25 : decode cX10_meanStains 25 = .ok (.iconst 1, 1) := by decide +kernel
theorem dX10_meanStains_26 : decode cX10_meanStains 26 = .ok (.goto 4, 3) := by decide +kernel
theorem dX10_meanStains_29 : decode cX10_meanStains 29 = .ok (.iconst 0, 1) := by decide +kernel
theorem dX10_meanStains_30 : decode cX10_meanStains 30 = .ok (.iadd, 1) := by decide +kernel
theorem dX10_meanStains_31 : decode cX10_meanStains 31 = .ok (.istore_n 1, 1) := by decide +kernel
theorem dX10_meanStains_32 : decode cX10_meanStains 32 = .ok (.iload_n 2, 1) := by decide +kernel
theorem dX10_meanStains_33 : decode cX10_meanStains 33 = .ok (.aload_n 0, 1) := by decide +kernel
theorem dX10_meanStains_34 : decode cX10_meanStains 34 = .ok (.iload_n 3, 1) := by decide +kernel
theorem dX10_meanStains_35 : decode cX10_meanStains 35 = .ok (.invokevirtual 185, 3) := by decide +kernel
theorem dX10_meanStains_38 : decode cX10_meanStains 38 = .ok (.ifCond .eq 15, 3) := by decide +kernel
theorem dX10_meanStains_41 : decode cX10_meanStains 41 = .ok (.aload_n 0, 1) := by decide +kernel
theorem dX10_meanStains_42 : decode cX10_meanStains 42 = .ok (.iload_n 3, 1) := by decide +kernel
theorem dX10_meanStains_43 : decode cX10_meanStains 43 = .ok (.iconst 3, 1) := by decide +kernel
theorem dX10_meanStains_44 : decode cX10_meanStains 44 = .ok (.invokevirtual 61, 3) := by decide +kernel
theorem dX10_meanStains_47 : decode cX10_meanStains 47 = .ok (.invokestatic 88, 3) := by decide +kernel
theorem dX10_meanStains_50 : decode cX10_meanStains 50 = .ok (.goto 4, 3) := by decide +kernel
theorem dX10_meanStains_53 : decode cX10_meanStains 53 = .ok (.iconst 0, 1) := by decide +kernel
theorem dX10_meanStains_54 : decode cX10_meanStains 54 = .ok (.iadd, 1) := by decide +kernel
theorem dX10_meanStains_55 : decode cX10_meanStains 55 = .ok (.istore_n 2, 1) := by decide +kernel
theorem dX10_meanStains_56 : decode cX10_meanStains 56 = .ok (.iinc 3 1, 3) := by decide +kernel
theorem dX10_meanStains_59 : decode cX10_meanStains 59 = .ok (.goto (-53), 3) := by decide +kernel
theorem dX10_meanStains_62 : decode cX10_meanStains 62 = .ok (.aload_n 0, 1) := by decide +kernel
theorem dX10_meanStains_63 : decode cX10_meanStains 63 = .ok (.iload_n 1, 1) := by decide +kernel
theorem dX10_meanStains_64 : decode cX10_meanStains 64 = .ok (.ifCond .ne 7, 3) := by decide +kernel
theorem dX10_meanStains_67 : decode cX10_meanStains 67 = .ok (.iconst 1, 1) := by decide +kernel
theorem dX10_meanStains_68 : decode cX10_meanStains 68 = .ok (.goto 4, 3) := by decide +kernel
theorem dX10_meanStains_71 : decode cX10_meanStains 71 = .ok (.iconst 0, 1) := by decide +kernel
theorem dX10_meanStains_72 : decode cX10_meanStains 72 = .ok (.putfield 41, 3) := by decide +kernel
theorem dX10_meanStains_75 : decode cX10_meanStains 75 = .ok (.aload_n 0, 1) := by decide +kernel
theorem dX10_meanStains_76 : decode cX10_meanStains 76 = .ok (.getfield 41, 3) := by decide +kernel
theorem dX10_meanStains_79 : decode cX10_meanStains 79 = .ok (.ifCond .le 7, 3) := by decide +kernel
theorem dX10_meanStains_82 : decode cX10_meanStains 82 = .ok (.dconst 0, 1) := by decide +kernel
theorem dX10_meanStains_83 : decode cX10_meanStains 83 = .ok (.goto 8, 3) := by decide +kernel
theorem dX10_meanStains_86 : decode cX10_meanStains 86 = .ok (.iload_n 2, 1) := by decide +kernel
theorem dX10_meanStains_87 : decode cX10_meanStains 87 = .ok (.i2d, 1) := by decide +kernel
theorem dX10_meanStains_88 : decode cX10_meanStains 88 = .ok (.iload_n 1, 1) := by decide +kernel
theorem dX10_meanStains_89 : decode cX10_meanStains 89 = .ok (.i2d, 1) := by decide +kernel
theorem dX10_meanStains_90 : decode cX10_meanStains 90 = .ok (.ddiv, 1) := by decide +kernel
theorem dX10_meanStains_91 : decode cX10_meanStains 91 = .ok (.dreturn, 1) := by decide +kernel
theorem dX10_lostShare_0 : decode cX10_lostShare 0 = .ok (.aload_n 0, 1) := by decide +kernel
theorem dX10_lostShare_1 : decode cX10_lostShare 1 = .ok (.aload_n 0, 1) := by decide +kernel
theorem dX10_lostShare_2 : decode cX10_lostShare 2 = .ok (.getfield 7, 3) := by decide +kernel
theorem dX10_lostShare_5 : decode cX10_lostShare 5 = .ok (.iconst 0, 1) := by decide +kernel
theorem dX10_lostShare_6 : decode cX10_lostShare 6 = .ok (.iaload, 1) := by decide +kernel
theorem dX10_lostShare_7 : decode cX10_lostShare 7 = .ok (.ifCond .ne 7, 3) := by decide +kernel
theorem dX10_lostShare_10 : decode cX10_lostShare 10 = .ok (.iconst 1, 1) := by decide +kernel
theorem dX10_lostShare_11 : decode cX10_lostShare 11 = .ok (.goto 4, 3) := by decide +kernel
theorem dX10_lostShare_14 : decode cX10_lostShare 14 = .ok (.iconst 0, 1) := by decide +kernel
theorem dX10_lostShare_15 : decode cX10_lostShare 15 = .ok (.putfield 41, 3) := by decide +kernel
theorem dX10_lostShare_18 : decode cX10_lostShare 18 = .ok (.aload_n 0, 1) := by decide +kernel
theorem dX10_lostShare_19 : decode cX10_lostShare 19 = .ok (.getfield 41, 3) := by decide +kernel
theorem dX10_lostShare_22 : decode cX10_lostShare 22 = .ok (.ifCond .le 5, 3) := by decide +kernel
theorem dX10_lostShare_25 : decode cX10_lostShare 25 = .ok (.fconst 0, 1) := by decide +kernel
theorem dX10_lostShare_26 : decode cX10_lostShare 26 = .ok (.freturn, 1) := by decide +kernel
theorem dX10_lostShare_27 : decode cX10_lostShare 27 = .ok (.iconst 0, 1) := by decide +kernel
theorem dX10_lostShare_28 : decode cX10_lostShare 28 = .ok (.istore_n 1, 1) := by decide +kernel
theorem dX10_lostShare_29 : decode cX10_lostShare 29 = .ok (.iconst 0, 1) := by decide +kernel
theorem dX10_lostShare_30 : decode cX10_lostShare 30 = .ok (.istore_n 2, 1) := by decide +kernel
theorem dX10_lostShare_31 : decode cX10_lostShare 31 = .ok (.iload_n 2, 1) := by decide +kernel
theorem dX10_lostShare_32 : decode cX10_lostShare 32 = .ok (.aload_n 0, 1) := by decide +kernel
theorem dX10_lostShare_33 : decode cX10_lostShare 33 = .ok (.getfield 7, 3) := by decide +kernel
theorem dX10_lostShare_36 : decode cX10_lostShare 36 = .ok (.iconst 0, 1) := by decide +kernel
theorem dX10_lostShare_37 : decode cX10_lostShare 37 = .ok (.iaload, 1) := by decide +kernel
theorem dX10_lostShare_38 : decode cX10_lostShare 38 = .ok (.if_icmp .ge 25, 3) := by decide +kernel
theorem dX10_lostShare_41 : decode cX10_lostShare 41 = .ok (.iload_n 1, 1) := by decide +kernel
theorem dX10_lostShare_42 : decode cX10_lostShare 42 = .ok (.aload_n 0, 1) := by decide +kernel
theorem dX10_lostShare_43 : decode cX10_lostShare 43 = .ok (.iload_n 2, 1) := by decide +kernel
theorem dX10_lostShare_44 : decode cX10_lostShare 44 = .ok (.invokevirtual 185, 3) := by decide +kernel
theorem dX10_lostShare_47 : decode cX10_lostShare 47 = .ok (.ifCond .eq 7, 3) := by decide +kernel
theorem dX10_lostShare_50 : decode cX10_lostShare 50 = .ok (.iconst 0, 1) := by decide +kernel
theorem dX10_lostShare_51 : decode cX10_lostShare 51 = .ok (.goto 4, 3) := by decide +kernel
theorem dX10_lostShare_54 : decode cX10_lostShare 54 = .ok (.iconst 1, 1) := by decide +kernel
theorem dX10_lostShare_55 : decode cX10_lostShare 55 = .ok (.iadd, 1) := by decide +kernel
theorem dX10_lostShare_56 : decode cX10_lostShare 56 = .ok (.istore_n 1, 1) := by decide +kernel
theorem dX10_lostShare_57 : decode cX10_lostShare 57 = .ok (.iinc 2 1, 3) := by decide +kernel
theorem dX10_lostShare_60 : decode cX10_lostShare 60 = .ok (.goto (-29), 3) := by decide +kernel
theorem dX10_lostShare_63 : decode cX10_lostShare 63 = .ok (.iload_n 1, 1) := by decide +kernel
theorem dX10_lostShare_64 : decode cX10_lostShare 64 = .ok (.i2f, 1) := by decide +kernel
theorem dX10_lostShare_65 : decode cX10_lostShare 65 = .ok (.aload_n 0, 1) := by decide +kernel
theorem dX10_lostShare_66 : decode cX10_lostShare 66 = .ok (.getfield 7, 3) := by decide +kernel
theorem dX10_lostShare_69 : decode cX10_lostShare 69 = .ok (.iconst 0, 1) := by decide +kernel
theorem dX10_lostShare_70 : decode cX10_lostShare 70 = .ok (.iaload, 1) := by decide +kernel
theorem dX10_lostShare_71 : decode cX10_lostShare 71 = .ok (.i2f, 1) := by decide +kernel
theorem dX10_lostShare_72 : decode cX10_lostShare 72 = .ok (.fdiv, 1) := by decide +kernel
theorem dX10_lostShare_73 : decode cX10_lostShare 73 = .ok (.freturn, 1) := by decide +kernel
theorem dX10_isConsistent_0 : decode cX10_isConsistent 0 = .ok (.aload_n 0, 1) := by decide +kernel
theorem dX10_isConsistent_1 : decode cX10_isConsistent 1 = .ok (.iconst 0, 1) := by decide +kernel
theorem dX10_isConsistent_2 : decode cX10_isConsistent 2 = .ok (.putfield 41, 3) := by decide +kernel
theorem dX10_isConsistent_5 : decode cX10_isConsistent 5 = .ok (.iconst 1, 1) := by decide +kernel
theorem dX10_isConsistent_6 : decode cX10_isConsistent 6 = .ok (.ireturn, 1) := by decide +kernel
theorem dX10_feed_0 : decode cX10_feed 0 = .ok (.aload_n 0, 1) := by decide +kernel
theorem dX10_feed_1 : decode cX10_feed 1 = .ok (.aload_n 0, 1) := by decide +kernel
theorem dX10_feed_2 : decode cX10_feed 2 = .ok (.getfield 188, 3) := by decide +kernel
theorem dX10_feed_5 : decode cX10_feed 5 = .ok (.bipush 60, 2) := by decide +kernel
theorem dX10_feed_7 : decode cX10_feed 7 = .ok (.if_icmp .ne 7, 3) := by decide +kernel
theorem dX10_feed_10 : decode cX10_feed 10 = .ok (.iconst 1, 1) := by decide +kernel
theorem dX10_feed_11 : decode cX10_feed 11 = .ok (.goto 4, 3) := by decide +kernel
theorem dX10_feed_14 : decode cX10_feed 14 = .ok (.iconst 0, 1) := by decide +kernel
theorem dX10_feed_15 : decode cX10_feed 15 = .ok (.putfield 41, 3) := by decide +kernel
theorem dX10_feed_18 : decode cX10_feed 18 = .ok (.aload_n 0, 1) := by decide +kernel
theorem dX10_feed_19 : decode cX10_feed 19 = .ok (.getfield 41, 3) := by decide +kernel
theorem dX10_feed_22 : decode cX10_feed 22 = .ok (.ifCond .le 5, 3) := by decide +kernel
theorem dX10_feed_25 : decode cX10_feed 25 = .ok (.iconst 0, 1) := by decide +kernel
theorem dX10_feed_26 : decode cX10_feed 26 = .ok (.ireturn, 1) := by decide +kernel
theorem dX10_feed_27 : decode cX10_feed 27 = .ok (.aload_n 0, 1) := by decide +kernel
theorem dX10_feed_28 : decode cX10_feed 28 = .ok (.getfield 22, 3) := by decide +kernel
theorem dX10_feed_31 : decode cX10_feed 31 = .ok (.aload_n 0, 1) := by decide +kernel
theorem dX10_feed_32 : decode cX10_feed 32 = .ok (.getfield 188, 3) := by decide +kernel
theorem dX10_feed_35 : decode cX10_feed 35 = .ok (.iload_n 1, 1) := by decide +kernel
theorem dX10_feed_36 : decode cX10_feed 36 = .ok (.iastore, 1) := by decide +kernel
theorem dX10_feed_37 : decode cX10_feed 37 = .ok (.aload_n 0, 1) := by decide +kernel
theorem dX10_feed_38 : decode cX10_feed 38 = .ok (.dup, 1) := by decide +kernel
theorem dX10_feed_39 : decode cX10_feed 39 = .ok (.getfield 188, 3) := by decide +kernel
theorem dX10_feed_42 : decode cX10_feed 42 = .ok (.iconst 1, 1) := by decide +kernel
theorem dX10_feed_43 : decode cX10_feed 43 = .ok (.iadd, 1) := by decide +kernel
theorem dX10_feed_44 : decode cX10_feed 44 = .ok (.putfield 188, 3) := by decide +kernel
theorem dX10_feed_47 : decode cX10_feed 47 = .ok (.aload_n 0, 1) := by decide +kernel
theorem dX10_feed_48 : decode cX10_feed 48 = .ok (.getfield 188, 3) := by decide +kernel
theorem dX10_feed_51 : decode cX10_feed 51 = .ok (.ireturn, 1) := by decide +kernel
theorem dX10_here_0 : decode cX10_here 0 = .ok (.aload_n 0, 1) := by decide +kernel
theorem dX10_here_1 : decode cX10_here 1 = .ok (.getfield 191, 3) := by decide +kernel
theorem dX10_here_4 : decode cX10_here 4 = .ok (.iload_n 1, 1) := by decide +kernel
theorem dX10_here_5 : decode cX10_here 5 = .ok (.iadd, 1) := by decide +kernel
theorem dX10_here_6 : decode cX10_here 6 = .ok (.aload_n 0, 1) := by decide +kernel
theorem dX10_here_7 : decode cX10_here 7 = .ok (.getfield 194, 3) := by decide +kernel
theorem dX10_here_10 : decode cX10_here 10 = .ok (.if_icmp .ge 17, 3) := by decide +kernel
theorem dX10_here_13 : decode cX10_here 13 = .ok (.aload_n 0, 1) := by decide +kernel
theorem dX10_here_14 : decode cX10_here 14 = .ok (.getfield 22, 3) := by decide +kernel
theorem dX10_here_17 : decode cX10_here 17 = .ok (.aload_n 0, 1) := by decide +kernel
theorem dX10_here_18 : decode cX10_here 18 = .ok (.getfield 191, 3) := by decide +kernel
theorem dX10_here_21 : decode cX10_here 21 = .ok (.iload_n 1, 1) := by decide +kernel
theorem dX10_here_22 : decode cX10_here 22 = .ok (.iadd, 1) := by decide +kernel
theorem dX10_here_23 : decode cX10_here 23 = .ok (.iaload, 1) := by decide +kernel
theorem dX10_here_24 : decode cX10_here 24 = .ok (.goto 4, 3) := by decide +kernel
theorem dX10_here_27 : decode cX10_here 27 = .ok (.iconst (-1), 1) := by decide +kernel
theorem dX10_here_28 : decode cX10_here 28 = .ok (.ireturn, 1) := by decide +kernel
theorem dX10_says_0 : decode cX10_says 0 = .ok (.iconst 0, 1) := by decide +kernel
theorem dX10_says_1 : decode cX10_says 1 = .ok (.istore_n 2, 1) := by decide +kernel
theorem dX10_says_2 : decode cX10_says 2 = .ok (.iload_n 2, 1) := by decide +kernel
theorem dX10_says_3 : decode cX10_says 3 = .ok (.aload_n 1, 1) := by decide +kernel
theorem dX10_says_4 : decode cX10_says 4 = .ok (.invokevirtual 197, 3) := by decide +kernel
theorem dX10_says_7 : decode cX10_says 7 = .ok (.if_icmp .ge 59, 3) := by decide +kernel
theorem dX10_says_10 : decode cX10_says 10 = .ok (.aload_n 0, 1) := by decide +kernel
theorem dX10_says_11 : decode cX10_says 11 = .ok (.getfield 200, 3) := by decide +kernel
theorem dX10_says_14 : decode cX10_says 14 = .ok (.ifCond .ne 52, 3) := by decide +kernel
theorem dX10_says_17 : decode cX10_says 17 = .ok (.aload_n 0, 1) := by decide +kernel
theorem dX10_says_18 : decode cX10_says 18 = .ok (.aload_n 0, 1) := by decide +kernel
theorem dX10_says_19 : decode cX10_says 19 = .ok (.iconst 0, 1) := by decide +kernel
theorem dX10_says_20 : decode cX10_says 20 = .ok (.invokevirtual 204, 3) := by decide +kernel
theorem dX10_says_23 : decode cX10_says 23 = .ok (.aload_n 1, 1) := by decide +kernel
theorem dX10_says_24 : decode cX10_says 24 = .ok (.iload_n 2, 1) := by decide +kernel
theorem dX10_says_25 : decode cX10_says 25 = .ok (.invokevirtual 164, 3) := by decide +kernel
theorem dX10_says_28 : decode cX10_says 28 = .ok (.if_icmp .eq 7, 3) := by decide +kernel
theorem dX10_says_31 : decode cX10_says 31 = .ok (.iconst 1, 1) := by decide +kernel
theorem dX10_says_32 : decode cX10_says 32 = .ok (.goto 4, 3) := by decide +kernel
theorem dX10_says_35 : decode cX10_says 35 = .ok (.iconst 0, 1) := by decide +kernel
theorem dX10_says_36 : decode cX10_says 36 = .ok (.putfield 200, 3) := by decide +kernel
theorem dX10_says_39 : decode cX10_says 39 = .ok (.aload_n 0, 1) := by decide +kernel
theorem dX10_says_40 : decode cX10_says 40 = .ok (.dup, 1) := by decide +kernel
theorem dX10_says_41 : decode cX10_says 41 = .ok (.getfield 191, 3) := by decide +kernel
theorem dX10_says_44 : decode cX10_says 44 = .ok (.aload_n 0, 1) := by decide +kernel
theorem dX10_says_45 : decode cX10_says 45 = .ok (.getfield 200, 3) := by decide +kernel
theorem dX10_says_48 : decode cX10_says 48 = .ok (.ifCond .eq 7, 3) := by decide +kernel
theorem dX10_says_51 : decode cX10_says 51 = .ok (.iconst 0, 1) := by decide +kernel
theorem dX10_says_52 : decode cX10_says 52 = .ok (.goto 4, 3) := by decide +kernel
theorem dX10_says_55 : decode cX10_says 55 = .ok (.iconst 1, 1) := by decide +kernel
theorem dX10_says_56 : decode cX10_says 56 = .ok (.iadd, 1) := by decide +kernel
theorem dX10_says_57 : decode cX10_says 57 = .ok (.putfield 191, 3) := by decide +kernel
theorem dX10_says_60 : decode cX10_says 60 = .ok (.iinc 2 1, 3) := by decide +kernel
theorem dX10_says_63 : decode cX10_says 63 = .ok (.goto (-61), 3) := by decide +kernel
theorem dX10_says_66 : decode cX10_says 66 = .ok (.return_, 1) := by decide +kernel
theorem dX10_number_0 : decode cX10_number 0 = .ok (.aload_n 0, 1) := by decide +kernel
theorem dX10_number_1 : decode cX10_number 1 = .ok (.ldc 207, 2) := by decide +kernel
theorem dX10_number_3 : decode cX10_number 3 = .ok (.invokevirtual 209, 3) := by decide +kernel
theorem dX10_number_6 : decode cX10_number 6 = .ok (.iconst 0, 1) := by decide +kernel
theorem dX10_number_7 : decode cX10_number 7 = .ok (.istore_n 3, 1) := by decide +kernel
theorem dX10_number_8 : decode cX10_number 8 = .ok (.iconst 0, 1) := by decide +kernel
theorem dX10_number_9 : decode cX10_number 9 = .ok (.istore 4, 2) := by decide +kernel
theorem dX10_number_11 : decode cX10_number 11 = .ok (.aload_n 0, 1) := by decide +kernel
theorem dX10_number_12 : decode cX10_number 12 = .ok (.getfield 200, 3) := by decide +kernel
theorem dX10_number_15 : decode cX10_number 15 = .ok (.ifCond .ne 54, 3) := by decide +kernel
theorem dX10_number_18 : decode cX10_number 18 = .ok (.iload 4, 2) := by decide +kernel
theorem dX10_number_20 : decode cX10_number 20 = .ok (.iload_n 2, 1) := by decide +kernel
theorem dX10_number_21 : decode cX10_number 21 = .ok (.if_icmp .ge 48, 3) := by decide +kernel
theorem dX10_number_24 : decode cX10_number 24 = .ok (.aload_n 0, 1) := by decide +kernel
theorem dX10_number_25 : decode cX10_number 25 = .ok (.iconst 0, 1) := by decide +kernel
theorem dX10_number_26 : decode cX10_number 26 = .ok (.invokevirtual 204, 3) := by decide +kernel
theorem dX10_number_29 : decode cX10_number 29 = .ok (.bipush 48, 2) := by decide +kernel
theorem dX10_number_31 : decode cX10_number 31 = .ok (.bipush 57, 2) := by decide +kernel
theorem dX10_number_33 : decode cX10_number 33 = .ok (.invokestatic 57, 3) := by decide +kernel
theorem dX10_number_36 : decode cX10_number 36 = .ok (.ifCond .eq 33, 3) := by decide +kernel
theorem dX10_number_39 : decode cX10_number 39 = .ok (.bipush 10, 2) := by decide +kernel
theorem dX10_number_41 : decode cX10_number 41 = .ok (.iload_n 3, 1) := by decide +kernel
theorem dX10_number_42 : decode cX10_number 42 = .ok (.imul, 1) := by decide +kernel
theorem dX10_number_43 : decode cX10_number 43 = .ok (.aload_n 0, 1) := by decide +kernel
theorem dX10_number_44 : decode cX10_number 44 = .ok (.iconst 0, 1) := by decide +kernel
theorem dX10_number_45 : decode cX10_number 45 = .ok (.invokevirtual 204, 3) := by decide +kernel
theorem dX10_number_48 : decode cX10_number 48 = .ok (.iadd, 1) := by decide +kernel
theorem dX10_number_49 : decode cX10_number 49 = .ok (.bipush 48, 2) := by decide +kernel
theorem dX10_number_51 : decode cX10_number 51 = .ok (.isub, 1) := by decide +kernel
theorem dX10_number_52 : decode cX10_number 52 = .ok (.istore_n 3, 1) := by decide +kernel
theorem dX10_number_53 : decode cX10_number 53 = .ok (.aload_n 0, 1) := by decide +kernel
theorem dX10_number_54 : decode cX10_number 54 = .ok (.dup, 1) := by decide +kernel
theorem dX10_number_55 : decode cX10_number 55 = .ok (.getfield 191, 3) := by decide +kernel
theorem dX10_number_58 : decode cX10_number 58 = .ok (.iconst 1, 1) := by decide +kernel
theorem dX10_number_59 : decode cX10_number 59 = .ok (.iadd, 1) := by decide +kernel
theorem dX10_number_60 : decode cX10_number 60 = .ok (.putfield 191, 3) := by decide +kernel
theorem dX10_number_63 : decode cX10_number 63 = .ok (.iinc 4 1, 3) := by decide +kernel
theorem dX10_number_66 : decode cX10_number 66 = .ok (.goto (-55), 3) := by decide +kernel
theorem dX10_number_69 : decode cX10_number 69 = .ok (.aload_n 0, 1) := by decide +kernel
theorem dX10_number_70 : decode cX10_number 70 = .ok (.aload_n 0, 1) := by decide +kernel
theorem dX10_number_71 : decode cX10_number 71 = .ok (.getfield 200, 3) := by decide +kernel
theorem dX10_number_74 : decode cX10_number 74 = .ok (.ifCond .ne 8, 3) := by decide +kernel
theorem dX10_number_77 : decode cX10_number 77 = .ok (.iload 4, 2) := by decide +kernel
theorem dX10_number_79 : decode cX10_number 79 = .ok (.ifCond .ne 7, 3) := by decide +kernel
theorem dX10_number_82 : decode cX10_number 82 = .ok (.iconst 1, 1) := by decide +kernel
theorem dX10_number_83 : decode cX10_number 83 = .ok (.goto 4, 3) := by decide +kernel
theorem dX10_number_86 : decode cX10_number 86 = .ok (.iconst 0, 1) := by decide +kernel
theorem dX10_number_87 : decode cX10_number 87 = .ok (.putfield 200, 3) := by decide +kernel
theorem dX10_number_90 : decode cX10_number 90 = .ok (.aload_n 0, 1) := by decide +kernel
theorem dX10_number_91 : decode cX10_number 91 = .ok (.getfield 25, 3) := by decide +kernel
theorem dX10_number_94 : decode cX10_number 94 = .ok (.iconst 4, 1) := by decide +kernel
theorem dX10_number_95 : decode cX10_number 95 = .ok (.aload_n 0, 1) := by decide +kernel
theorem dX10_number_96 : decode cX10_number 96 = .ok (.getfield 213, 3) := by decide +kernel
theorem dX10_number_99 : decode cX10_number 99 = .ok (.imul, 1) := by decide +kernel
theorem dX10_number_100 : decode cX10_number 100 = .ok (.iload_n 1, 1) := by decide +kernel
theorem dX10_number_101 : decode cX10_number 101 = .ok (.iadd, 1) := by decide +kernel
theorem dX10_number_102 : decode cX10_number 102 = .ok (.iload_n 3, 1) := by decide +kernel
theorem dX10_number_103 : decode cX10_number 103 = .ok (.iastore, 1) := by decide +kernel
theorem dX10_number_104 : decode cX10_number 104 = .ok (.return_, 1) := by decide +kernel
theorem dX10_one_0 : decode cX10_one 0 = .ok (.aload_n 0, 1) := by decide +kernel
theorem dX10_one_1 : decode cX10_one 1 = .ok (.getfield 25, 3) := by decide +kernel
theorem dX10_one_4 : decode cX10_one 4 = .ok (.iconst 4, 1) := by decide +kernel
theorem dX10_one_5 : decode cX10_one 5 = .ok (.aload_n 0, 1) := by decide +kernel
theorem dX10_one_6 : decode cX10_one 6 = .ok (.getfield 213, 3) := by decide +kernel
theorem dX10_one_9 : decode cX10_one 9 = .ok (.imul, 1) := by decide +kernel
theorem dX10_one_10 : decode cX10_one 10 = .ok (.iload_n 1, 1) := by decide +kernel
theorem dX10_one_11 : decode cX10_one 11 = .ok (.iastore, 1) := by decide +kernel
theorem dX10_one_12 : decode cX10_one 12 = .ok (.aload_n 0, 1) := by decide +kernel
theorem dX10_one_13 : decode cX10_one 13 = .ok (.aload_n 2, 1) := by decide +kernel
theorem dX10_one_14 : decode cX10_one 14 = .ok (.invokevirtual 209, 3) := by decide +kernel
theorem dX10_one_17 : decode cX10_one 17 = .ok (.aload_n 0, 1) := by decide +kernel
theorem dX10_one_18 : decode cX10_one 18 = .ok (.iconst 1, 1) := by decide +kernel
theorem dX10_one_19 : decode cX10_one 19 = .ok (.iload_n 3, 1) := by decide +kernel
theorem dX10_one_20 : decode cX10_one 20 = .ok (.invokevirtual 216, 3) := by decide +kernel
theorem dX10_one_23 : decode cX10_one 23 = .ok (.iload 4, 2) := by decide +kernel
theorem dX10_one_25 : decode cX10_one 25 = .ok (.ifCond .le 10, 3) := by decide +kernel
theorem dX10_one_28 : decode cX10_one 28 = .ok (.aload_n 0, 1) := by decide +kernel
theorem dX10_one_29 : decode cX10_one 29 = .ok (.iconst 2, 1) := by decide +kernel
theorem dX10_one_30 : decode cX10_one 30 = .ok (.iload 4, 2) := by decide +kernel
theorem dX10_one_32 : decode cX10_one 32 = .ok (.invokevirtual 216, 3) := by decide +kernel
theorem dX10_one_35 : decode cX10_one 35 = .ok (.return_, 1) := by decide +kernel
theorem dX10_readsOne_0 : decode cX10_readsOne 0 = .ok (.aload_n 0, 1) := by decide +kernel
theorem dX10_readsOne_1 : decode cX10_readsOne 1 = .ok (.iconst 0, 1) := by decide +kernel
theorem dX10_readsOne_2 : decode cX10_readsOne 2 = .ok (.invokevirtual 204, 3) := by decide +kernel
theorem dX10_readsOne_5 : decode cX10_readsOne 5 = .ok (.tableswitch 157 104 115 #[131, 157, 157, 157, 105, 157, 157, 118, 157, 157, 144, 63], 63) := by decide +kernel
theorem dX10_readsOne_68 : decode cX10_readsOne 68 = .ok (.aload_n 0, 1) := by decide +kernel
theorem dX10_readsOne_69 : decode cX10_readsOne 69 = .ok (.iconst 1, 1) := by decide +kernel
theorem dX10_readsOne_70 : decode cX10_readsOne 70 = .ok (.invokevirtual 204, 3) := by decide +kernel
theorem dX10_readsOne_73 : decode cX10_readsOne 73 = .ok (.bipush 104, 2) := by decide +kernel
theorem dX10_readsOne_75 : decode cX10_readsOne 75 = .ok (.if_icmp .ne 16, 3) := by decide +kernel
theorem dX10_readsOne_78 : decode cX10_readsOne 78 = .ok (.aload_n 0, 1) := by decide +kernel
theorem dX10_readsOne_79 : decode cX10_readsOne 79 = .ok (.bipush 103, 2) := by decide +kernel
theorem dX10_readsOne_81 : decode cX10_readsOne 81 = .ok (.ldc 220, 2) := by decide +kernel
theorem dX10_readsOne_83 : decode cX10_readsOne 83 = .ok (.iconst 1, 1) := by decide +kernel
theorem dX10_readsOne_84 : decode cX10_readsOne 84 = .ok (.iconst 1, 1) := by decide +kernel
theorem dX10_readsOne_85 : decode cX10_readsOne 85 = .ok (.invokevirtual 222, 3) := by decide +kernel
theorem dX10_readsOne_88 : decode cX10_readsOne 88 = .ok (.goto 13, 3) := by decide +kernel
theorem dX10_readsOne_91 : decode cX10_readsOne 91 = .ok (.aload_n 0, 1) := by decide +kernel
theorem dX10_readsOne_92 : decode cX10_readsOne 92 = .ok (.bipush 115, 2) := by decide +kernel
theorem dX10_readsOne_94 : decode cX10_readsOne 94 = .ok (.ldc 226, 2) := by decide +kernel
theorem dX10_readsOne_96 : decode cX10_readsOne 96 = .ok (.iconst 1, 1) := by decide +kernel
theorem dX10_readsOne_97 : decode cX10_readsOne 97 = .ok (.iconst 1, 1) := by decide +kernel
theorem dX10_readsOne_98 : decode cX10_readsOne 98 = .ok (.invokevirtual 222, 3) := by decide +kernel
theorem dX10_readsOne_101 : decode cX10_readsOne 101 = .ok (.aload_n 0, 1) := by decide +kernel
theorem dX10_readsOne_102 : decode cX10_readsOne 102 = .ok (.iconst 3, 1) := by decide +kernel
theorem dX10_readsOne_103 : decode cX10_readsOne 103 = .ok (.iconst 3, 1) := by decide +kernel
theorem dX10_readsOne_104 : decode cX10_readsOne 104 = .ok (.invokevirtual 216, 3) := by decide +kernel
theorem dX10_readsOne_107 : decode cX10_readsOne 107 = .ok (.goto 60, 3) := by decide +kernel
theorem dX10_readsOne_110 : decode cX10_readsOne 110 = .ok (.aload_n 0, 1) := by decide +kernel
theorem dX10_readsOne_111 : decode cX10_readsOne 111 = .ok (.bipush 108, 2) := by decide +kernel
theorem dX10_readsOne_113 : decode cX10_readsOne 113 = .ok (.ldc 228, 2) := by decide +kernel
theorem dX10_readsOne_115 : decode cX10_readsOne 115 = .ok (.iconst 2, 1) := by decide +kernel
theorem dX10_readsOne_116 : decode cX10_readsOne 116 = .ok (.iconst 1, 1) := by decide +kernel
theorem dX10_readsOne_117 : decode cX10_readsOne 117 = .ok (.invokevirtual 222, 3) := by decide +kernel
theorem dX10_readsOne_120 : decode cX10_readsOne 120 = .ok (.goto 47, 3) := by decide +kernel
theorem dX10_readsOne_123 : decode cX10_readsOne 123 = .ok (.aload_n 0, 1) := by decide +kernel
theorem dX10_readsOne_124 : decode cX10_readsOne 124 = .ok (.bipush 111, 2) := by decide +kernel
theorem dX10_readsOne_126 : decode cX10_readsOne 126 = .ok (.ldc 230, 2) := by decide +kernel
theorem dX10_readsOne_128 : decode cX10_readsOne 128 = .ok (.iconst 2, 1) := by decide +kernel
theorem dX10_readsOne_129 : decode cX10_readsOne 129 = .ok (.iconst 0, 1) := by decide +kernel
theorem dX10_readsOne_130 : decode cX10_readsOne 130 = .ok (.invokevirtual 222, 3) := by decide +kernel
theorem dX10_readsOne_133 : decode cX10_readsOne 133 = .ok (.goto 34, 3) := by decide +kernel
theorem dX10_readsOne_136 : decode cX10_readsOne 136 = .ok (.aload_n 0, 1) := by decide +kernel
theorem dX10_readsOne_137 : decode cX10_readsOne 137 = .ok (.bipush 104, 2) := by decide +kernel
theorem dX10_readsOne_139 : decode cX10_readsOne 139 = .ok (.ldc 231, 2) := by decide +kernel
theorem dX10_readsOne_141 : decode cX10_readsOne 141 = .ok (.iconst 1, 1) := by decide +kernel
theorem dX10_readsOne_142 : decode cX10_readsOne 142 = .ok (.iconst 2, 1) := by decide +kernel
theorem dX10_readsOne_143 : decode cX10_readsOne 143 = .ok (.invokevirtual 222, 3) := by decide +kernel
theorem dX10_readsOne_146 : decode cX10_readsOne 146 = .ok (.goto 21, 3) := by decide +kernel
theorem dX10_readsOne_149 : decode cX10_readsOne 149 = .ok (.aload_n 0, 1) := by decide +kernel
theorem dX10_readsOne_150 : decode cX10_readsOne 150 = .ok (.bipush 114, 2) := by decide +kernel
theorem dX10_readsOne_152 : decode cX10_readsOne 152 = .ok (.ldc 233, 2) := by decide +kernel
theorem dX10_readsOne_154 : decode cX10_readsOne 154 = .ok (.iconst 1, 1) := by decide +kernel
theorem dX10_readsOne_155 : decode cX10_readsOne 155 = .ok (.iconst 0, 1) := by decide +kernel
theorem dX10_readsOne_156 : decode cX10_readsOne 156 = .ok (.invokevirtual 222, 3) := by decide +kernel
theorem dX10_readsOne_159 : decode cX10_readsOne 159 = .ok (.goto 8, 3) := by decide +kernel
theorem dX10_readsOne_162 : decode cX10_readsOne 162 = .ok (.aload_n 0, 1) := by decide +kernel
theorem dX10_readsOne_163 : decode cX10_readsOne 163 = .ok (.iconst 1, 1) := by decide +kernel
theorem dX10_readsOne_164 : decode cX10_readsOne 164 = .ok (.putfield 200, 3) := by decide +kernel
theorem dX10_readsOne_167 : decode cX10_readsOne 167 = .ok (.aload_n 0, 1) := by decide +kernel
theorem dX10_readsOne_168 : decode cX10_readsOne 168 = .ok (.dup, 1) := by decide +kernel
theorem dX10_readsOne_169 : decode cX10_readsOne 169 = .ok (.getfield 213, 3) := by decide +kernel
theorem dX10_readsOne_172 : decode cX10_readsOne 172 = .ok (.iconst 1, 1) := by decide +kernel
theorem dX10_readsOne_173 : decode cX10_readsOne 173 = .ok (.iadd, 1) := by decide +kernel
theorem dX10_readsOne_174 : decode cX10_readsOne 174 = .ok (.putfield 213, 3) := by decide +kernel
theorem dX10_readsOne_177 : decode cX10_readsOne 177 = .ok (.return_, 1) := by decide +kernel
theorem dX10_does_0 : decode cX10_does 0 = .ok (.aload_n 0, 1) := by decide +kernel
theorem dX10_does_1 : decode cX10_does 1 = .ok (.getfield 25, 3) := by decide +kernel
theorem dX10_does_4 : decode cX10_does 4 = .ok (.iconst 4, 1) := by decide +kernel
theorem dX10_does_5 : decode cX10_does 5 = .ok (.iload_n 1, 1) := by decide +kernel
theorem dX10_does_6 : decode cX10_does 6 = .ok (.imul, 1) := by decide +kernel
theorem dX10_does_7 : decode cX10_does 7 = .ok (.iconst 1, 1) := by decide +kernel
theorem dX10_does_8 : decode cX10_does 8 = .ok (.iadd, 1) := by decide +kernel
theorem dX10_does_9 : decode cX10_does 9 = .ok (.iaload, 1) := by decide +kernel
theorem dX10_does_10 : decode cX10_does 10 = .ok (.istore_n 2, 1) := by decide +kernel
theorem dX10_does_11 : decode cX10_does 11 = .ok (.aload_n 0, 1) := by decide +kernel
theorem dX10_does_12 : decode cX10_does 12 = .ok (.getfield 25, 3) := by decide +kernel
theorem dX10_does_15 : decode cX10_does 15 = .ok (.iconst 4, 1) := by decide +kernel
theorem dX10_does_16 : decode cX10_does 16 = .ok (.iload_n 1, 1) := by decide +kernel
theorem dX10_does_17 : decode cX10_does 17 = .ok (.imul, 1) := by decide +kernel
theorem dX10_does_18 : decode cX10_does 18 = .ok (.iconst 2, 1) := by decide +kernel
theorem dX10_does_19 : decode cX10_does 19 = .ok (.iadd, 1) := by decide +kernel
theorem dX10_does_20 : decode cX10_does 20 = .ok (.iaload, 1) := by decide +kernel
theorem dX10_does_21 : decode cX10_does 21 = .ok (.istore_n 3, 1) := by decide +kernel
theorem dX10_does_22 : decode cX10_does 22 = .ok (.aload_n 0, 1) := by decide +kernel
theorem dX10_does_23 : decode cX10_does 23 = .ok (.getfield 25, 3) := by decide +kernel
theorem dX10_does_26 : decode cX10_does 26 = .ok (.iconst 4, 1) := by decide +kernel
theorem dX10_does_27 : decode cX10_does 27 = .ok (.iload_n 1, 1) := by decide +kernel
theorem dX10_does_28 : decode cX10_does 28 = .ok (.imul, 1) := by decide +kernel
theorem dX10_does_29 : decode cX10_does 29 = .ok (.iaload, 1) := by decide +kernel
theorem dX10_does_30 : decode cX10_does 30 = .ok (.tableswitch 124 103 115 #[84, 115, 124, 124, 124, 102, 124, 124, 109, 124, 124, 124, 66], 66) := by decide +kernel
theorem dX10_does_96 : decode cX10_does 96 = .ok (.aload_n 0, 1) := by decide +kernel
theorem dX10_does_97 : decode cX10_does 97 = .ok (.iload_n 2, 1) := by decide +kernel
theorem dX10_does_98 : decode cX10_does 98 = .ok (.iconst 1, 1) := by decide +kernel
theorem dX10_does_99 : decode cX10_does 99 = .ok (.iload_n 3, 1) := by decide +kernel
theorem dX10_does_100 : decode cX10_does 100 = .ok (.aload_n 0, 1) := by decide +kernel
theorem dX10_does_101 : decode cX10_does 101 = .ok (.getfield 25, 3) := by decide +kernel
theorem dX10_does_104 : decode cX10_does 104 = .ok (.iconst 4, 1) := by decide +kernel
theorem dX10_does_105 : decode cX10_does 105 = .ok (.iload_n 1, 1) := by decide +kernel
theorem dX10_does_106 : decode cX10_does 106 = .ok (.imul, 1) := by decide +kernel
theorem dX10_does_107 : decode cX10_does 107 = .ok (.iconst 3, 1) := by decide +kernel
theorem dX10_does_108 : decode cX10_does 108 = .ok (.iadd, 1) := by decide +kernel
theorem dX10_does_109 : decode cX10_does 109 = .ok (.iaload, 1) := by decide +kernel
theorem dX10_does_110 : decode cX10_does 110 = .ok (.invokevirtual 140, 3) := by decide +kernel
theorem dX10_does_113 : decode cX10_does 113 = .ok (.ireturn, 1) := by decide +kernel
theorem dX10_does_114 : decode cX10_does 114 = .ok (.aload_n 0, 1) := by decide +kernel
theorem dX10_does_115 : decode cX10_does 115 = .ok (.iload_n 2, 1) := by decide +kernel
theorem dX10_does_116 : decode cX10_does 116 = .ok (.iconst 0, 1) := by decide +kernel
theorem dX10_does_117 : decode cX10_does 117 = .ok (.iload_n 3, 1) := by decide +kernel
theorem dX10_does_118 : decode cX10_does 118 = .ok (.aload_n 0, 1) := by decide +kernel
theorem dX10_does_119 : decode cX10_does 119 = .ok (.getfield 25, 3) := by decide +kernel
theorem dX10_does_122 : decode cX10_does 122 = .ok (.iconst 4, 1) := by decide +kernel
theorem dX10_does_123 : decode cX10_does 123 = .ok (.iload_n 1, 1) := by decide +kernel
theorem dX10_does_124 : decode cX10_does 124 = .ok (.imul, 1) := by decide +kernel
theorem dX10_does_125 : decode cX10_does 125 = .ok (.iconst 3, 1) := by decide +kernel
theorem dX10_does_126 : decode cX10_does 126 = .ok (.iadd, 1) := by decide +kernel
theorem dX10_does_127 : decode cX10_does 127 = .ok (.iaload, 1) := by decide +kernel
theorem dX10_does_128 : decode cX10_does 128 = .ok (.invokevirtual 140, 3) := by decide +kernel
theorem dX10_does_131 : decode cX10_does 131 = .ok (.ireturn, 1) := by decide +kernel
theorem dX10_does_132 : decode cX10_does 132 = .ok (.aload_n 0, 1) := by decide +kernel
theorem dX10_does_133 : decode cX10_does 133 = .ok (.iload_n 2, 1) := by decide +kernel
theorem dX10_does_134 : decode cX10_does 134 = .ok (.iload_n 3, 1) := by decide +kernel
theorem dX10_does_135 : decode cX10_does 135 = .ok (.invokevirtual 147, 3) := by decide +kernel
theorem dX10_does_138 : decode cX10_does 138 = .ok (.ireturn, 1) := by decide +kernel
theorem dX10_does_139 : decode cX10_does 139 = .ok (.aload_n 0, 1) := by decide +kernel
theorem dX10_does_140 : decode cX10_does 140 = .ok (.iload_n 2, 1) := by decide +kernel
theorem dX10_does_141 : decode cX10_does 141 = .ok (.invokevirtual 150, 3) := by decide +kernel
theorem dX10_does_144 : decode cX10_does 144 = .ok (.ireturn, 1) := by decide +kernel
theorem dX10_does_145 : decode cX10_does 145 = .ok (.aload_n 0, 1) := by decide +kernel
theorem dX10_does_146 : decode cX10_does 146 = .ok (.iload_n 2, 1) := by decide +kernel
theorem dX10_does_147 : decode cX10_does 147 = .ok (.iconst 2, 1) := by decide +kernel
theorem dX10_does_148 : decode cX10_does 148 = .ok (.iload_n 3, 1) := by decide +kernel
theorem dX10_does_149 : decode cX10_does 149 = .ok (.imul, 1) := by decide +kernel
theorem dX10_does_150 : decode cX10_does 150 = .ok (.invokevirtual 153, 3) := by decide +kernel
theorem dX10_does_153 : decode cX10_does 153 = .ok (.ireturn, 1) := by decide +kernel
theorem dX10_does_154 : decode cX10_does 154 = .ok (.aload_n 0, 1) := by decide +kernel
theorem dX10_does_155 : decode cX10_does 155 = .ok (.iload_n 2, 1) := by decide +kernel
theorem dX10_does_156 : decode cX10_does 156 = .ok (.invokevirtual 156, 3) := by decide +kernel
theorem dX10_does_159 : decode cX10_does 159 = .ok (.ireturn, 1) := by decide +kernel
theorem dX10_runCommands_0 : decode cX10_runCommands 0 = .ok (.aload_n 0, 1) := by decide +kernel
theorem dX10_runCommands_1 : decode cX10_runCommands 1 = .ok (.invokevirtual 137, 3) := by decide +kernel
theorem dX10_runCommands_4 : decode cX10_runCommands 4 = .ok (.aload_n 0, 1) := by decide +kernel
theorem dX10_runCommands_5 : decode cX10_runCommands 5 = .ok (.iconst 0, 1) := by decide +kernel
theorem dX10_runCommands_6 : decode cX10_runCommands 6 = .ok (.putfield 191, 3) := by decide +kernel
theorem dX10_runCommands_9 : decode cX10_runCommands 9 = .ok (.aload_n 0, 1) := by decide +kernel
theorem dX10_runCommands_10 : decode cX10_runCommands 10 = .ok (.aload_n 0, 1) := by decide +kernel
theorem dX10_runCommands_11 : decode cX10_runCommands 11 = .ok (.getfield 188, 3) := by decide +kernel
theorem dX10_runCommands_14 : decode cX10_runCommands 14 = .ok (.putfield 194, 3) := by decide +kernel
theorem dX10_runCommands_17 : decode cX10_runCommands 17 = .ok (.aload_n 0, 1) := by decide +kernel
theorem dX10_runCommands_18 : decode cX10_runCommands 18 = .ok (.iconst 0, 1) := by decide +kernel
theorem dX10_runCommands_19 : decode cX10_runCommands 19 = .ok (.putfield 188, 3) := by decide +kernel
theorem dX10_runCommands_22 : decode cX10_runCommands 22 = .ok (.aload_n 0, 1) := by decide +kernel
theorem dX10_runCommands_23 : decode cX10_runCommands 23 = .ok (.iconst 0, 1) := by decide +kernel
theorem dX10_runCommands_24 : decode cX10_runCommands 24 = .ok (.putfield 213, 3) := by decide +kernel
theorem dX10_runCommands_27 : decode cX10_runCommands 27 = .ok (.aload_n 0, 1) := by decide +kernel
theorem dX10_runCommands_28 : decode cX10_runCommands 28 = .ok (.iconst 0, 1) := by decide +kernel
theorem dX10_runCommands_29 : decode cX10_runCommands 29 = .ok (.putfield 200, 3) := by decide +kernel
theorem dX10_runCommands_32 : decode cX10_runCommands 32 = .ok (.aload_n 0, 1) := by decide +kernel
theorem dX10_runCommands_33 : decode cX10_runCommands 33 = .ok (.invokevirtual 235, 3) := by decide +kernel
theorem dX10_runCommands_36 : decode cX10_runCommands 36 = .ok (.aload_n 0, 1) := by decide +kernel
theorem dX10_runCommands_37 : decode cX10_runCommands 37 = .ok (.getfield 200, 3) := by decide +kernel
theorem dX10_runCommands_40 : decode cX10_runCommands 40 = .ok (.ifCond .ne 30, 3) := by decide +kernel
theorem dX10_runCommands_43 : decode cX10_runCommands 43 = .ok (.aload_n 0, 1) := by decide +kernel
theorem dX10_runCommands_44 : decode cX10_runCommands 44 = .ok (.iconst 0, 1) := by decide +kernel
theorem dX10_runCommands_45 : decode cX10_runCommands 45 = .ok (.invokevirtual 204, 3) := by decide +kernel
theorem dX10_runCommands_48 : decode cX10_runCommands 48 = .ok (.bipush 59, 2) := by decide +kernel
theorem dX10_runCommands_50 : decode cX10_runCommands 50 = .ok (.if_icmp .ne 20, 3) := by decide +kernel
theorem dX10_runCommands_53 : decode cX10_runCommands 53 = .ok (.aload_n 0, 1) := by decide +kernel
theorem dX10_runCommands_54 : decode cX10_runCommands 54 = .ok (.dup, 1) := by decide +kernel
theorem dX10_runCommands_55 : decode cX10_runCommands 55 = .ok (.getfield 191, 3) := by decide +kernel
theorem dX10_runCommands_58 : decode cX10_runCommands 58 = .ok (.iconst 1, 1) := by decide +kernel
theorem dX10_runCommands_59 : decode cX10_runCommands 59 = .ok (.iadd, 1) := by decide +kernel
theorem dX10_runCommands_60 : decode cX10_runCommands 60 = .ok (.putfield 191, 3) := by decide +kernel
theorem dX10_runCommands_63 : decode cX10_runCommands 63 = .ok (.aload_n 0, 1) := by decide +kernel
theorem dX10_runCommands_64 : decode cX10_runCommands 64 = .ok (.invokevirtual 235, 3) := by decide +kernel
theorem dX10_runCommands_67 : decode cX10_runCommands 67 = .ok (.goto (-31), 3) := by decide +kernel
theorem dX10_runCommands_70 : decode cX10_runCommands 70 = .ok (.aload_n 0, 1) := by decide +kernel
theorem dX10_runCommands_71 : decode cX10_runCommands 71 = .ok (.getfield 200, 3) := by decide +kernel
theorem dX10_runCommands_74 : decode cX10_runCommands 74 = .ok (.ifCond .ne 14, 3) := by decide +kernel
theorem dX10_runCommands_77 : decode cX10_runCommands 77 = .ok (.aload_n 0, 1) := by decide +kernel
theorem dX10_runCommands_78 : decode cX10_runCommands 78 = .ok (.getfield 191, 3) := by decide +kernel
theorem dX10_runCommands_81 : decode cX10_runCommands 81 = .ok (.aload_n 0, 1) := by decide +kernel
theorem dX10_runCommands_82 : decode cX10_runCommands 82 = .ok (.getfield 194, 3) := by decide +kernel
theorem dX10_runCommands_85 : decode cX10_runCommands 85 = .ok (.if_icmp .ge 17, 3) := by decide +kernel
theorem dX10_runCommands_88 : decode cX10_runCommands 88 = .ok (.aload_n 0, 1) := by decide +kernel
theorem dX10_runCommands_89 : decode cX10_runCommands 89 = .ok (.aload_n 0, 1) := by decide +kernel
theorem dX10_runCommands_90 : decode cX10_runCommands 90 = .ok (.getfield 191, 3) := by decide +kernel
theorem dX10_runCommands_93 : decode cX10_runCommands 93 = .ok (.putfield 34, 3) := by decide +kernel
theorem dX10_runCommands_96 : decode cX10_runCommands 96 = .ok (.aload_n 0, 1) := by decide +kernel
theorem dX10_runCommands_97 : decode cX10_runCommands 97 = .ok (.iconst 1, 1) := by decide +kernel
theorem dX10_runCommands_98 : decode cX10_runCommands 98 = .ok (.invokevirtual 54, 3) := by decide +kernel
theorem dX10_runCommands_101 : decode cX10_runCommands 101 = .ok (.ireturn, 1) := by decide +kernel
theorem dX10_runCommands_102 : decode cX10_runCommands 102 = .ok (.iconst 0, 1) := by decide +kernel
theorem dX10_runCommands_103 : decode cX10_runCommands 103 = .ok (.istore_n 1, 1) := by decide +kernel
theorem dX10_runCommands_104 : decode cX10_runCommands 104 = .ok (.iload_n 1, 1) := by decide +kernel
theorem dX10_runCommands_105 : decode cX10_runCommands 105 = .ok (.aload_n 0, 1) := by decide +kernel
theorem dX10_runCommands_106 : decode cX10_runCommands 106 = .ok (.getfield 213, 3) := by decide +kernel
theorem dX10_runCommands_109 : decode cX10_runCommands 109 = .ok (.if_icmp .ge 57, 3) := by decide +kernel
theorem dX10_runCommands_112 : decode cX10_runCommands 112 = .ok (.aload_n 0, 1) := by decide +kernel
theorem dX10_runCommands_113 : decode cX10_runCommands 113 = .ok (.iload_n 1, 1) := by decide +kernel
theorem dX10_runCommands_114 : decode cX10_runCommands 114 = .ok (.invokevirtual 238, 3) := by decide +kernel
theorem dX10_runCommands_117 : decode cX10_runCommands 117 = .ok (.ifCond .ne 6, 3) := by decide +kernel
theorem dX10_runCommands_120 : decode cX10_runCommands 120 = .ok (.goto 40, 3) := by decide +kernel
theorem dX10_runCommands_123 : decode cX10_runCommands 123 = .ok (.iconst 0, 1) := by decide +kernel
theorem dX10_runCommands_124 : decode cX10_runCommands 124 = .ok (.istore_n 2, 1) := by decide +kernel
theorem dX10_runCommands_125 : decode cX10_runCommands 125 = .ok (.iload_n 2, 1) := by decide +kernel
theorem dX10_runCommands_126 : decode cX10_runCommands 126 = .ok (.bipush 104, 2) := by decide +kernel
theorem dX10_runCommands_128 : decode cX10_runCommands 128 = .ok (.if_icmp .ge 21, 3) := by decide +kernel
theorem dX10_runCommands_131 : decode cX10_runCommands 131 = .ok (.aload_n 0, 1) := by decide +kernel
theorem dX10_runCommands_132 : decode cX10_runCommands 132 = .ok (.getfield 7, 3) := by decide +kernel
theorem dX10_runCommands_135 : decode cX10_runCommands 135 = .ok (.iload_n 2, 1) := by decide +kernel
theorem dX10_runCommands_136 : decode cX10_runCommands 136 = .ok (.aload_n 0, 1) := by decide +kernel
theorem dX10_runCommands_137 : decode cX10_runCommands 137 = .ok (.getfield 13, 3) := by decide +kernel
theorem dX10_runCommands_140 : decode cX10_runCommands 140 = .ok (.iload_n 2, 1) := by decide +kernel
theorem dX10_runCommands_141 : decode cX10_runCommands 141 = .ok (.iaload, 1) := by decide +kernel
theorem dX10_runCommands_142 : decode cX10_runCommands 142 = .ok (.iastore, 1) := by decide +kernel
theorem dX10_runCommands_143 : decode cX10_runCommands 143 = .ok (.iinc 2 1, 3) := by decide +kernel
theorem dX10_runCommands_146 : decode cX10_runCommands 146 = .ok (.goto (-21), 3) := by decide +kernel
theorem dX10_runCommands_149 : decode cX10_runCommands 149 = .ok (.aload_n 0, 1) := by decide +kernel
theorem dX10_runCommands_150 : decode cX10_runCommands 150 = .ok (.iload_n 1, 1) := by decide +kernel
theorem dX10_runCommands_151 : decode cX10_runCommands 151 = .ok (.putfield 38, 3) := by decide +kernel
theorem dX10_runCommands_154 : decode cX10_runCommands 154 = .ok (.aload_n 0, 1) := by decide +kernel
theorem dX10_runCommands_155 : decode cX10_runCommands 155 = .ok (.iconst 2, 1) := by decide +kernel
theorem dX10_runCommands_156 : decode cX10_runCommands 156 = .ok (.invokevirtual 54, 3) := by decide +kernel
theorem dX10_runCommands_159 : decode cX10_runCommands 159 = .ok (.ireturn, 1) := by decide +kernel
theorem dX10_runCommands_160 : decode cX10_runCommands 160 = .ok (.iinc 1 1, 3) := by decide +kernel
theorem dX10_runCommands_163 : decode cX10_runCommands 163 = .ok (.goto (-59), 3) := by decide +kernel
theorem dX10_runCommands_166 : decode cX10_runCommands 166 = .ok (.aload_n 0, 1) := by decide +kernel
theorem dX10_runCommands_167 : decode cX10_runCommands 167 = .ok (.aload_n 0, 1) := by decide +kernel
theorem dX10_runCommands_168 : decode cX10_runCommands 168 = .ok (.getfield 213, 3) := by decide +kernel
theorem dX10_runCommands_171 : decode cX10_runCommands 171 = .ok (.invokevirtual 50, 3) := by decide +kernel
theorem dX10_runCommands_174 : decode cX10_runCommands 174 = .ok (.ireturn, 1) := by decide +kernel
theorem dX10_errorPosition_0 : decode cX10_errorPosition 0 = .ok (.aload_n 0, 1) := by decide +kernel
theorem dX10_errorPosition_1 : decode cX10_errorPosition 1 = .ok (.iconst 0, 1) := by decide +kernel
theorem dX10_errorPosition_2 : decode cX10_errorPosition 2 = .ok (.putfield 41, 3) := by decide +kernel
theorem dX10_errorPosition_5 : decode cX10_errorPosition 5 = .ok (.aload_n 0, 1) := by decide +kernel
theorem dX10_errorPosition_6 : decode cX10_errorPosition 6 = .ok (.getfield 34, 3) := by decide +kernel
theorem dX10_errorPosition_9 : decode cX10_errorPosition 9 = .ok (.iconst (-1), 1) := by decide +kernel
theorem dX10_errorPosition_10 : decode cX10_errorPosition 10 = .ok (.if_icmp .ne 11, 3) := by decide +kernel
theorem dX10_errorPosition_13 : decode cX10_errorPosition 13 = .ok (.aload_n 0, 1) := by decide +kernel
theorem dX10_errorPosition_14 : decode cX10_errorPosition 14 = .ok (.iconst 1, 1) := by decide +kernel
theorem dX10_errorPosition_15 : decode cX10_errorPosition 15 = .ok (.invokevirtual 54, 3) := by decide +kernel
theorem dX10_errorPosition_18 : decode cX10_errorPosition 18 = .ok (.goto 7, 3) := by decide +kernel
theorem dX10_errorPosition_21 : decode cX10_errorPosition 21 = .ok (.aload_n 0, 1) := by decide +kernel
theorem dX10_errorPosition_22 : decode cX10_errorPosition 22 = .ok (.getfield 34, 3) := by decide +kernel
theorem dX10_errorPosition_25 : decode cX10_errorPosition 25 = .ok (.ireturn, 1) := by decide +kernel
theorem dX10_failedCommand_0 : decode cX10_failedCommand 0 = .ok (.aload_n 0, 1) := by decide +kernel
theorem dX10_failedCommand_1 : decode cX10_failedCommand 1 = .ok (.iconst 0, 1) := by decide +kernel
theorem dX10_failedCommand_2 : decode cX10_failedCommand 2 = .ok (.putfield 41, 3) := by decide +kernel
theorem dX10_failedCommand_5 : decode cX10_failedCommand 5 = .ok (.aload_n 0, 1) := by decide +kernel
theorem dX10_failedCommand_6 : decode cX10_failedCommand 6 = .ok (.getfield 38, 3) := by decide +kernel
theorem dX10_failedCommand_9 : decode cX10_failedCommand 9 = .ok (.iconst (-1), 1) := by decide +kernel
theorem dX10_failedCommand_10 : decode cX10_failedCommand 10 = .ok (.if_icmp .ne 11, 3) := by decide +kernel
theorem dX10_failedCommand_13 : decode cX10_failedCommand 13 = .ok (.aload_n 0, 1) := by decide +kernel
theorem dX10_failedCommand_14 : decode cX10_failedCommand 14 = .ok (.iconst 1, 1) := by decide +kernel
theorem dX10_failedCommand_15 : decode cX10_failedCommand 15 = .ok (.invokevirtual 54, 3) := by decide +kernel
theorem dX10_failedCommand_18 : decode cX10_failedCommand 18 = .ok (.goto 7, 3) := by decide +kernel
theorem dX10_failedCommand_21 : decode cX10_failedCommand 21 = .ok (.aload_n 0, 1) := by decide +kernel
theorem dX10_failedCommand_22 : decode cX10_failedCommand 22 = .ok (.getfield 38, 3) := by decide +kernel
theorem dX10_failedCommand_25 : decode cX10_failedCommand 25 = .ok (.ireturn, 1) := by decide +kernel
theorem dX10_writes_0 : decode cX10_writes 0 = .ok (.aload_n 0, 1) := by decide +kernel
theorem dX10_writes_1 : decode cX10_writes 1 = .ok (.getfield 28, 3) := by decide +kernel
theorem dX10_writes_4 : decode cX10_writes 4 = .ok (.aload_n 0, 1) := by decide +kernel
theorem dX10_writes_5 : decode cX10_writes 5 = .ok (.getfield 241, 3) := by decide +kernel
theorem dX10_writes_8 : decode cX10_writes 8 = .ok (.iload_n 1, 1) := by decide +kernel
theorem dX10_writes_9 : decode cX10_writes 9 = .ok (.iastore, 1) := by decide +kernel
theorem dX10_writes_10 : decode cX10_writes 10 = .ok (.aload_n 0, 1) := by decide +kernel
theorem dX10_writes_11 : decode cX10_writes 11 = .ok (.dup, 1) := by decide +kernel
theorem dX10_writes_12 : decode cX10_writes 12 = .ok (.getfield 241, 3) := by decide +kernel
theorem dX10_writes_15 : decode cX10_writes 15 = .ok (.iconst 1, 1) := by decide +kernel
theorem dX10_writes_16 : decode cX10_writes 16 = .ok (.iadd, 1) := by decide +kernel
theorem dX10_writes_17 : decode cX10_writes 17 = .ok (.putfield 241, 3) := by decide +kernel
theorem dX10_writes_20 : decode cX10_writes 20 = .ok (.return_, 1) := by decide +kernel
theorem dX10_writeBag_0 : decode cX10_writeBag 0 = .ok (.aload_n 0, 1) := by decide +kernel
theorem dX10_writeBag_1 : decode cX10_writeBag 1 = .ok (.iload_n 1, 1) := by decide +kernel
theorem dX10_writeBag_2 : decode cX10_writeBag 2 = .ok (.invokestatic 109, 3) := by decide +kernel
theorem dX10_writeBag_5 : decode cX10_writeBag 5 = .ok (.ifCond .eq 7, 3) := by decide +kernel
theorem dX10_writeBag_8 : decode cX10_writeBag 8 = .ok (.iconst 0, 1) := by decide +kernel
theorem dX10_writeBag_9 : decode cX10_writeBag 9 = .ok (.goto 4, 3) := by decide +kernel
theorem dX10_writeBag_12 : decode cX10_writeBag 12 = .ok (.iconst 1, 1) := by decide +kernel
theorem dX10_writeBag_13 : decode cX10_writeBag 13 = .ok (.putfield 41, 3) := by decide +kernel
theorem dX10_writeBag_16 : decode cX10_writeBag 16 = .ok (.aload_n 0, 1) := by decide +kernel
theorem dX10_writeBag_17 : decode cX10_writeBag 17 = .ok (.getfield 41, 3) := by decide +kernel
theorem dX10_writeBag_20 : decode cX10_writeBag 20 = .ok (.ifCond .le 5, 3) := by decide +kernel
theorem dX10_writeBag_23 : decode cX10_writeBag 23 = .ok (.iconst 0, 1) := by decide +kernel
theorem dX10_writeBag_24 : decode cX10_writeBag 24 = .ok (.ireturn, 1) := by decide +kernel
theorem dX10_writeBag_25 : decode cX10_writeBag 25 = .ok (.aload_n 0, 1) := by decide +kernel
theorem dX10_writeBag_26 : decode cX10_writeBag 26 = .ok (.iconst 0, 1) := by decide +kernel
theorem dX10_writeBag_27 : decode cX10_writeBag 27 = .ok (.putfield 241, 3) := by decide +kernel
theorem dX10_writeBag_30 : decode cX10_writeBag 30 = .ok (.iconst 0, 1) := by decide +kernel
theorem dX10_writeBag_31 : decode cX10_writeBag 31 = .ok (.istore_n 2, 1) := by decide +kernel
theorem dX10_writeBag_32 : decode cX10_writeBag 32 = .ok (.iload_n 2, 1) := by decide +kernel
theorem dX10_writeBag_33 : decode cX10_writeBag 33 = .ok (.aload_n 0, 1) := by decide +kernel
theorem dX10_writeBag_34 : decode cX10_writeBag 34 = .ok (.getfield 7, 3) := by decide +kernel
theorem dX10_writeBag_37 : decode cX10_writeBag 37 = .ok (.iconst 0, 1) := by decide +kernel
theorem dX10_writeBag_38 : decode cX10_writeBag 38 = .ok (.iaload, 1) := by decide +kernel
theorem dX10_writeBag_39 : decode cX10_writeBag 39 = .ok (.if_icmp .ge 104, 3) := by decide +kernel
theorem dX10_writeBag_42 : decode cX10_writeBag 42 = .ok (.aload_n 0, 1) := by decide +kernel
theorem dX10_writeBag_43 : decode cX10_writeBag 43 = .ok (.iload_n 2, 1) := by decide +kernel
theorem dX10_writeBag_44 : decode cX10_writeBag 44 = .ok (.iconst 4, 1) := by decide +kernel
theorem dX10_writeBag_45 : decode cX10_writeBag 45 = .ok (.invokevirtual 61, 3) := by decide +kernel
theorem dX10_writeBag_48 : decode cX10_writeBag 48 = .ok (.ifCond .ne 89, 3) := by decide +kernel
theorem dX10_writeBag_51 : decode cX10_writeBag 51 = .ok (.aload_n 0, 1) := by decide +kernel
theorem dX10_writeBag_52 : decode cX10_writeBag 52 = .ok (.iload_n 2, 1) := by decide +kernel
theorem dX10_writeBag_53 : decode cX10_writeBag 53 = .ok (.iconst 0, 1) := by decide +kernel
theorem dX10_writeBag_54 : decode cX10_writeBag 54 = .ok (.invokevirtual 61, 3) := by decide +kernel
theorem dX10_writeBag_57 : decode cX10_writeBag 57 = .ok (.iload_n 1, 1) := by decide +kernel
theorem dX10_writeBag_58 : decode cX10_writeBag 58 = .ok (.if_icmp .eq 6, 3) := by decide +kernel
theorem dX10_writeBag_61 : decode cX10_writeBag 61 = .ok (.goto 76, 3) := by decide +kernel
theorem dX10_writeBag_64 : decode cX10_writeBag 64 = .ok (.aload_n 0, 1) := by decide +kernel
theorem dX10_writeBag_65 : decode cX10_writeBag 65 = .ok (.getfield 241, 3) := by decide +kernel
theorem dX10_writeBag_68 : decode cX10_writeBag 68 = .ok (.ifCond .le 9, 3) := by decide +kernel
theorem dX10_writeBag_71 : decode cX10_writeBag 71 = .ok (.aload_n 0, 1) := by decide +kernel
theorem dX10_writeBag_72 : decode cX10_writeBag 72 = .ok (.bipush 32, 2) := by decide +kernel
theorem dX10_writeBag_74 : decode cX10_writeBag 74 = .ok (.invokevirtual 244, 3) := by decide +kernel
theorem dX10_writeBag_77 : decode cX10_writeBag 77 = .ok (.aload_n 0, 1) := by decide +kernel
theorem dX10_writeBag_78 : decode cX10_writeBag 78 = .ok (.aload_n 0, 1) := by decide +kernel
theorem dX10_writeBag_79 : decode cX10_writeBag 79 = .ok (.iload_n 2, 1) := by decide +kernel
theorem dX10_writeBag_80 : decode cX10_writeBag 80 = .ok (.iconst 1, 1) := by decide +kernel
theorem dX10_writeBag_81 : decode cX10_writeBag 81 = .ok (.invokevirtual 61, 3) := by decide +kernel
theorem dX10_writeBag_84 : decode cX10_writeBag 84 = .ok (.iconst 1, 1) := by decide +kernel
theorem dX10_writeBag_85 : decode cX10_writeBag 85 = .ok (.if_icmp .ne 8, 3) := by decide +kernel
theorem dX10_writeBag_88 : decode cX10_writeBag 88 = .ok (.bipush 115, 2) := by decide +kernel
theorem dX10_writeBag_90 : decode cX10_writeBag 90 = .ok (.goto 5, 3) := by decide +kernel
theorem dX10_writeBag_93 : decode cX10_writeBag 93 = .ok (.bipush 103, 2) := by decide +kernel
theorem dX10_writeBag_95 : decode cX10_writeBag 95 = .ok (.invokevirtual 244, 3) := by decide +kernel
theorem dX10_writeBag_98 : decode cX10_writeBag 98 = .ok (.aload_n 0, 1) := by decide +kernel
theorem dX10_writeBag_99 : decode cX10_writeBag 99 = .ok (.bipush 48, 2) := by decide +kernel
theorem dX10_writeBag_101 : decode cX10_writeBag 101 = .ok (.aload_n 0, 1) := by decide +kernel
theorem dX10_writeBag_102 : decode cX10_writeBag 102 = .ok (.iload_n 2, 1) := by decide +kernel
theorem dX10_writeBag_103 : decode cX10_writeBag 103 = .ok (.iconst 2, 1) := by decide +kernel
theorem dX10_writeBag_104 : decode cX10_writeBag 104 = .ok (.invokevirtual 61, 3) := by decide +kernel
theorem dX10_writeBag_107 : decode cX10_writeBag 107 = .ok (.iadd, 1) := by decide +kernel
theorem dX10_writeBag_108 : decode cX10_writeBag 108 = .ok (.invokevirtual 244, 3) := by decide +kernel
theorem dX10_writeBag_111 : decode cX10_writeBag 111 = .ok (.aload_n 0, 1) := by decide +kernel
theorem dX10_writeBag_112 : decode cX10_writeBag 112 = .ok (.iload_n 2, 1) := by decide +kernel
theorem dX10_writeBag_113 : decode cX10_writeBag 113 = .ok (.iconst 3, 1) := by decide +kernel
theorem dX10_writeBag_114 : decode cX10_writeBag 114 = .ok (.invokevirtual 61, 3) := by decide +kernel
theorem dX10_writeBag_117 : decode cX10_writeBag 117 = .ok (.invokestatic 88, 3) := by decide +kernel
theorem dX10_writeBag_120 : decode cX10_writeBag 120 = .ok (.istore_n 3, 1) := by decide +kernel
theorem dX10_writeBag_121 : decode cX10_writeBag 121 = .ok (.iload_n 3, 1) := by decide +kernel
theorem dX10_writeBag_122 : decode cX10_writeBag 122 = .ok (.ifCond .le 15, 3) := by decide +kernel
theorem dX10_writeBag_125 : decode cX10_writeBag 125 = .ok (.aload_n 0, 1) := by decide +kernel
theorem dX10_writeBag_126 : decode cX10_writeBag 126 = .ok (.bipush 42, 2) := by decide +kernel
theorem dX10_writeBag_128 : decode cX10_writeBag 128 = .ok (.invokevirtual 244, 3) := by decide +kernel
theorem dX10_writeBag_131 : decode cX10_writeBag 131 = .ok (.iinc 3 (-1), 3) := by decide +kernel
theorem dX10_writeBag_134 : decode cX10_writeBag 134 = .ok (.goto (-13), 3) := by decide +kernel
theorem dX10_writeBag_137 : decode cX10_writeBag 137 = .ok (.iinc 2 1, 3) := by decide +kernel
theorem dX10_writeBag_140 : decode cX10_writeBag 140 = .ok (.goto (-108), 3) := by decide +kernel
theorem dX10_writeBag_143 : decode cX10_writeBag 143 = .ok (.aload_n 0, 1) := by decide +kernel
theorem dX10_writeBag_144 : decode cX10_writeBag 144 = .ok (.getfield 241, 3) := by decide +kernel
theorem dX10_writeBag_147 : decode cX10_writeBag 147 = .ok (.ireturn, 1) := by decide +kernel
theorem dX10_outputChar_0 : decode cX10_outputChar 0 = .ok (.aload_n 0, 1) := by decide +kernel
theorem dX10_outputChar_1 : decode cX10_outputChar 1 = .ok (.iload_n 1, 1) := by decide +kernel
theorem dX10_outputChar_2 : decode cX10_outputChar 2 = .ok (.iconst 0, 1) := by decide +kernel
theorem dX10_outputChar_3 : decode cX10_outputChar 3 = .ok (.aload_n 0, 1) := by decide +kernel
theorem dX10_outputChar_4 : decode cX10_outputChar 4 = .ok (.getfield 241, 3) := by decide +kernel
theorem dX10_outputChar_7 : decode cX10_outputChar 7 = .ok (.iconst 1, 1) := by decide +kernel
theorem dX10_outputChar_8 : decode cX10_outputChar 8 = .ok (.isub, 1) := by decide +kernel
theorem dX10_outputChar_9 : decode cX10_outputChar 9 = .ok (.invokestatic 57, 3) := by decide +kernel
theorem dX10_outputChar_12 : decode cX10_outputChar 12 = .ok (.ifCond .eq 7, 3) := by decide +kernel
theorem dX10_outputChar_15 : decode cX10_outputChar 15 = .ok (.iconst 0, 1) := by decide +kernel
theorem dX10_outputChar_16 : decode cX10_outputChar 16 = .ok (.goto 4, 3) := by decide +kernel
theorem dX10_outputChar_19 : decode cX10_outputChar 19 = .ok (.iconst 1, 1) := by decide +kernel
theorem dX10_outputChar_20 : decode cX10_outputChar 20 = .ok (.putfield 41, 3) := by decide +kernel
theorem dX10_outputChar_23 : decode cX10_outputChar 23 = .ok (.aload_n 0, 1) := by decide +kernel
theorem dX10_outputChar_24 : decode cX10_outputChar 24 = .ok (.getfield 41, 3) := by decide +kernel
theorem dX10_outputChar_27 : decode cX10_outputChar 27 = .ok (.ifCond .le 7, 3) := by decide +kernel
theorem dX10_outputChar_30 : decode cX10_outputChar 30 = .ok (.iconst 0, 1) := by decide +kernel
theorem dX10_outputChar_31 : decode cX10_outputChar 31 = .ok (.goto 10, 3) := by decide +kernel
theorem dX10_outputChar_34 : decode cX10_outputChar 34 = .ok (.aload_n 0, 1) := by decide +kernel
theorem dX10_outputChar_35 : decode cX10_outputChar 35 = .ok (.getfield 28, 3) := by decide +kernel
theorem dX10_outputChar_38 : decode cX10_outputChar 38 = .ok (.iload_n 1, 1) := by decide +kernel
theorem dX10_outputChar_39 : decode cX10_outputChar 39 = .ok (.iaload, 1) := by decide +kernel
theorem dX10_outputChar_40 : decode cX10_outputChar 40 = .ok (.i2c, 1) := by decide +kernel
theorem dX10_outputChar_41 : decode cX10_outputChar 41 = .ok (.ireturn, 1) := by decide +kernel
theorem dX10_undoCount_0 : decode cX10_undoCount 0 = .ok (.aload_n 0, 1) := by decide +kernel
theorem dX10_undoCount_1 : decode cX10_undoCount 1 = .ok (.iconst 0, 1) := by decide +kernel
theorem dX10_undoCount_2 : decode cX10_undoCount 2 = .ok (.putfield 41, 3) := by decide +kernel
theorem dX10_undoCount_5 : decode cX10_undoCount 5 = .ok (.aload_n 0, 1) := by decide +kernel
theorem dX10_undoCount_6 : decode cX10_undoCount 6 = .ok (.getfield 44, 3) := by decide +kernel
theorem dX10_undoCount_9 : decode cX10_undoCount 9 = .ok (.ireturn, 1) := by decide +kernel
theorem dX10_undo_0 : decode cX10_undo 0 = .ok (.aload_n 0, 1) := by decide +kernel
theorem dX10_undo_1 : decode cX10_undo 1 = .ok (.iconst 0, 1) := by decide +kernel
theorem dX10_undo_2 : decode cX10_undo 2 = .ok (.putfield 41, 3) := by decide +kernel
theorem dX10_undo_5 : decode cX10_undo 5 = .ok (.aload_n 0, 1) := by decide +kernel
theorem dX10_undo_6 : decode cX10_undo 6 = .ok (.getfield 44, 3) := by decide +kernel
theorem dX10_undo_9 : decode cX10_undo 9 = .ok (.ifCond .ne 9, 3) := by decide +kernel
theorem dX10_undo_12 : decode cX10_undo 12 = .ok (.aload_n 0, 1) := by decide +kernel
theorem dX10_undo_13 : decode cX10_undo 13 = .ok (.iconst 1, 1) := by decide +kernel
theorem dX10_undo_14 : decode cX10_undo 14 = .ok (.invokevirtual 54, 3) := by decide +kernel
theorem dX10_undo_17 : decode cX10_undo 17 = .ok (.ireturn, 1) := by decide +kernel
theorem dX10_undo_18 : decode cX10_undo 18 = .ok (.aload_n 0, 1) := by decide +kernel
theorem dX10_undo_19 : decode cX10_undo 19 = .ok (.dup, 1) := by decide +kernel
theorem dX10_undo_20 : decode cX10_undo 20 = .ok (.getfield 44, 3) := by decide +kernel
theorem dX10_undo_23 : decode cX10_undo 23 = .ok (.iconst 1, 1) := by decide +kernel
theorem dX10_undo_24 : decode cX10_undo 24 = .ok (.isub, 1) := by decide +kernel
theorem dX10_undo_25 : decode cX10_undo 25 = .ok (.putfield 44, 3) := by decide +kernel
theorem dX10_undo_28 : decode cX10_undo 28 = .ok (.iconst 0, 1) := by decide +kernel
theorem dX10_undo_29 : decode cX10_undo 29 = .ok (.istore_n 1, 1) := by decide +kernel
theorem dX10_undo_30 : decode cX10_undo 30 = .ok (.iload_n 1, 1) := by decide +kernel
theorem dX10_undo_31 : decode cX10_undo 31 = .ok (.bipush 104, 2) := by decide +kernel
theorem dX10_undo_33 : decode cX10_undo 33 = .ok (.if_icmp .ge 29, 3) := by decide +kernel
theorem dX10_undo_36 : decode cX10_undo 36 = .ok (.aload_n 0, 1) := by decide +kernel
theorem dX10_undo_37 : decode cX10_undo 37 = .ok (.getfield 7, 3) := by decide +kernel
theorem dX10_undo_40 : decode cX10_undo 40 = .ok (.iload_n 1, 1) := by decide +kernel
theorem dX10_undo_41 : decode cX10_undo 41 = .ok (.aload_n 0, 1) := by decide +kernel
theorem dX10_undo_42 : decode cX10_undo 42 = .ok (.getfield 19, 3) := by decide +kernel
theorem dX10_undo_45 : decode cX10_undo 45 = .ok (.bipush 104, 2) := by decide +kernel
theorem dX10_undo_47 : decode cX10_undo 47 = .ok (.aload_n 0, 1) := by decide +kernel
theorem dX10_undo_48 : decode cX10_undo 48 = .ok (.getfield 44, 3) := by decide +kernel
theorem dX10_undo_51 : decode cX10_undo 51 = .ok (.imul, 1) := by decide +kernel
theorem dX10_undo_52 : decode cX10_undo 52 = .ok (.iload_n 1, 1) := by decide +kernel
theorem dX10_undo_53 : decode cX10_undo 53 = .ok (.iadd, 1) := by decide +kernel
theorem dX10_undo_54 : decode cX10_undo 54 = .ok (.iaload, 1) := by decide +kernel
theorem dX10_undo_55 : decode cX10_undo 55 = .ok (.iastore, 1) := by decide +kernel
theorem dX10_undo_56 : decode cX10_undo 56 = .ok (.iinc 1 1, 3) := by decide +kernel
theorem dX10_undo_59 : decode cX10_undo 59 = .ok (.goto (-29), 3) := by decide +kernel
theorem dX10_undo_62 : decode cX10_undo 62 = .ok (.aload_n 0, 1) := by decide +kernel
theorem dX10_undo_63 : decode cX10_undo 63 = .ok (.getfield 44, 3) := by decide +kernel
theorem dX10_undo_66 : decode cX10_undo 66 = .ok (.ireturn, 1) := by decide +kernel
theorem dX10_save_0 : decode cX10_save 0 = .ok (.aload_n 0, 1) := by decide +kernel
theorem dX10_save_1 : decode cX10_save 1 = .ok (.iconst 0, 1) := by decide +kernel
theorem dX10_save_2 : decode cX10_save 2 = .ok (.putfield 41, 3) := by decide +kernel
theorem dX10_save_5 : decode cX10_save 5 = .ok (.iconst 0, 1) := by decide +kernel
theorem dX10_save_6 : decode cX10_save 6 = .ok (.istore_n 1, 1) := by decide +kernel
theorem dX10_save_7 : decode cX10_save 7 = .ok (.iload_n 1, 1) := by decide +kernel
theorem dX10_save_8 : decode cX10_save 8 = .ok (.bipush 104, 2) := by decide +kernel
theorem dX10_save_10 : decode cX10_save 10 = .ok (.if_icmp .ge 21, 3) := by decide +kernel
theorem dX10_save_13 : decode cX10_save 13 = .ok (.aload_n 0, 1) := by decide +kernel
theorem dX10_save_14 : decode cX10_save 14 = .ok (.getfield 16, 3) := by decide +kernel
theorem dX10_save_17 : decode cX10_save 17 = .ok (.iload_n 1, 1) := by decide +kernel
theorem dX10_save_18 : decode cX10_save 18 = .ok (.aload_n 0, 1) := by decide +kernel
theorem dX10_save_19 : decode cX10_save 19 = .ok (.getfield 7, 3) := by decide +kernel
theorem dX10_save_22 : decode cX10_save 22 = .ok (.iload_n 1, 1) := by decide +kernel
theorem dX10_save_23 : decode cX10_save 23 = .ok (.iaload, 1) := by decide +kernel
theorem dX10_save_24 : decode cX10_save 24 = .ok (.iastore, 1) := by decide +kernel
theorem dX10_save_25 : decode cX10_save 25 = .ok (.iinc 1 1, 3) := by decide +kernel
theorem dX10_save_28 : decode cX10_save 28 = .ok (.goto (-21), 3) := by decide +kernel
theorem dX10_save_31 : decode cX10_save 31 = .ok (.aload_n 0, 1) := by decide +kernel
theorem dX10_save_32 : decode cX10_save 32 = .ok (.iconst 1, 1) := by decide +kernel
theorem dX10_save_33 : decode cX10_save 33 = .ok (.putfield 248, 3) := by decide +kernel
theorem dX10_save_36 : decode cX10_save 36 = .ok (.aload_n 0, 1) := by decide +kernel
theorem dX10_save_37 : decode cX10_save 37 = .ok (.getfield 7, 3) := by decide +kernel
theorem dX10_save_40 : decode cX10_save 40 = .ok (.iconst 0, 1) := by decide +kernel
theorem dX10_save_41 : decode cX10_save 41 = .ok (.iaload, 1) := by decide +kernel
theorem dX10_save_42 : decode cX10_save 42 = .ok (.ireturn, 1) := by decide +kernel
theorem dX10_restore_0 : decode cX10_restore 0 = .ok (.aload_n 0, 1) := by decide +kernel
theorem dX10_restore_1 : decode cX10_restore 1 = .ok (.iconst 0, 1) := by decide +kernel
theorem dX10_restore_2 : decode cX10_restore 2 = .ok (.putfield 41, 3) := by decide +kernel
theorem dX10_restore_5 : decode cX10_restore 5 = .ok (.aload_n 0, 1) := by decide +kernel
theorem dX10_restore_6 : decode cX10_restore 6 = .ok (.getfield 248, 3) := by decide +kernel
theorem dX10_restore_9 : decode cX10_restore 9 = .ok (.ifCond .ne 9, 3) := by decide +kernel
theorem dX10_restore_12 : decode cX10_restore 12 = .ok (.aload_n 0, 1) := by decide +kernel
theorem dX10_restore_13 : decode cX10_restore 13 = .ok (.iconst 1, 1) := by decide +kernel
theorem dX10_restore_14 : decode cX10_restore 14 = .ok (.invokevirtual 54, 3) := by decide +kernel
theorem dX10_restore_17 : decode cX10_restore 17 = .ok (.ireturn, 1) := by decide +kernel
theorem dX10_restore_18 : decode cX10_restore 18 = .ok (.iconst 0, 1) := by decide +kernel
theorem dX10_restore_19 : decode cX10_restore 19 = .ok (.istore_n 1, 1) := by decide +kernel
theorem dX10_restore_20 : decode cX10_restore 20 = .ok (.iload_n 1, 1) := by decide +kernel
theorem dX10_restore_21 : decode cX10_restore 21 = .ok (.bipush 104, 2) := by decide +kernel
theorem dX10_restore_23 : decode cX10_restore 23 = .ok (.if_icmp .ge 21, 3) := by decide +kernel
theorem dX10_restore_26 : decode cX10_restore 26 = .ok (.aload_n 0, 1) := by decide +kernel
theorem dX10_restore_27 : decode cX10_restore 27 = .ok (.getfield 7, 3) := by decide +kernel
theorem dX10_restore_30 : decode cX10_restore 30 = .ok (.iload_n 1, 1) := by decide +kernel
theorem dX10_restore_31 : decode cX10_restore 31 = .ok (.aload_n 0, 1) := by decide +kernel
theorem dX10_restore_32 : decode cX10_restore 32 = .ok (.getfield 16, 3) := by decide +kernel
theorem dX10_restore_35 : decode cX10_restore 35 = .ok (.iload_n 1, 1) := by decide +kernel
theorem dX10_restore_36 : decode cX10_restore 36 = .ok (.iaload, 1) := by decide +kernel
theorem dX10_restore_37 : decode cX10_restore 37 = .ok (.iastore, 1) := by decide +kernel
theorem dX10_restore_38 : decode cX10_restore 38 = .ok (.iinc 1 1, 3) := by decide +kernel
theorem dX10_restore_41 : decode cX10_restore 41 = .ok (.goto (-21), 3) := by decide +kernel
theorem dX10_restore_44 : decode cX10_restore 44 = .ok (.aload_n 0, 1) := by decide +kernel
theorem dX10_restore_45 : decode cX10_restore 45 = .ok (.iconst 0, 1) := by decide +kernel
theorem dX10_restore_46 : decode cX10_restore 46 = .ok (.putfield 44, 3) := by decide +kernel
theorem dX10_restore_49 : decode cX10_restore 49 = .ok (.aload_n 0, 1) := by decide +kernel
theorem dX10_restore_50 : decode cX10_restore 50 = .ok (.getfield 7, 3) := by decide +kernel
theorem dX10_restore_53 : decode cX10_restore 53 = .ok (.iconst 0, 1) := by decide +kernel
theorem dX10_restore_54 : decode cX10_restore 54 = .ok (.iaload, 1) := by decide +kernel
theorem dX10_restore_55 : decode cX10_restore 55 = .ok (.ireturn, 1) := by decide +kernel
theorem dJx00060_init_a7421_0 : decode cJx00060_init_a7421 0 = .ok (.aload_n 0, 1) := by decide +kernel
theorem dJx00060_init_a7421_1 : decode cJx00060_init_a7421 1 = .ok (.aload_n 1, 1) := by decide +kernel
theorem dJx00060_init_a7421_2 : decode cJx00060_init_a7421 2 = .ok (.invokespecial 7, 3) := by decide +kernel
theorem dJx00060_init_a7421_5 : decode cJx00060_init_a7421 5 = .ok (.return_, 1) := by decide +kernel
theorem dJxf58ca_isNaN_12338_0 : decode cJxf58ca_isNaN_12338 0 = .ok (.fload_n 0, 1) := by decide +kernel
theorem dJxf58ca_isNaN_12338_1 : decode cJxf58ca_isNaN_12338 1 = .ok (.fload_n 0, 1) := by decide +kernel
theorem dJxf58ca_isNaN_12338_2 : decode cJxf58ca_isNaN_12338 2 = .ok (.fcmp .l, 1) := by decide +kernel
theorem dJxf58ca_isNaN_12338_3 : decode cJxf58ca_isNaN_12338 3 = .ok (.ifCond .eq 7, 3) := by decide +kernel
theorem dJxf58ca_isNaN_12338_6 : decode cJxf58ca_isNaN_12338 6 = .ok (.iconst 1, 1) := by decide +kernel
theorem dJxf58ca_isNaN_12338_7 : decode cJxf58ca_isNaN_12338 7 = .ok (.goto 4, 3) := by decide +kernel
theorem dJxf58ca_isNaN_12338_10 : decode cJxf58ca_isNaN_12338 10 = .ok (.iconst 0, 1) := by decide +kernel
theorem dJxf58ca_isNaN_12338_11 : decode cJxf58ca_isNaN_12338 11 = .ok (.ireturn, 1) := by decide +kernel
theorem dJxf58ca_floatToIntBits_5c35a_0 : decode cJxf58ca_floatToIntBits_5c35a 0 = .ok (.fload_n 0, 1) := by decide +kernel
theorem dJxf58ca_floatToIntBits_5c35a_1 : decode cJxf58ca_floatToIntBits_5c35a 1 = .ok (.invokestatic 59, 3) := by decide +kernel
theorem dJxf58ca_floatToIntBits_5c35a_4 : decode cJxf58ca_floatToIntBits_5c35a 4 = .ok (.ifCond .ne 8, 3) := by decide +kernel
theorem dJxf58ca_floatToIntBits_5c35a_7 : decode cJxf58ca_floatToIntBits_5c35a 7 = .ok (.fload_n 0, 1) := by decide +kernel
theorem dJxf58ca_floatToIntBits_5c35a_8 : decode cJxf58ca_floatToIntBits_5c35a 8 = .ok (.invokestatic 74, 3) := by decide +kernel
theorem dJxf58ca_floatToIntBits_5c35a_11 : decode cJxf58ca_floatToIntBits_5c35a 11 = .ok (.ireturn, 1) := by decide +kernel
theorem dJxf58ca_floatToIntBits_5c35a_12 : decode cJxf58ca_floatToIntBits_5c35a 12 = .ok (.ldc 77, 2) := by decide +kernel
theorem dJxf58ca_floatToIntBits_5c35a_14 : decode cJxf58ca_floatToIntBits_5c35a 14 = .ok (.ireturn, 1) := by decide +kernel
theorem dJ6_bitCount_0f7a4_0 : decode cJ6_bitCount_0f7a4 0 = .ok (.iload_n 0, 1) := by decide +kernel
theorem dJ6_bitCount_0f7a4_1 : decode cJ6_bitCount_0f7a4 1 = .ok (.iload_n 0, 1) := by decide +kernel
theorem dJ6_bitCount_0f7a4_2 : decode cJ6_bitCount_0f7a4 2 = .ok (.iconst 1, 1) := by decide +kernel
theorem dJ6_bitCount_0f7a4_3 : decode cJ6_bitCount_0f7a4 3 = .ok (.iushr, 1) := by decide +kernel
theorem dJ6_bitCount_0f7a4_4 : decode cJ6_bitCount_0f7a4 4 = .ok (.ldc_w 265, 3) := by decide +kernel
theorem dJ6_bitCount_0f7a4_7 : decode cJ6_bitCount_0f7a4 7 = .ok (.iand, 1) := by decide +kernel
theorem dJ6_bitCount_0f7a4_8 : decode cJ6_bitCount_0f7a4 8 = .ok (.isub, 1) := by decide +kernel
theorem dJ6_bitCount_0f7a4_9 : decode cJ6_bitCount_0f7a4 9 = .ok (.istore_n 0, 1) := by decide +kernel
theorem dJ6_bitCount_0f7a4_10 : decode cJ6_bitCount_0f7a4 10 = .ok (.iload_n 0, 1) := by decide +kernel
theorem dJ6_bitCount_0f7a4_11 : decode cJ6_bitCount_0f7a4 11 = .ok (.ldc_w 266, 3) := by decide +kernel
theorem dJ6_bitCount_0f7a4_14 : decode cJ6_bitCount_0f7a4 14 = .ok (.iand, 1) := by decide +kernel
theorem dJ6_bitCount_0f7a4_15 : decode cJ6_bitCount_0f7a4 15 = .ok (.iload_n 0, 1) := by decide +kernel
theorem dJ6_bitCount_0f7a4_16 : decode cJ6_bitCount_0f7a4 16 = .ok (.iconst 2, 1) := by decide +kernel
theorem dJ6_bitCount_0f7a4_17 : decode cJ6_bitCount_0f7a4 17 = .ok (.iushr, 1) := by decide +kernel
theorem dJ6_bitCount_0f7a4_18 : decode cJ6_bitCount_0f7a4 18 = .ok (.ldc_w 266, 3) := by decide +kernel
theorem dJ6_bitCount_0f7a4_21 : decode cJ6_bitCount_0f7a4 21 = .ok (.iand, 1) := by decide +kernel
theorem dJ6_bitCount_0f7a4_22 : decode cJ6_bitCount_0f7a4 22 = .ok (.iadd, 1) := by decide +kernel
theorem dJ6_bitCount_0f7a4_23 : decode cJ6_bitCount_0f7a4 23 = .ok (.istore_n 0, 1) := by decide +kernel
theorem dJ6_bitCount_0f7a4_24 : decode cJ6_bitCount_0f7a4 24 = .ok (.iload_n 0, 1) := by decide +kernel
theorem dJ6_bitCount_0f7a4_25 : decode cJ6_bitCount_0f7a4 25 = .ok (.iload_n 0, 1) := by decide +kernel
theorem dJ6_bitCount_0f7a4_26 : decode cJ6_bitCount_0f7a4 26 = .ok (.iconst 4, 1) := by decide +kernel
theorem dJ6_bitCount_0f7a4_27 : decode cJ6_bitCount_0f7a4 27 = .ok (.iushr, 1) := by decide +kernel
theorem dJ6_bitCount_0f7a4_28 : decode cJ6_bitCount_0f7a4 28 = .ok (.iadd, 1) := by decide +kernel
theorem dJ6_bitCount_0f7a4_29 : decode cJ6_bitCount_0f7a4 29 = .ok (.ldc_w 267, 3) := by decide +kernel
theorem dJ6_bitCount_0f7a4_32 : decode cJ6_bitCount_0f7a4 32 = .ok (.iand, 1) := by decide +kernel
theorem dJ6_bitCount_0f7a4_33 : decode cJ6_bitCount_0f7a4 33 = .ok (.istore_n 0, 1) := by decide +kernel
theorem dJ6_bitCount_0f7a4_34 : decode cJ6_bitCount_0f7a4 34 = .ok (.iload_n 0, 1) := by decide +kernel
theorem dJ6_bitCount_0f7a4_35 : decode cJ6_bitCount_0f7a4 35 = .ok (.iload_n 0, 1) := by decide +kernel
theorem dJ6_bitCount_0f7a4_36 : decode cJ6_bitCount_0f7a4 36 = .ok (.bipush 8, 2) := by decide +kernel
theorem dJ6_bitCount_0f7a4_38 : decode cJ6_bitCount_0f7a4 38 = .ok (.iushr, 1) := by decide +kernel
theorem dJ6_bitCount_0f7a4_39 : decode cJ6_bitCount_0f7a4 39 = .ok (.iadd, 1) := by decide +kernel
theorem dJ6_bitCount_0f7a4_40 : decode cJ6_bitCount_0f7a4 40 = .ok (.istore_n 0, 1) := by decide +kernel
theorem dJ6_bitCount_0f7a4_41 : decode cJ6_bitCount_0f7a4 41 = .ok (.iload_n 0, 1) := by decide +kernel
theorem dJ6_bitCount_0f7a4_42 : decode cJ6_bitCount_0f7a4 42 = .ok (.iload_n 0, 1) := by decide +kernel
theorem dJ6_bitCount_0f7a4_43 : decode cJ6_bitCount_0f7a4 43 = .ok (.bipush 16, 2) := by decide +kernel
theorem dJ6_bitCount_0f7a4_45 : decode cJ6_bitCount_0f7a4 45 = .ok (.iushr, 1) := by decide +kernel
theorem dJ6_bitCount_0f7a4_46 : decode cJ6_bitCount_0f7a4 46 = .ok (.iadd, 1) := by decide +kernel
theorem dJ6_bitCount_0f7a4_47 : decode cJ6_bitCount_0f7a4 47 = .ok (.istore_n 0, 1) := by decide +kernel
theorem dJ6_bitCount_0f7a4_48 : decode cJ6_bitCount_0f7a4 48 = .ok (.iload_n 0, 1) := by decide +kernel
theorem dJ6_bitCount_0f7a4_49 : decode cJ6_bitCount_0f7a4 49 = .ok (.bipush 63, 2) := by decide +kernel
theorem dJ6_bitCount_0f7a4_51 : decode cJ6_bitCount_0f7a4 51 = .ok (.iand, 1) := by decide +kernel
theorem dJ6_bitCount_0f7a4_52 : decode cJ6_bitCount_0f7a4 52 = .ok (.ireturn, 1) := by decide +kernel
theorem dJ9_max_7cf53_0 : decode cJ9_max_7cf53 0 = .ok (.iload_n 0, 1) := by decide +kernel
theorem dJ9_max_7cf53_1 : decode cJ9_max_7cf53 1 = .ok (.iload_n 1, 1) := by decide +kernel
theorem dJ9_max_7cf53_2 : decode cJ9_max_7cf53 2 = .ok (.if_icmp .lt 7, 3) := by decide +kernel
theorem dJ9_max_7cf53_5 : decode cJ9_max_7cf53 5 = .ok (.iload_n 0, 1) := by decide +kernel
theorem dJ9_max_7cf53_6 : decode cJ9_max_7cf53 6 = .ok (.goto 4, 3) := by decide +kernel
theorem dJ9_max_7cf53_9 : decode cJ9_max_7cf53 9 = .ok (.iload_n 1, 1) := by decide +kernel
theorem dJ9_max_7cf53_10 : decode cJ9_max_7cf53 10 = .ok (.ireturn, 1) := by decide +kernel
theorem dJ9_min_7cf53_0 : decode cJ9_min_7cf53 0 = .ok (.iload_n 0, 1) := by decide +kernel
theorem dJ9_min_7cf53_1 : decode cJ9_min_7cf53 1 = .ok (.iload_n 1, 1) := by decide +kernel
theorem dJ9_min_7cf53_2 : decode cJ9_min_7cf53 2 = .ok (.if_icmp .gt 7, 3) := by decide +kernel
theorem dJ9_min_7cf53_5 : decode cJ9_min_7cf53 5 = .ok (.iload_n 0, 1) := by decide +kernel
theorem dJ9_min_7cf53_6 : decode cJ9_min_7cf53 6 = .ok (.goto 4, 3) := by decide +kernel
theorem dJ9_min_7cf53_9 : decode cJ9_min_7cf53 9 = .ok (.iload_n 1, 1) := by decide +kernel
theorem dJ9_min_7cf53_10 : decode cJ9_min_7cf53 10 = .ok (.ireturn, 1) := by decide +kernel
theorem dJ0_length_8abf5_0 : decode cJ0_length_8abf5 0 = .ok (.aload_n 0, 1) := by decide +kernel
theorem dJ0_length_8abf5_1 : decode cJ0_length_8abf5 1 = .ok (.getfield 9, 3) := by decide +kernel
theorem dJ0_length_8abf5_4 : decode cJ0_length_8abf5 4 = .ok (.arraylength, 1) := by decide +kernel
theorem dJ0_length_8abf5_5 : decode cJ0_length_8abf5 5 = .ok (.aload_n 0, 1) := by decide +kernel
theorem dJ0_length_8abf5_6 : decode cJ0_length_8abf5 6 = .ok (.invokevirtual 335, 3) := by decide +kernel
theorem dJ0_length_8abf5_9 : decode cJ0_length_8abf5 9 = .ok (.ishr, 1) := by decide +kernel
theorem dJ0_length_8abf5_10 : decode cJ0_length_8abf5 10 = .ok (.ireturn, 1) := by decide +kernel
theorem dJ0_charAt_5068e_0 : decode cJ0_charAt_5068e 0 = .ok (.aload_n 0, 1) := by decide +kernel
theorem dJ0_charAt_5068e_1 : decode cJ0_charAt_5068e 1 = .ok (.invokevirtual 492, 3) := by decide +kernel
theorem dJ0_charAt_5068e_4 : decode cJ0_charAt_5068e 4 = .ok (.ifCond .eq 12, 3) := by decide +kernel
theorem dJ0_charAt_5068e_7 : decode cJ0_charAt_5068e 7 = .ok (.aload_n 0, 1) := by decide +kernel
theorem dJ0_charAt_5068e_8 : decode cJ0_charAt_5068e 8 = .ok (.getfield 9, 3) := by decide +kernel
theorem dJ0_charAt_5068e_11 : decode cJ0_charAt_5068e 11 = .ok (.iload_n 1, 1) := by decide +kernel
theorem dJ0_charAt_5068e_12 : decode cJ0_charAt_5068e 12 = .ok (.invokestatic 495, 3) := by decide +kernel
theorem dJ0_charAt_5068e_15 : decode cJ0_charAt_5068e 15 = .ok (.ireturn, 1) := by decide +kernel
theorem dJ0_charAt_5068e_16 : decode cJ0_charAt_5068e 16 = .ok (.aload_n 0, 1) := by decide +kernel
theorem dJ0_charAt_5068e_17 : decode cJ0_charAt_5068e 17 = .ok (.getfield 9, 3) := by decide +kernel
theorem dJ0_charAt_5068e_20 : decode cJ0_charAt_5068e 20 = .ok (.iload_n 1, 1) := by decide +kernel
theorem dJ0_charAt_5068e_21 : decode cJ0_charAt_5068e 21 = .ok (.invokestatic 498, 3) := by decide +kernel
theorem dJ0_charAt_5068e_24 : decode cJ0_charAt_5068e 24 = .ok (.ireturn, 1) := by decide +kernel
theorem dJ0_coder_7d493_0 : decode cJ0_coder_7d493 0 = .ok (.getstatic 38, 3) := by decide +kernel
theorem dJ0_coder_7d493_3 : decode cJ0_coder_7d493 3 = .ok (.ifCond .eq 10, 3) := by decide +kernel
theorem dJ0_coder_7d493_6 : decode cJ0_coder_7d493 6 = .ok (.aload_n 0, 1) := by decide +kernel
theorem dJ0_coder_7d493_7 : decode cJ0_coder_7d493 7 = .ok (.getfield 15, 3) := by decide +kernel
theorem dJ0_coder_7d493_10 : decode cJ0_coder_7d493 10 = .ok (.goto 4, 3) := by decide +kernel
theorem dJ0_coder_7d493_13 : decode cJ0_coder_7d493 13 = .ok (.iconst 1, 1) := by decide +kernel
theorem dJ0_coder_7d493_14 : decode cJ0_coder_7d493 14 = .ok (.ireturn, 1) := by decide +kernel
theorem dJ0_isLatin1_aae02_0 : decode cJ0_isLatin1_aae02 0 = .ok (.getstatic 38, 3) := by decide +kernel
theorem dJ0_isLatin1_aae02_3 : decode cJ0_isLatin1_aae02 3 = .ok (.ifCond .eq 14, 3) := by decide +kernel
theorem dJ0_isLatin1_aae02_6 : decode cJ0_isLatin1_aae02 6 = .ok (.aload_n 0, 1) := by decide +kernel
theorem dJ0_isLatin1_aae02_7 : decode cJ0_isLatin1_aae02 7 = .ok (.getfield 15, 3) := by decide +kernel
theorem dJ0_isLatin1_aae02_10 : decode cJ0_isLatin1_aae02 10 = .ok (.ifCond .ne 7, 3) := by decide +kernel
theorem dJ0_isLatin1_aae02_13 : decode cJ0_isLatin1_aae02 13 = .ok (.iconst 1, 1) := by decide +kernel
theorem dJ0_isLatin1_aae02_14 : decode cJ0_isLatin1_aae02 14 = .ok (.goto 4, 3) := by decide +kernel
theorem dJ0_isLatin1_aae02_17 : decode cJ0_isLatin1_aae02 17 = .ok (.iconst 0, 1) := by decide +kernel
theorem dJ0_isLatin1_aae02_18 : decode cJ0_isLatin1_aae02 18 = .ok (.ireturn, 1) := by decide +kernel
theorem dJ0_checkIndex_df160_0 : decode cJ0_checkIndex_df160 0 = .ok (.iload_n 0, 1) := by decide +kernel
theorem dJ0_checkIndex_df160_1 : decode cJ0_checkIndex_df160 1 = .ok (.iload_n 1, 1) := by decide +kernel
theorem dJ0_checkIndex_df160_2 : decode cJ0_checkIndex_df160 2 = .ok (.getstatic 1053, 3) := by decide +kernel
theorem dJ0_checkIndex_df160_5 : decode cJ0_checkIndex_df160 5 = .ok (.invokestatic 1059, 3) := by decide +kernel
theorem dJ0_checkIndex_df160_8 : decode cJ0_checkIndex_df160 8 = .ok (.pop, 1) := by decide +kernel
theorem dJ0_checkIndex_df160_9 : decode cJ0_checkIndex_df160 9 = .ok (.return_, 1) := by decide +kernel
theorem dJ1_charAt_3b067_0 : decode cJ1_charAt_3b067 0 = .ok (.iload_n 1, 1) := by decide +kernel
theorem dJ1_charAt_3b067_1 : decode cJ1_charAt_3b067 1 = .ok (.aload_n 0, 1) := by decide +kernel
theorem dJ1_charAt_3b067_2 : decode cJ1_charAt_3b067 2 = .ok (.arraylength, 1) := by decide +kernel
theorem dJ1_charAt_3b067_3 : decode cJ1_charAt_3b067 3 = .ok (.invokestatic 9, 3) := by decide +kernel
theorem dJ1_charAt_3b067_6 : decode cJ1_charAt_3b067 6 = .ok (.aload_n 0, 1) := by decide +kernel
theorem dJ1_charAt_3b067_7 : decode cJ1_charAt_3b067 7 = .ok (.iload_n 1, 1) := by decide +kernel
theorem dJ1_charAt_3b067_8 : decode cJ1_charAt_3b067 8 = .ok (.baload, 1) := by decide +kernel
theorem dJ1_charAt_3b067_9 : decode cJ1_charAt_3b067 9 = .ok (.sipush 255, 3) := by decide +kernel
theorem dJ1_charAt_3b067_12 : decode cJ1_charAt_3b067 12 = .ok (.iand, 1) := by decide +kernel
theorem dJ1_charAt_3b067_13 : decode cJ1_charAt_3b067 13 = .ok (.i2c, 1) := by decide +kernel
theorem dJ1_charAt_3b067_14 : decode cJ1_charAt_3b067 14 = .ok (.ireturn, 1) := by decide +kernel
theorem dJ2_getChar_3b067_0 : decode cJ2_getChar_3b067 0 = .ok (.getstatic 44, 3) := by decide +kernel
theorem dJ2_getChar_3b067_3 : decode cJ2_getChar_3b067 3 = .ok (.ifCond .ne 25, 3) := by decide +kernel
theorem dJ2_getChar_3b067_6 : decode cJ2_getChar_3b067 6 = .ok (.iload_n 1, 1) := by decide +kernel
theorem dJ2_getChar_3b067_7 : decode cJ2_getChar_3b067 7 = .ok (.ifCond .lt 11, 3) := by decide +kernel
theorem dJ2_getChar_3b067_10 : decode cJ2_getChar_3b067 10 = .ok (.iload_n 1, 1) := by decide +kernel
theorem dJ2_getChar_3b067_11 : decode cJ2_getChar_3b067 11 = .ok (.aload_n 0, 1) := by decide +kernel
theorem dJ2_getChar_3b067_12 : decode cJ2_getChar_3b067 12 = .ok (.invokestatic 48, 3) := by decide +kernel
theorem dJ2_getChar_3b067_15 : decode cJ2_getChar_3b067 15 = .ok (.if_icmp .lt 13, 3) := by decide +kernel
theorem dJ2_getChar_3b067_18 : decode cJ2_getChar_3b067 18 = .ok (.new 52, 3) := by decide +kernel
theorem dJ2_getChar_3b067_21 : decode cJ2_getChar_3b067 21 = .ok (.dup, 1) := by decide +kernel
theorem dJ2_getChar_3b067_22 : decode cJ2_getChar_3b067 22 = .ok (.ldc 54, 2) := by decide +kernel
theorem dJ2_getChar_3b067_24 : decode cJ2_getChar_3b067 24 = .ok (.invokespecial 56, 3) := by decide +kernel
theorem dJ2_getChar_3b067_27 : decode cJ2_getChar_3b067 27 = .ok (.athrow, 1) := by decide +kernel
theorem dJ2_getChar_3b067_28 : decode cJ2_getChar_3b067 28 = .ok (.iload_n 1, 1) := by decide +kernel
theorem dJ2_getChar_3b067_29 : decode cJ2_getChar_3b067 29 = .ok (.iconst 1, 1) := by decide +kernel
theorem dJ2_getChar_3b067_30 : decode cJ2_getChar_3b067 30 = .ok (.ishl, 1) := by decide +kernel
theorem dJ2_getChar_3b067_31 : decode cJ2_getChar_3b067 31 = .ok (.istore_n 1, 1) := by decide +kernel
theorem dJ2_getChar_3b067_32 : decode cJ2_getChar_3b067 32 = .ok (.aload_n 0, 1) := by decide +kernel
theorem dJ2_getChar_3b067_33 : decode cJ2_getChar_3b067 33 = .ok (.iload_n 1, 1) := by decide +kernel
theorem dJ2_getChar_3b067_34 : decode cJ2_getChar_3b067 34 = .ok (.iinc 1 1, 3) := by decide +kernel
theorem dJ2_getChar_3b067_37 : decode cJ2_getChar_3b067 37 = .ok (.baload, 1) := by decide +kernel
theorem dJ2_getChar_3b067_38 : decode cJ2_getChar_3b067 38 = .ok (.sipush 255, 3) := by decide +kernel
theorem dJ2_getChar_3b067_41 : decode cJ2_getChar_3b067 41 = .ok (.iand, 1) := by decide +kernel
theorem dJ2_getChar_3b067_42 : decode cJ2_getChar_3b067 42 = .ok (.getstatic 59, 3) := by decide +kernel
theorem dJ2_getChar_3b067_45 : decode cJ2_getChar_3b067 45 = .ok (.ishl, 1) := by decide +kernel
theorem dJ2_getChar_3b067_46 : decode cJ2_getChar_3b067 46 = .ok (.aload_n 0, 1) := by decide +kernel
theorem dJ2_getChar_3b067_47 : decode cJ2_getChar_3b067 47 = .ok (.iload_n 1, 1) := by decide +kernel
theorem dJ2_getChar_3b067_48 : decode cJ2_getChar_3b067 48 = .ok (.baload, 1) := by decide +kernel
theorem dJ2_getChar_3b067_49 : decode cJ2_getChar_3b067 49 = .ok (.sipush 255, 3) := by decide +kernel
theorem dJ2_getChar_3b067_52 : decode cJ2_getChar_3b067 52 = .ok (.iand, 1) := by decide +kernel
theorem dJ2_getChar_3b067_53 : decode cJ2_getChar_3b067 53 = .ok (.getstatic 63, 3) := by decide +kernel
theorem dJ2_getChar_3b067_56 : decode cJ2_getChar_3b067 56 = .ok (.ishl, 1) := by decide +kernel
theorem dJ2_getChar_3b067_57 : decode cJ2_getChar_3b067 57 = .ok (.ior, 1) := by decide +kernel
theorem dJ2_getChar_3b067_58 : decode cJ2_getChar_3b067 58 = .ok (.i2c, 1) := by decide +kernel
theorem dJ2_getChar_3b067_59 : decode cJ2_getChar_3b067 59 = .ok (.ireturn, 1) := by decide +kernel
theorem dJ2_length_9d52b_0 : decode cJ2_length_9d52b 0 = .ok (.aload_n 0, 1) := by decide +kernel
theorem dJ2_length_9d52b_1 : decode cJ2_length_9d52b 1 = .ok (.arraylength, 1) := by decide +kernel
theorem dJ2_length_9d52b_2 : decode cJ2_length_9d52b 2 = .ok (.iconst 1, 1) := by decide +kernel
theorem dJ2_length_9d52b_3 : decode cJ2_length_9d52b 3 = .ok (.ishr, 1) := by decide +kernel
theorem dJ2_length_9d52b_4 : decode cJ2_length_9d52b 4 = .ok (.ireturn, 1) := by decide +kernel
theorem dJ2_charAt_3b067_0 : decode cJ2_charAt_3b067 0 = .ok (.iload_n 1, 1) := by decide +kernel
theorem dJ2_charAt_3b067_1 : decode cJ2_charAt_3b067 1 = .ok (.aload_n 0, 1) := by decide +kernel
theorem dJ2_charAt_3b067_2 : decode cJ2_charAt_3b067 2 = .ok (.invokestatic 67, 3) := by decide +kernel
theorem dJ2_charAt_3b067_5 : decode cJ2_charAt_3b067 5 = .ok (.aload_n 0, 1) := by decide +kernel
theorem dJ2_charAt_3b067_6 : decode cJ2_charAt_3b067 6 = .ok (.iload_n 1, 1) := by decide +kernel
theorem dJ2_charAt_3b067_7 : decode cJ2_charAt_3b067 7 = .ok (.invokestatic 71, 3) := by decide +kernel
theorem dJ2_charAt_3b067_10 : decode cJ2_charAt_3b067 10 = .ok (.ireturn, 1) := by decide +kernel
theorem dJ2_checkIndex_2214a_0 : decode cJ2_checkIndex_2214a 0 = .ok (.iload_n 0, 1) := by decide +kernel
theorem dJ2_checkIndex_2214a_1 : decode cJ2_checkIndex_2214a 1 = .ok (.aload_n 1, 1) := by decide +kernel
theorem dJ2_checkIndex_2214a_2 : decode cJ2_checkIndex_2214a 2 = .ok (.invokestatic 48, 3) := by decide +kernel
theorem dJ2_checkIndex_2214a_5 : decode cJ2_checkIndex_2214a 5 = .ok (.invokestatic 414, 3) := by decide +kernel
theorem dJ2_checkIndex_2214a_8 : decode cJ2_checkIndex_2214a 8 = .ok (.return_, 1) := by decide +kernel
theorem dJ3_checkIndex_8e157_0 : decode cJ3_checkIndex_8e157 0 = .ok (.iload_n 0, 1) := by decide +kernel
theorem dJ3_checkIndex_8e157_1 : decode cJ3_checkIndex_8e157 1 = .ok (.ifCond .lt 8, 3) := by decide +kernel
theorem dJ3_checkIndex_8e157_4 : decode cJ3_checkIndex_8e157 4 = .ok (.iload_n 0, 1) := by decide +kernel
theorem dJ3_checkIndex_8e157_5 : decode cJ3_checkIndex_8e157 5 = .ok (.iload_n 1, 1) := by decide +kernel
theorem dJ3_checkIndex_8e157_6 : decode cJ3_checkIndex_8e157 6 = .ok (.if_icmp .lt 10, 3) := by decide +kernel
theorem dJ3_checkIndex_8e157_9 : decode cJ3_checkIndex_8e157 9 = .ok (.aload_n 2, 1) := by decide +kernel
theorem dJ3_checkIndex_8e157_10 : decode cJ3_checkIndex_8e157 10 = .ok (.iload_n 0, 1) := by decide +kernel
theorem dJ3_checkIndex_8e157_11 : decode cJ3_checkIndex_8e157 11 = .ok (.iload_n 1, 1) := by decide +kernel
theorem dJ3_checkIndex_8e157_12 : decode cJ3_checkIndex_8e157 12 = .ok (.invokestatic 95, 3) := by decide +kernel
theorem dJ3_checkIndex_8e157_15 : decode cJ3_checkIndex_8e157 15 = .ok (.athrow, 1) := by decide +kernel
theorem dJ3_checkIndex_8e157_16 : decode cJ3_checkIndex_8e157 16 = .ok (.iload_n 0, 1) := by decide +kernel
theorem dJ3_checkIndex_8e157_17 : decode cJ3_checkIndex_8e157 17 = .ok (.ireturn, 1) := by decide +kernel
theorem dL_bring_0 : decode cL_bring 0 = .ok (.aload 5, 2) := by decide +kernel
theorem dL_bring_2 : decode cL_bring 2 = .ok (.iconst 0, 1) := by decide +kernel
theorem dL_bring_3 : decode cL_bring 3 = .ok (.aload_n 0, 1) := by decide +kernel
theorem dL_bring_4 : decode cL_bring 4 = .ok (.iload_n 1, 1) := by decide +kernel
theorem dL_bring_5 : decode cL_bring 5 = .ok (.iload_n 2, 1) := by decide +kernel
theorem dL_bring_6 : decode cL_bring 6 = .ok (.iload_n 3, 1) := by decide +kernel
theorem dL_bring_7 : decode cL_bring 7 = .ok (.iload 4, 2) := by decide +kernel
theorem dL_bring_9 : decode cL_bring 9 = .ok (.invokevirtual 7, 3) := by decide +kernel
theorem dL_bring_12 : decode cL_bring 12 = .ok (.i2l, 1) := by decide +kernel
theorem dL_bring_13 : decode cL_bring 13 = .ok (.lastore, 1) := by decide +kernel
theorem dL_bring_14 : decode cL_bring 14 = .ok (.goto 15, 3) := by decide +kernel
theorem dL_bring_17 : decode cL_bring 17 = .ok (.astore 6, 2) := by decide +kernel
theorem dL_bring_19 : decode cL_bring 19 = .ok (.iconst 1, 1) := by decide +kernel
theorem dL_bring_20 : decode cL_bring 20 = .ok (.ireturn, 1) := by decide +kernel
theorem dL_bring_21 : decode cL_bring 21 = .ok (.astore 6, 2) := by decide +kernel
theorem dL_bring_23 : decode cL_bring 23 = .ok (.iconst 2, 1) := by decide +kernel
theorem dL_bring_24 : decode cL_bring 24 = .ok (.ireturn, 1) := by decide +kernel
theorem dL_bring_25 : decode cL_bring 25 = .ok (.astore 6, 2) := by decide +kernel
theorem dL_bring_27 : decode cL_bring 27 = .ok (.iconst 3, 1) := by decide +kernel
theorem dL_bring_28 : decode cL_bring 28 = .ok (.ireturn, 1) := by decide +kernel
theorem dL_bring_29 : decode cL_bring 29 = .ok (.iconst 0, 1) := by decide +kernel
theorem dL_bring_30 : decode cL_bring 30 = .ok (.ireturn, 1) := by decide +kernel
theorem dL_load_0 : decode cL_load 0 = .ok (.aload_n 3, 1) := by decide +kernel
theorem dL_load_1 : decode cL_load 1 = .ok (.iconst 0, 1) := by decide +kernel
theorem dL_load_2 : decode cL_load 2 = .ok (.aload_n 0, 1) := by decide +kernel
theorem dL_load_3 : decode cL_load 3 = .ok (.iload_n 1, 1) := by decide +kernel
theorem dL_load_4 : decode cL_load 4 = .ok (.iload_n 2, 1) := by decide +kernel
theorem dL_load_5 : decode cL_load 5 = .ok (.invokevirtual 19, 3) := by decide +kernel
theorem dL_load_8 : decode cL_load 8 = .ok (.i2l, 1) := by decide +kernel
theorem dL_load_9 : decode cL_load 9 = .ok (.lastore, 1) := by decide +kernel
theorem dL_load_10 : decode cL_load 10 = .ok (.goto 15, 3) := by decide +kernel
theorem dL_load_13 : decode cL_load 13 = .ok (.astore 4, 2) := by decide +kernel
theorem dL_load_15 : decode cL_load 15 = .ok (.iconst 1, 1) := by decide +kernel
theorem dL_load_16 : decode cL_load 16 = .ok (.ireturn, 1) := by decide +kernel
theorem dL_load_17 : decode cL_load 17 = .ok (.astore 4, 2) := by decide +kernel
theorem dL_load_19 : decode cL_load 19 = .ok (.iconst 2, 1) := by decide +kernel
theorem dL_load_20 : decode cL_load 20 = .ok (.ireturn, 1) := by decide +kernel
theorem dL_load_21 : decode cL_load 21 = .ok (.astore 4, 2) := by decide +kernel
theorem dL_load_23 : decode cL_load 23 = .ok (.iconst 3, 1) := by decide +kernel
theorem dL_load_24 : decode cL_load 24 = .ok (.ireturn, 1) := by decide +kernel
theorem dL_load_25 : decode cL_load 25 = .ok (.iconst 0, 1) := by decide +kernel
theorem dL_load_26 : decode cL_load 26 = .ok (.ireturn, 1) := by decide +kernel
theorem dL_takeOut_0 : decode cL_takeOut 0 = .ok (.aload_n 2, 1) := by decide +kernel
theorem dL_takeOut_1 : decode cL_takeOut 1 = .ok (.iconst 0, 1) := by decide +kernel
theorem dL_takeOut_2 : decode cL_takeOut 2 = .ok (.aload_n 0, 1) := by decide +kernel
theorem dL_takeOut_3 : decode cL_takeOut 3 = .ok (.iload_n 1, 1) := by decide +kernel
theorem dL_takeOut_4 : decode cL_takeOut 4 = .ok (.invokevirtual 25, 3) := by decide +kernel
theorem dL_takeOut_7 : decode cL_takeOut 7 = .ok (.i2l, 1) := by decide +kernel
theorem dL_takeOut_8 : decode cL_takeOut 8 = .ok (.lastore, 1) := by decide +kernel
theorem dL_takeOut_9 : decode cL_takeOut 9 = .ok (.goto 9, 3) := by decide +kernel
theorem dL_takeOut_12 : decode cL_takeOut 12 = .ok (.astore_n 3, 1) := by decide +kernel
theorem dL_takeOut_13 : decode cL_takeOut 13 = .ok (.iconst 1, 1) := by decide +kernel
theorem dL_takeOut_14 : decode cL_takeOut 14 = .ok (.ireturn, 1) := by decide +kernel
theorem dL_takeOut_15 : decode cL_takeOut 15 = .ok (.astore_n 3, 1) := by decide +kernel
theorem dL_takeOut_16 : decode cL_takeOut 16 = .ok (.iconst 2, 1) := by decide +kernel
theorem dL_takeOut_17 : decode cL_takeOut 17 = .ok (.ireturn, 1) := by decide +kernel
theorem dL_takeOut_18 : decode cL_takeOut 18 = .ok (.iconst 0, 1) := by decide +kernel
theorem dL_takeOut_19 : decode cL_takeOut 19 = .ok (.ireturn, 1) := by decide +kernel
theorem dL_setTemperature_0 : decode cL_setTemperature 0 = .ok (.aload_n 3, 1) := by decide +kernel
theorem dL_setTemperature_1 : decode cL_setTemperature 1 = .ok (.iconst 0, 1) := by decide +kernel
theorem dL_setTemperature_2 : decode cL_setTemperature 2 = .ok (.aload_n 0, 1) := by decide +kernel
theorem dL_setTemperature_3 : decode cL_setTemperature 3 = .ok (.iload_n 1, 1) := by decide +kernel
theorem dL_setTemperature_4 : decode cL_setTemperature 4 = .ok (.iload_n 2, 1) := by decide +kernel
theorem dL_setTemperature_5 : decode cL_setTemperature 5 = .ok (.invokevirtual 29, 3) := by decide +kernel
theorem dL_setTemperature_8 : decode cL_setTemperature 8 = .ok (.f2d, 1) := by decide +kernel
theorem dL_setTemperature_9 : decode cL_setTemperature 9 = .ok (.dastore, 1) := by decide +kernel
theorem dL_setTemperature_10 : decode cL_setTemperature 10 = .ok (.goto 11, 3) := by decide +kernel
theorem dL_setTemperature_13 : decode cL_setTemperature 13 = .ok (.astore 4, 2) := by decide +kernel
theorem dL_setTemperature_15 : decode cL_setTemperature 15 = .ok (.iconst 1, 1) := by decide +kernel
theorem dL_setTemperature_16 : decode cL_setTemperature 16 = .ok (.ireturn, 1) := by decide +kernel
theorem dL_setTemperature_17 : decode cL_setTemperature 17 = .ok (.astore 4, 2) := by decide +kernel
theorem dL_setTemperature_19 : decode cL_setTemperature 19 = .ok (.iconst 2, 1) := by decide +kernel
theorem dL_setTemperature_20 : decode cL_setTemperature 20 = .ok (.ireturn, 1) := by decide +kernel
theorem dL_setTemperature_21 : decode cL_setTemperature 21 = .ok (.iconst 0, 1) := by decide +kernel
theorem dL_setTemperature_22 : decode cL_setTemperature 22 = .ok (.ireturn, 1) := by decide +kernel
theorem dL_run_0 : decode cL_run 0 = .ok (.aload_n 2, 1) := by decide +kernel
theorem dL_run_1 : decode cL_run 1 = .ok (.iconst 0, 1) := by decide +kernel
theorem dL_run_2 : decode cL_run 2 = .ok (.aload_n 0, 1) := by decide +kernel
theorem dL_run_3 : decode cL_run 3 = .ok (.iload_n 1, 1) := by decide +kernel
theorem dL_run_4 : decode cL_run 4 = .ok (.invokevirtual 33, 3) := by decide +kernel
theorem dL_run_7 : decode cL_run 7 = .ok (.i2l, 1) := by decide +kernel
theorem dL_run_8 : decode cL_run 8 = .ok (.lastore, 1) := by decide +kernel
theorem dL_run_9 : decode cL_run 9 = .ok (.goto 9, 3) := by decide +kernel
theorem dL_run_12 : decode cL_run 12 = .ok (.astore_n 3, 1) := by decide +kernel
theorem dL_run_13 : decode cL_run 13 = .ok (.iconst 1, 1) := by decide +kernel
theorem dL_run_14 : decode cL_run 14 = .ok (.ireturn, 1) := by decide +kernel
theorem dL_run_15 : decode cL_run 15 = .ok (.astore_n 3, 1) := by decide +kernel
theorem dL_run_16 : decode cL_run 16 = .ok (.iconst 2, 1) := by decide +kernel
theorem dL_run_17 : decode cL_run 17 = .ok (.ireturn, 1) := by decide +kernel
theorem dL_run_18 : decode cL_run 18 = .ok (.iconst 0, 1) := by decide +kernel
theorem dL_run_19 : decode cL_run 19 = .ok (.ireturn, 1) := by decide +kernel
theorem dL_client_0 : decode cL_client 0 = .ok (.aload_n 2, 1) := by decide +kernel
theorem dL_client_1 : decode cL_client 1 = .ok (.iconst 0, 1) := by decide +kernel
theorem dL_client_2 : decode cL_client 2 = .ok (.aload_n 0, 1) := by decide +kernel
theorem dL_client_3 : decode cL_client 3 = .ok (.iload_n 1, 1) := by decide +kernel
theorem dL_client_4 : decode cL_client 4 = .ok (.invokevirtual 36, 3) := by decide +kernel
theorem dL_client_7 : decode cL_client 7 = .ok (.i2l, 1) := by decide +kernel
theorem dL_client_8 : decode cL_client 8 = .ok (.lastore, 1) := by decide +kernel
theorem dL_client_9 : decode cL_client 9 = .ok (.goto 6, 3) := by decide +kernel
theorem dL_client_12 : decode cL_client 12 = .ok (.astore_n 3, 1) := by decide +kernel
theorem dL_client_13 : decode cL_client 13 = .ok (.iconst 1, 1) := by decide +kernel
theorem dL_client_14 : decode cL_client 14 = .ok (.ireturn, 1) := by decide +kernel
theorem dL_client_15 : decode cL_client 15 = .ok (.iconst 0, 1) := by decide +kernel
theorem dL_client_16 : decode cL_client 16 = .ok (.ireturn, 1) := by decide +kernel
theorem dL_isSock_0 : decode cL_isSock 0 = .ok (.aload_n 2, 1) := by decide +kernel
theorem dL_isSock_1 : decode cL_isSock 1 = .ok (.iconst 0, 1) := by decide +kernel
theorem dL_isSock_2 : decode cL_isSock 2 = .ok (.aload_n 0, 1) := by decide +kernel
theorem dL_isSock_3 : decode cL_isSock 3 = .ok (.iload_n 1, 1) := by decide +kernel
theorem dL_isSock_4 : decode cL_isSock 4 = .ok (.invokevirtual 39, 3) := by decide +kernel
theorem dL_isSock_7 : decode cL_isSock 7 = .ok (.ifCond .eq 7, 3) := by decide +kernel
theorem dL_isSock_10 : decode cL_isSock 10 = .ok (.lconst 1, 1) := by decide +kernel
theorem dL_isSock_11 : decode cL_isSock 11 = .ok (.goto 4, 3) := by decide +kernel
theorem dL_isSock_14 : decode cL_isSock 14 = .ok (.lconst 0, 1) := by decide +kernel
theorem dL_isSock_15 : decode cL_isSock 15 = .ok (.lastore, 1) := by decide +kernel
theorem dL_isSock_16 : decode cL_isSock 16 = .ok (.goto 6, 3) := by decide +kernel
theorem dL_isSock_19 : decode cL_isSock 19 = .ok (.astore_n 3, 1) := by decide +kernel
theorem dL_isSock_20 : decode cL_isSock 20 = .ok (.iconst 1, 1) := by decide +kernel
theorem dL_isSock_21 : decode cL_isSock 21 = .ok (.ireturn, 1) := by decide +kernel
theorem dL_isSock_22 : decode cL_isSock 22 = .ok (.iconst 0, 1) := by decide +kernel
theorem dL_isSock_23 : decode cL_isSock 23 = .ok (.ireturn, 1) := by decide +kernel
theorem dL_colour_0 : decode cL_colour 0 = .ok (.aload_n 2, 1) := by decide +kernel
theorem dL_colour_1 : decode cL_colour 1 = .ok (.iconst 0, 1) := by decide +kernel
theorem dL_colour_2 : decode cL_colour 2 = .ok (.aload_n 0, 1) := by decide +kernel
theorem dL_colour_3 : decode cL_colour 3 = .ok (.iload_n 1, 1) := by decide +kernel
theorem dL_colour_4 : decode cL_colour 4 = .ok (.invokevirtual 43, 3) := by decide +kernel
theorem dL_colour_7 : decode cL_colour 7 = .ok (.i2l, 1) := by decide +kernel
theorem dL_colour_8 : decode cL_colour 8 = .ok (.lastore, 1) := by decide +kernel
theorem dL_colour_9 : decode cL_colour 9 = .ok (.goto 6, 3) := by decide +kernel
theorem dL_colour_12 : decode cL_colour 12 = .ok (.astore_n 3, 1) := by decide +kernel
theorem dL_colour_13 : decode cL_colour 13 = .ok (.iconst 1, 1) := by decide +kernel
theorem dL_colour_14 : decode cL_colour 14 = .ok (.ireturn, 1) := by decide +kernel
theorem dL_colour_15 : decode cL_colour 15 = .ok (.iconst 0, 1) := by decide +kernel
theorem dL_colour_16 : decode cL_colour 16 = .ok (.ireturn, 1) := by decide +kernel
theorem dL_stains_0 : decode cL_stains 0 = .ok (.aload_n 2, 1) := by decide +kernel
theorem dL_stains_1 : decode cL_stains 1 = .ok (.iconst 0, 1) := by decide +kernel
theorem dL_stains_2 : decode cL_stains 2 = .ok (.aload_n 0, 1) := by decide +kernel
theorem dL_stains_3 : decode cL_stains 3 = .ok (.iload_n 1, 1) := by decide +kernel
theorem dL_stains_4 : decode cL_stains 4 = .ok (.invokevirtual 46, 3) := by decide +kernel
theorem dL_stains_7 : decode cL_stains 7 = .ok (.i2l, 1) := by decide +kernel
theorem dL_stains_8 : decode cL_stains 8 = .ok (.lastore, 1) := by decide +kernel
theorem dL_stains_9 : decode cL_stains 9 = .ok (.goto 6, 3) := by decide +kernel
theorem dL_stains_12 : decode cL_stains 12 = .ok (.astore_n 3, 1) := by decide +kernel
theorem dL_stains_13 : decode cL_stains 13 = .ok (.iconst 1, 1) := by decide +kernel
theorem dL_stains_14 : decode cL_stains 14 = .ok (.ireturn, 1) := by decide +kernel
theorem dL_stains_15 : decode cL_stains 15 = .ok (.iconst 0, 1) := by decide +kernel
theorem dL_stains_16 : decode cL_stains 16 = .ok (.ireturn, 1) := by decide +kernel
theorem dL_stainCount_0 : decode cL_stainCount 0 = .ok (.aload_n 2, 1) := by decide +kernel
theorem dL_stainCount_1 : decode cL_stainCount 1 = .ok (.iconst 0, 1) := by decide +kernel
theorem dL_stainCount_2 : decode cL_stainCount 2 = .ok (.aload_n 0, 1) := by decide +kernel
theorem dL_stainCount_3 : decode cL_stainCount 3 = .ok (.iload_n 1, 1) := by decide +kernel
theorem dL_stainCount_4 : decode cL_stainCount 4 = .ok (.invokevirtual 49, 3) := by decide +kernel
theorem dL_stainCount_7 : decode cL_stainCount 7 = .ok (.i2l, 1) := by decide +kernel
theorem dL_stainCount_8 : decode cL_stainCount 8 = .ok (.lastore, 1) := by decide +kernel
theorem dL_stainCount_9 : decode cL_stainCount 9 = .ok (.goto 6, 3) := by decide +kernel
theorem dL_stainCount_12 : decode cL_stainCount 12 = .ok (.astore_n 3, 1) := by decide +kernel
theorem dL_stainCount_13 : decode cL_stainCount 13 = .ok (.iconst 1, 1) := by decide +kernel
theorem dL_stainCount_14 : decode cL_stainCount 14 = .ok (.ireturn, 1) := by decide +kernel
theorem dL_stainCount_15 : decode cL_stainCount 15 = .ok (.iconst 0, 1) := by decide +kernel
theorem dL_stainCount_16 : decode cL_stainCount 16 = .ok (.ireturn, 1) := by decide +kernel
theorem dL_place_0 : decode cL_place 0 = .ok (.aload_n 2, 1) := by decide +kernel
theorem dL_place_1 : decode cL_place 1 = .ok (.iconst 0, 1) := by decide +kernel
theorem dL_place_2 : decode cL_place 2 = .ok (.aload_n 0, 1) := by decide +kernel
theorem dL_place_3 : decode cL_place 3 = .ok (.iload_n 1, 1) := by decide +kernel
theorem dL_place_4 : decode cL_place 4 = .ok (.invokevirtual 52, 3) := by decide +kernel
theorem dL_place_7 : decode cL_place 7 = .ok (.i2l, 1) := by decide +kernel
theorem dL_place_8 : decode cL_place 8 = .ok (.lastore, 1) := by decide +kernel
theorem dL_place_9 : decode cL_place 9 = .ok (.goto 6, 3) := by decide +kernel
theorem dL_place_12 : decode cL_place 12 = .ok (.astore_n 3, 1) := by decide +kernel
theorem dL_place_13 : decode cL_place 13 = .ok (.iconst 1, 1) := by decide +kernel
theorem dL_place_14 : decode cL_place 14 = .ok (.ireturn, 1) := by decide +kernel
theorem dL_place_15 : decode cL_place 15 = .ok (.iconst 0, 1) := by decide +kernel
theorem dL_place_16 : decode cL_place 16 = .ok (.ireturn, 1) := by decide +kernel
theorem dL_washes_0 : decode cL_washes 0 = .ok (.aload_n 2, 1) := by decide +kernel
theorem dL_washes_1 : decode cL_washes 1 = .ok (.iconst 0, 1) := by decide +kernel
theorem dL_washes_2 : decode cL_washes 2 = .ok (.aload_n 0, 1) := by decide +kernel
theorem dL_washes_3 : decode cL_washes 3 = .ok (.iload_n 1, 1) := by decide +kernel
theorem dL_washes_4 : decode cL_washes 4 = .ok (.invokevirtual 56, 3) := by decide +kernel
theorem dL_washes_7 : decode cL_washes 7 = .ok (.i2l, 1) := by decide +kernel
theorem dL_washes_8 : decode cL_washes 8 = .ok (.lastore, 1) := by decide +kernel
theorem dL_washes_9 : decode cL_washes 9 = .ok (.goto 6, 3) := by decide +kernel
theorem dL_washes_12 : decode cL_washes 12 = .ok (.astore_n 3, 1) := by decide +kernel
theorem dL_washes_13 : decode cL_washes 13 = .ok (.iconst 1, 1) := by decide +kernel
theorem dL_washes_14 : decode cL_washes 14 = .ok (.ireturn, 1) := by decide +kernel
theorem dL_washes_15 : decode cL_washes 15 = .ok (.iconst 0, 1) := by decide +kernel
theorem dL_washes_16 : decode cL_washes 16 = .ok (.ireturn, 1) := by decide +kernel
theorem dL_partner_0 : decode cL_partner 0 = .ok (.aload_n 2, 1) := by decide +kernel
theorem dL_partner_1 : decode cL_partner 1 = .ok (.iconst 0, 1) := by decide +kernel
theorem dL_partner_2 : decode cL_partner 2 = .ok (.aload_n 0, 1) := by decide +kernel
theorem dL_partner_3 : decode cL_partner 3 = .ok (.iload_n 1, 1) := by decide +kernel
theorem dL_partner_4 : decode cL_partner 4 = .ok (.invokevirtual 59, 3) := by decide +kernel
theorem dL_partner_7 : decode cL_partner 7 = .ok (.i2l, 1) := by decide +kernel
theorem dL_partner_8 : decode cL_partner 8 = .ok (.lastore, 1) := by decide +kernel
theorem dL_partner_9 : decode cL_partner 9 = .ok (.goto 12, 3) := by decide +kernel
theorem dL_partner_12 : decode cL_partner 12 = .ok (.astore_n 3, 1) := by decide +kernel
theorem dL_partner_13 : decode cL_partner 13 = .ok (.iconst 1, 1) := by decide +kernel
theorem dL_partner_14 : decode cL_partner 14 = .ok (.ireturn, 1) := by decide +kernel
theorem dL_partner_15 : decode cL_partner 15 = .ok (.astore_n 3, 1) := by decide +kernel
theorem dL_partner_16 : decode cL_partner 16 = .ok (.iconst 2, 1) := by decide +kernel
theorem dL_partner_17 : decode cL_partner 17 = .ok (.ireturn, 1) := by decide +kernel
theorem dL_partner_18 : decode cL_partner 18 = .ok (.astore_n 3, 1) := by decide +kernel
theorem dL_partner_19 : decode cL_partner 19 = .ok (.iconst 3, 1) := by decide +kernel
theorem dL_partner_20 : decode cL_partner 20 = .ok (.ireturn, 1) := by decide +kernel
theorem dL_partner_21 : decode cL_partner 21 = .ok (.iconst 0, 1) := by decide +kernel
theorem dL_partner_22 : decode cL_partner 22 = .ok (.ireturn, 1) := by decide +kernel
