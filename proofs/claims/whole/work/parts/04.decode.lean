theorem dX9_partner_14 : decode cX9_partner 14 = .ok (.ifCond .ne 13, 3) := by decide +kernel
theorem dX9_partner_17 : decode cX9_partner 17 = .ok (.new 142, 3) := by decide +kernel
theorem dX9_partner_20 : decode cX9_partner 20 = .ok (.dup, 1) := by decide +kernel
theorem dX9_partner_21 : decode cX9_partner 21 = .ok (.ldc 144, 2) := by decide +kernel
theorem dX9_partner_23 : decode cX9_partner 23 = .ok (.invokespecial 146, 3) := by decide +kernel
theorem dX9_partner_26 : decode cX9_partner 26 = .ok (.athrow, 1) := by decide +kernel
theorem dX9_partner_27 : decode cX9_partner 27 = .ok (.aload_n 0, 1) := by decide +kernel
theorem dX9_partner_28 : decode cX9_partner 28 = .ok (.getfield 12, 3) := by decide +kernel
theorem dX9_partner_31 : decode cX9_partner 31 = .ok (.iload_n 1, 1) := by decide +kernel
theorem dX9_partner_32 : decode cX9_partner 32 = .ok (.invokestatic 149, 3) := by decide +kernel
theorem dX9_partner_35 : decode cX9_partner 35 = .ok (.istore_n 2, 1) := by decide +kernel
theorem dX9_partner_36 : decode cX9_partner 36 = .ok (.iload_n 2, 1) := by decide +kernel
theorem dX9_partner_37 : decode cX9_partner 37 = .ok (.ifCond .ge 13, 3) := by decide +kernel
theorem dX9_partner_40 : decode cX9_partner 40 = .ok (.new 154, 3) := by decide +kernel
theorem dX9_partner_43 : decode cX9_partner 43 = .ok (.dup, 1) := by decide +kernel
theorem dX9_partner_44 : decode cX9_partner 44 = .ok (.ldc 156, 2) := by decide +kernel
theorem dX9_partner_46 : decode cX9_partner 46 = .ok (.invokespecial 158, 3) := by decide +kernel
theorem dX9_partner_49 : decode cX9_partner 49 = .ok (.athrow, 1) := by decide +kernel
theorem dX9_partner_50 : decode cX9_partner 50 = .ok (.iload_n 2, 1) := by decide +kernel
theorem dX9_partner_51 : decode cX9_partner 51 = .ok (.ireturn, 1) := by decide +kernel
theorem dX9_packed_0 : decode cX9_packed 0 = .ok (.aload_n 0, 1) := by decide +kernel
theorem dX9_packed_1 : decode cX9_packed 1 = .ok (.iload_n 1, 1) := by decide +kernel
theorem dX9_packed_2 : decode cX9_packed 2 = .ok (.invokevirtual 112, 3) := by decide +kernel
theorem dX9_packed_5 : decode cX9_packed 5 = .ok (.aload_n 0, 1) := by decide +kernel
theorem dX9_packed_6 : decode cX9_packed 6 = .ok (.getfield 12, 3) := by decide +kernel
theorem dX9_packed_9 : decode cX9_packed 9 = .ok (.iload_n 1, 1) := by decide +kernel
theorem dX9_packed_10 : decode cX9_packed 10 = .ok (.invokevirtual 159, 3) := by decide +kernel
theorem dX9_packed_13 : decode cX9_packed 13 = .ok (.lreturn, 1) := by decide +kernel
theorem dX9_pairCount_0 : decode cX9_pairCount 0 = .ok (.iload_n 1, 1) := by decide +kernel
theorem dX9_pairCount_1 : decode cX9_pairCount 1 = .ok (.invokestatic 163, 3) := by decide +kernel
theorem dX9_pairCount_4 : decode cX9_pairCount 4 = .ok (.aload_n 0, 1) := by decide +kernel
theorem dX9_pairCount_5 : decode cX9_pairCount 5 = .ok (.getfield 12, 3) := by decide +kernel
theorem dX9_pairCount_8 : decode cX9_pairCount 8 = .ok (.iload_n 1, 1) := by decide +kernel
theorem dX9_pairCount_9 : decode cX9_pairCount 9 = .ok (.invokestatic 166, 3) := by decide +kernel
theorem dX9_pairCount_12 : decode cX9_pairCount 12 = .ok (.ireturn, 1) := by decide +kernel
theorem dX9_pairCountByParity_0 : decode cX9_pairCountByParity 0 = .ok (.iload_n 1, 1) := by decide +kernel
theorem dX9_pairCountByParity_1 : decode cX9_pairCountByParity 1 = .ok (.invokestatic 163, 3) := by decide +kernel
theorem dX9_pairCountByParity_4 : decode cX9_pairCountByParity 4 = .ok (.aload_n 0, 1) := by decide +kernel
theorem dX9_pairCountByParity_5 : decode cX9_pairCountByParity 5 = .ok (.getfield 12, 3) := by decide +kernel
theorem dX9_pairCountByParity_8 : decode cX9_pairCountByParity 8 = .ok (.iload_n 1, 1) := by decide +kernel
theorem dX9_pairCountByParity_9 : decode cX9_pairCountByParity 9 = .ok (.invokestatic 169, 3) := by decide +kernel
theorem dX9_pairCountByParity_12 : decode cX9_pairCountByParity 12 = .ok (.ireturn, 1) := by decide +kernel
theorem dX9_inBag_0 : decode cX9_inBag 0 = .ok (.iload_n 1, 1) := by decide +kernel
theorem dX9_inBag_1 : decode cX9_inBag 1 = .ok (.invokestatic 163, 3) := by decide +kernel
theorem dX9_inBag_4 : decode cX9_inBag 4 = .ok (.aload_n 0, 1) := by decide +kernel
theorem dX9_inBag_5 : decode cX9_inBag 5 = .ok (.getfield 12, 3) := by decide +kernel
theorem dX9_inBag_8 : decode cX9_inBag 8 = .ok (.iload_n 1, 1) := by decide +kernel
theorem dX9_inBag_9 : decode cX9_inBag 9 = .ok (.invokevirtual 172, 3) := by decide +kernel
theorem dX9_inBag_12 : decode cX9_inBag 12 = .ok (.ireturn, 1) := by decide +kernel
theorem dX9_lost_0 : decode cX9_lost 0 = .ok (.aload_n 0, 1) := by decide +kernel
theorem dX9_lost_1 : decode cX9_lost 1 = .ok (.getfield 12, 3) := by decide +kernel
theorem dX9_lost_4 : decode cX9_lost 4 = .ok (.iconst 3, 1) := by decide +kernel
theorem dX9_lost_5 : decode cX9_lost 5 = .ok (.invokevirtual 175, 3) := by decide +kernel
theorem dX9_lost_8 : decode cX9_lost 8 = .ok (.ireturn, 1) := by decide +kernel
theorem dX9_inMachine_0 : decode cX9_inMachine 0 = .ok (.iload_n 1, 1) := by decide +kernel
theorem dX9_inMachine_1 : decode cX9_inMachine 1 = .ok (.invokestatic 178, 3) := by decide +kernel
theorem dX9_inMachine_4 : decode cX9_inMachine 4 = .ok (.aload_n 0, 1) := by decide +kernel
theorem dX9_inMachine_5 : decode cX9_inMachine 5 = .ok (.getfield 12, 3) := by decide +kernel
theorem dX9_inMachine_8 : decode cX9_inMachine 8 = .ok (.iconst 1, 1) := by decide +kernel
theorem dX9_inMachine_9 : decode cX9_inMachine 9 = .ok (.iload_n 1, 1) := by decide +kernel
theorem dX9_inMachine_10 : decode cX9_inMachine 10 = .ok (.iadd, 1) := by decide +kernel
theorem dX9_inMachine_11 : decode cX9_inMachine 11 = .ok (.invokevirtual 175, 3) := by decide +kernel
theorem dX9_inMachine_14 : decode cX9_inMachine 14 = .ok (.ireturn, 1) := by decide +kernel
theorem dX9_temperature_0 : decode cX9_temperature 0 = .ok (.iload_n 1, 1) := by decide +kernel
theorem dX9_temperature_1 : decode cX9_temperature 1 = .ok (.invokestatic 178, 3) := by decide +kernel
theorem dX9_temperature_4 : decode cX9_temperature 4 = .ok (.aload_n 0, 1) := by decide +kernel
theorem dX9_temperature_5 : decode cX9_temperature 5 = .ok (.getfield 12, 3) := by decide +kernel
theorem dX9_temperature_8 : decode cX9_temperature 8 = .ok (.iload_n 1, 1) := by decide +kernel
theorem dX9_temperature_9 : decode cX9_temperature 9 = .ok (.invokevirtual 92, 3) := by decide +kernel
theorem dX9_temperature_12 : decode cX9_temperature 12 = .ok (.freturn, 1) := by decide +kernel
theorem dX9_temperatureBits_0 : decode cX9_temperatureBits 0 = .ok (.iload_n 1, 1) := by decide +kernel
theorem dX9_temperatureBits_1 : decode cX9_temperatureBits 1 = .ok (.invokestatic 178, 3) := by decide +kernel
theorem dX9_temperatureBits_4 : decode cX9_temperatureBits 4 = .ok (.aload_n 0, 1) := by decide +kernel
theorem dX9_temperatureBits_5 : decode cX9_temperatureBits 5 = .ok (.getfield 12, 3) := by decide +kernel
theorem dX9_temperatureBits_8 : decode cX9_temperatureBits 8 = .ok (.iload_n 1, 1) := by decide +kernel
theorem dX9_temperatureBits_9 : decode cX9_temperatureBits 9 = .ok (.invokevirtual 92, 3) := by decide +kernel
theorem dX9_temperatureBits_12 : decode cX9_temperatureBits 12 = .ok (.invokestatic 181, 3) := by decide +kernel
theorem dX9_temperatureBits_15 : decode cX9_temperatureBits 15 = .ok (.ireturn, 1) := by decide +kernel
theorem dX9_washableStains_0 : decode cX9_washableStains 0 = .ok (.iload_n 1, 1) := by decide +kernel
theorem dX9_washableStains_1 : decode cX9_washableStains 1 = .ok (.invokestatic 178, 3) := by decide +kernel
theorem dX9_washableStains_4 : decode cX9_washableStains 4 = .ok (.aload_n 0, 1) := by decide +kernel
theorem dX9_washableStains_5 : decode cX9_washableStains 5 = .ok (.getfield 12, 3) := by decide +kernel
theorem dX9_washableStains_8 : decode cX9_washableStains 8 = .ok (.getfield 96, 3) := by decide +kernel
theorem dX9_washableStains_11 : decode cX9_washableStains 11 = .ok (.iload_n 1, 1) := by decide +kernel
theorem dX9_washableStains_12 : decode cX9_washableStains 12 = .ok (.iaload, 1) := by decide +kernel
theorem dX9_washableStains_13 : decode cX9_washableStains 13 = .ok (.invokestatic 185, 3) := by decide +kernel
theorem dX9_washableStains_16 : decode cX9_washableStains 16 = .ok (.ireturn, 1) := by decide +kernel
theorem dX9_commonStains_0 : decode cX9_commonStains 0 = .ok (.iload_n 1, 1) := by decide +kernel
theorem dX9_commonStains_1 : decode cX9_commonStains 1 = .ok (.invokestatic 178, 3) := by decide +kernel
theorem dX9_commonStains_4 : decode cX9_commonStains 4 = .ok (.aload_n 0, 1) := by decide +kernel
theorem dX9_commonStains_5 : decode cX9_commonStains 5 = .ok (.getfield 12, 3) := by decide +kernel
theorem dX9_commonStains_8 : decode cX9_commonStains 8 = .ok (.iload_n 1, 1) := by decide +kernel
theorem dX9_commonStains_9 : decode cX9_commonStains 9 = .ok (.invokevirtual 188, 3) := by decide +kernel
theorem dX9_commonStains_12 : decode cX9_commonStains 12 = .ok (.ireturn, 1) := by decide +kernel
theorem dX9_coloursIn_0 : decode cX9_coloursIn 0 = .ok (.iload_n 1, 1) := by decide +kernel
theorem dX9_coloursIn_1 : decode cX9_coloursIn 1 = .ok (.invokestatic 178, 3) := by decide +kernel
theorem dX9_coloursIn_4 : decode cX9_coloursIn 4 = .ok (.aload_n 0, 1) := by decide +kernel
theorem dX9_coloursIn_5 : decode cX9_coloursIn 5 = .ok (.getfield 12, 3) := by decide +kernel
theorem dX9_coloursIn_8 : decode cX9_coloursIn 8 = .ok (.iload_n 1, 1) := by decide +kernel
theorem dX9_coloursIn_9 : decode cX9_coloursIn 9 = .ok (.invokevirtual 191, 3) := by decide +kernel
theorem dX9_coloursIn_12 : decode cX9_coloursIn 12 = .ok (.ireturn, 1) := by decide +kernel
theorem dX9_damage_0 : decode cX9_damage 0 = .ok (.iload_n 1, 1) := by decide +kernel
theorem dX9_damage_1 : decode cX9_damage 1 = .ok (.invokestatic 178, 3) := by decide +kernel
theorem dX9_damage_4 : decode cX9_damage 4 = .ok (.aload_n 0, 1) := by decide +kernel
theorem dX9_damage_5 : decode cX9_damage 5 = .ok (.iload_n 1, 1) := by decide +kernel
theorem dX9_damage_6 : decode cX9_damage 6 = .ok (.invokevirtual 194, 3) := by decide +kernel
theorem dX9_damage_9 : decode cX9_damage 9 = .ok (.ireturn, 1) := by decide +kernel
theorem dX9_damageByMasks_0 : decode cX9_damageByMasks 0 = .ok (.iload_n 1, 1) := by decide +kernel
theorem dX9_damageByMasks_1 : decode cX9_damageByMasks 1 = .ok (.invokestatic 178, 3) := by decide +kernel
theorem dX9_damageByMasks_4 : decode cX9_damageByMasks 4 = .ok (.aload_n 0, 1) := by decide +kernel
theorem dX9_damageByMasks_5 : decode cX9_damageByMasks 5 = .ok (.getfield 12, 3) := by decide +kernel
theorem dX9_damageByMasks_8 : decode cX9_damageByMasks 8 = .ok (.iload_n 1, 1) := by decide +kernel
theorem dX9_damageByMasks_9 : decode cX9_damageByMasks 9 = .ok (.aload_n 0, 1) := by decide +kernel
theorem dX9_damageByMasks_10 : decode cX9_damageByMasks 10 = .ok (.getfield 12, 3) := by decide +kernel
theorem dX9_damageByMasks_13 : decode cX9_damageByMasks 13 = .ok (.getfield 96, 3) := by decide +kernel
theorem dX9_damageByMasks_16 : decode cX9_damageByMasks 16 = .ok (.iload_n 1, 1) := by decide +kernel
theorem dX9_damageByMasks_17 : decode cX9_damageByMasks 17 = .ok (.iaload, 1) := by decide +kernel
theorem dX9_damageByMasks_18 : decode cX9_damageByMasks 18 = .ok (.invokestatic 197, 3) := by decide +kernel
theorem dX9_damageByMasks_21 : decode cX9_damageByMasks 21 = .ok (.ireturn, 1) := by decide +kernel
theorem dX9_bestTemperature_0 : decode cX9_bestTemperature 0 = .ok (.iload_n 1, 1) := by decide +kernel
theorem dX9_bestTemperature_1 : decode cX9_bestTemperature 1 = .ok (.invokestatic 178, 3) := by decide +kernel
theorem dX9_bestTemperature_4 : decode cX9_bestTemperature 4 = .ok (.aload_n 0, 1) := by decide +kernel
theorem dX9_bestTemperature_5 : decode cX9_bestTemperature 5 = .ok (.getfield 12, 3) := by decide +kernel
theorem dX9_bestTemperature_8 : decode cX9_bestTemperature 8 = .ok (.iload_n 1, 1) := by decide +kernel
theorem dX9_bestTemperature_9 : decode cX9_bestTemperature 9 = .ok (.invokevirtual 78, 3) := by decide +kernel
theorem dX9_bestTemperature_12 : decode cX9_bestTemperature 12 = .ok (.ifCond .ne 13, 3) := by decide +kernel
theorem dX9_bestTemperature_15 : decode cX9_bestTemperature 15 = .ok (.new 201, 3) := by decide +kernel
theorem dX9_bestTemperature_18 : decode cX9_bestTemperature 18 = .ok (.dup, 1) := by decide +kernel
theorem dX9_bestTemperature_19 : decode cX9_bestTemperature 19 = .ok (.ldc 203, 2) := by decide +kernel
theorem dX9_bestTemperature_21 : decode cX9_bestTemperature 21 = .ok (.invokespecial 205, 3) := by decide +kernel
theorem dX9_bestTemperature_24 : decode cX9_bestTemperature 24 = .ok (.athrow, 1) := by decide +kernel
theorem dX9_bestTemperature_25 : decode cX9_bestTemperature 25 = .ok (.aload_n 0, 1) := by decide +kernel
theorem dX9_bestTemperature_26 : decode cX9_bestTemperature 26 = .ok (.getfield 12, 3) := by decide +kernel
theorem dX9_bestTemperature_29 : decode cX9_bestTemperature 29 = .ok (.iload_n 1, 1) := by decide +kernel
theorem dX9_bestTemperature_30 : decode cX9_bestTemperature 30 = .ok (.invokestatic 206, 3) := by decide +kernel
theorem dX9_bestTemperature_33 : decode cX9_bestTemperature 33 = .ok (.ireturn, 1) := by decide +kernel
theorem dX9_price_0 : decode cX9_price 0 = .ok (.iload_n 1, 1) := by decide +kernel
theorem dX9_price_1 : decode cX9_price 1 = .ok (.invokestatic 178, 3) := by decide +kernel
theorem dX9_price_4 : decode cX9_price 4 = .ok (.iload_n 2, 1) := by decide +kernel
theorem dX9_price_5 : decode cX9_price 5 = .ok (.invokestatic 163, 3) := by decide +kernel
theorem dX9_price_8 : decode cX9_price 8 = .ok (.aload_n 0, 1) := by decide +kernel
theorem dX9_price_9 : decode cX9_price 9 = .ok (.getfield 12, 3) := by decide +kernel
theorem dX9_price_12 : decode cX9_price 12 = .ok (.iload_n 1, 1) := by decide +kernel
theorem dX9_price_13 : decode cX9_price 13 = .ok (.iload_n 2, 1) := by decide +kernel
theorem dX9_price_14 : decode cX9_price 14 = .ok (.invokevirtual 209, 3) := by decide +kernel
theorem dX9_price_17 : decode cX9_price 17 = .ok (.freturn, 1) := by decide +kernel
theorem dX9_paid_0 : decode cX9_paid 0 = .ok (.iload_n 1, 1) := by decide +kernel
theorem dX9_paid_1 : decode cX9_paid 1 = .ok (.invokestatic 163, 3) := by decide +kernel
theorem dX9_paid_4 : decode cX9_paid 4 = .ok (.aload_n 0, 1) := by decide +kernel
theorem dX9_paid_5 : decode cX9_paid 5 = .ok (.getfield 12, 3) := by decide +kernel
theorem dX9_paid_8 : decode cX9_paid 8 = .ok (.getfield 213, 3) := by decide +kernel
theorem dX9_paid_11 : decode cX9_paid 11 = .ok (.iload_n 1, 1) := by decide +kernel
theorem dX9_paid_12 : decode cX9_paid 12 = .ok (.faload, 1) := by decide +kernel
theorem dX9_paid_13 : decode cX9_paid 13 = .ok (.freturn, 1) := by decide +kernel
theorem dX9_paidBits_0 : decode cX9_paidBits 0 = .ok (.iload_n 1, 1) := by decide +kernel
theorem dX9_paidBits_1 : decode cX9_paidBits 1 = .ok (.invokestatic 163, 3) := by decide +kernel
theorem dX9_paidBits_4 : decode cX9_paidBits 4 = .ok (.aload_n 0, 1) := by decide +kernel
theorem dX9_paidBits_5 : decode cX9_paidBits 5 = .ok (.getfield 12, 3) := by decide +kernel
theorem dX9_paidBits_8 : decode cX9_paidBits 8 = .ok (.getfield 213, 3) := by decide +kernel
theorem dX9_paidBits_11 : decode cX9_paidBits 11 = .ok (.iload_n 1, 1) := by decide +kernel
theorem dX9_paidBits_12 : decode cX9_paidBits 12 = .ok (.faload, 1) := by decide +kernel
theorem dX9_paidBits_13 : decode cX9_paidBits 13 = .ok (.invokestatic 181, 3) := by decide +kernel
theorem dX9_paidBits_16 : decode cX9_paidBits 16 = .ok (.ireturn, 1) := by decide +kernel
theorem dX9_runCount_0 : decode cX9_runCount 0 = .ok (.aload_n 0, 1) := by decide +kernel
theorem dX9_runCount_1 : decode cX9_runCount 1 = .ok (.getfield 12, 3) := by decide +kernel
theorem dX9_runCount_4 : decode cX9_runCount 4 = .ok (.getfield 217, 3) := by decide +kernel
theorem dX9_runCount_7 : decode cX9_runCount 7 = .ok (.ireturn, 1) := by decide +kernel
theorem dX9_dirtiest_0 : decode cX9_dirtiest 0 = .ok (.iconst 0, 1) := by decide +kernel
theorem dX9_dirtiest_1 : decode cX9_dirtiest 1 = .ok (.istore_n 2, 1) := by decide +kernel
theorem dX9_dirtiest_2 : decode cX9_dirtiest 2 = .ok (.iload_n 2, 1) := by decide +kernel
theorem dX9_dirtiest_3 : decode cX9_dirtiest 3 = .ok (.aload_n 0, 1) := by decide +kernel
theorem dX9_dirtiest_4 : decode cX9_dirtiest 4 = .ok (.getfield 12, 3) := by decide +kernel
theorem dX9_dirtiest_7 : decode cX9_dirtiest 7 = .ok (.getfield 109, 3) := by decide +kernel
theorem dX9_dirtiest_10 : decode cX9_dirtiest 10 = .ok (.if_icmp .ge 33, 3) := by decide +kernel
theorem dX9_dirtiest_13 : decode cX9_dirtiest 13 = .ok (.aload_n 0, 1) := by decide +kernel
theorem dX9_dirtiest_14 : decode cX9_dirtiest 14 = .ok (.getfield 12, 3) := by decide +kernel
theorem dX9_dirtiest_17 : decode cX9_dirtiest 17 = .ok (.getfield 132, 3) := by decide +kernel
theorem dX9_dirtiest_20 : decode cX9_dirtiest 20 = .ok (.iload_n 2, 1) := by decide +kernel
theorem dX9_dirtiest_21 : decode cX9_dirtiest 21 = .ok (.iaload, 1) := by decide +kernel
theorem dX9_dirtiest_22 : decode cX9_dirtiest 22 = .ok (.iconst 3, 1) := by decide +kernel
theorem dX9_dirtiest_23 : decode cX9_dirtiest 23 = .ok (.if_icmp .eq 14, 3) := by decide +kernel
theorem dX9_dirtiest_26 : decode cX9_dirtiest 26 = .ok (.aload_n 0, 1) := by decide +kernel
theorem dX9_dirtiest_27 : decode cX9_dirtiest 27 = .ok (.iload_n 2, 1) := by decide +kernel
theorem dX9_dirtiest_28 : decode cX9_dirtiest 28 = .ok (.invokevirtual 220, 3) := by decide +kernel
theorem dX9_dirtiest_31 : decode cX9_dirtiest 31 = .ok (.iload_n 1, 1) := by decide +kernel
theorem dX9_dirtiest_32 : decode cX9_dirtiest 32 = .ok (.if_icmp .ne 5, 3) := by decide +kernel
theorem dX9_dirtiest_35 : decode cX9_dirtiest 35 = .ok (.iload_n 2, 1) := by decide +kernel
theorem dX9_dirtiest_36 : decode cX9_dirtiest 36 = .ok (.ireturn, 1) := by decide +kernel
theorem dX9_dirtiest_37 : decode cX9_dirtiest 37 = .ok (.iinc 2 1, 3) := by decide +kernel
theorem dX9_dirtiest_40 : decode cX9_dirtiest 40 = .ok (.goto (-38), 3) := by decide +kernel
theorem dX9_dirtiest_43 : decode cX9_dirtiest 43 = .ok (.new 154, 3) := by decide +kernel
theorem dX9_dirtiest_46 : decode cX9_dirtiest 46 = .ok (.dup, 1) := by decide +kernel
theorem dX9_dirtiest_47 : decode cX9_dirtiest 47 = .ok (.ldc 223, 2) := by decide +kernel
theorem dX9_dirtiest_49 : decode cX9_dirtiest 49 = .ok (.invokespecial 158, 3) := by decide +kernel
theorem dX9_dirtiest_52 : decode cX9_dirtiest 52 = .ok (.athrow, 1) := by decide +kernel
theorem dX9_spender_0 : decode cX9_spender 0 = .ok (.iconst 0, 1) := by decide +kernel
theorem dX9_spender_1 : decode cX9_spender 1 = .ok (.istore_n 2, 1) := by decide +kernel
theorem dX9_spender_2 : decode cX9_spender 2 = .ok (.iload_n 2, 1) := by decide +kernel
theorem dX9_spender_3 : decode cX9_spender 3 = .ok (.iconst 4, 1) := by decide +kernel
theorem dX9_spender_4 : decode cX9_spender 4 = .ok (.if_icmp .ge 20, 3) := by decide +kernel
theorem dX9_spender_7 : decode cX9_spender 7 = .ok (.aload_n 0, 1) := by decide +kernel
theorem dX9_spender_8 : decode cX9_spender 8 = .ok (.iload_n 2, 1) := by decide +kernel
theorem dX9_spender_9 : decode cX9_spender 9 = .ok (.invokevirtual 225, 3) := by decide +kernel
theorem dX9_spender_12 : decode cX9_spender 12 = .ok (.iload_n 1, 1) := by decide +kernel
theorem dX9_spender_13 : decode cX9_spender 13 = .ok (.if_icmp .ne 5, 3) := by decide +kernel
theorem dX9_spender_16 : decode cX9_spender 16 = .ok (.iload_n 2, 1) := by decide +kernel
theorem dX9_spender_17 : decode cX9_spender 17 = .ok (.ireturn, 1) := by decide +kernel
theorem dX9_spender_18 : decode cX9_spender 18 = .ok (.iinc 2 1, 3) := by decide +kernel
theorem dX9_spender_21 : decode cX9_spender 21 = .ok (.goto (-19), 3) := by decide +kernel
theorem dX9_spender_24 : decode cX9_spender 24 = .ok (.new 154, 3) := by decide +kernel
theorem dX9_spender_27 : decode cX9_spender 27 = .ok (.dup, 1) := by decide +kernel
theorem dX9_spender_28 : decode cX9_spender 28 = .ok (.ldc 228, 2) := by decide +kernel
theorem dX9_spender_30 : decode cX9_spender 30 = .ok (.invokespecial 158, 3) := by decide +kernel
theorem dX9_spender_33 : decode cX9_spender 33 = .ok (.athrow, 1) := by decide +kernel
theorem dX9_meanStains_0 : decode cX9_meanStains 0 = .ok (.iconst 0, 1) := by decide +kernel
theorem dX9_meanStains_1 : decode cX9_meanStains 1 = .ok (.istore_n 1, 1) := by decide +kernel
theorem dX9_meanStains_2 : decode cX9_meanStains 2 = .ok (.iconst 0, 1) := by decide +kernel
theorem dX9_meanStains_3 : decode cX9_meanStains 3 = .ok (.istore_n 2, 1) := by decide +kernel
theorem dX9_meanStains_4 : decode cX9_meanStains 4 = .ok (.iconst 0, 1) := by decide +kernel
theorem dX9_meanStains_5 : decode cX9_meanStains 5 = .ok (.istore_n 3, 1) := by decide +kernel
theorem dX9_meanStains_6 : decode cX9_meanStains 6 = .ok (.iload_n 3, 1) := by decide +kernel
theorem dX9_meanStains_7 : decode cX9_meanStains 7 = .ok (.aload_n 0, 1) := by decide +kernel
theorem dX9_meanStains_8 : decode cX9_meanStains 8 = .ok (.getfield 12, 3) := by decide +kernel
theorem dX9_meanStains_11 : decode cX9_meanStains 11 = .ok (.getfield 109, 3) := by decide +kernel
theorem dX9_meanStains_14 : decode cX9_meanStains 14 = .ok (.if_icmp .ge 36, 3) := by decide +kernel
theorem dX9_meanStains_17 : decode cX9_meanStains 17 = .ok (.aload_n 0, 1) := by decide +kernel
theorem dX9_meanStains_18 : decode cX9_meanStains 18 = .ok (.getfield 12, 3) := by decide +kernel
theorem dX9_meanStains_21 : decode cX9_meanStains 21 = .ok (.getfield 132, 3) := by decide +kernel
theorem dX9_meanStains_24 : decode cX9_meanStains 24 = .ok (.iload_n 3, 1) := by decide +kernel
theorem dX9_meanStains_25 : decode cX9_meanStains 25 = .ok (.iaload, 1) := by decide +kernel
theorem dX9_meanStains_26 : decode cX9_meanStains 26 = .ok (.iconst 3, 1) := by decide +kernel
theorem dX9_meanStains_27 : decode cX9_meanStains 27 = .ok (.if_icmp .eq 17, 3) := by decide +kernel
theorem dX9_meanStains_30 : decode cX9_meanStains 30 = .ok (.iload_n 1, 1) := by decide +kernel
theorem dX9_meanStains_31 : decode cX9_meanStains 31 = .ok (.aload_n 0, 1) := by decide +kernel
theorem dX9_meanStains_32 : decode cX9_meanStains 32 = .ok (.getfield 12, 3) := by decide +kernel
theorem dX9_meanStains_35 : decode cX9_meanStains 35 = .ok (.iload_n 3, 1) := by decide +kernel
theorem dX9_meanStains_36 : decode cX9_meanStains 36 = .ok (.invokevirtual 129, 3) := by decide +kernel
theorem dX9_meanStains_39 : decode cX9_meanStains 39 = .ok (.iadd, 1) := by decide +kernel
theorem dX9_meanStains_40 : decode cX9_meanStains 40 = .ok (.istore_n 1, 1) := by decide +kernel
theorem dX9_meanStains_41 : decode cX9_meanStains 41 = .ok (.iinc 2 1, 3) := by decide +kernel
theorem dX9_meanStains_44 : decode cX9_meanStains 44 = .ok (.iinc 3 1, 3) := by decide +kernel
theorem dX9_meanStains_47 : decode cX9_meanStains 47 = .ok (.goto (-41), 3) := by decide +kernel
theorem dX9_meanStains_50 : decode cX9_meanStains 50 = .ok (.iload_n 2, 1) := by decide +kernel
theorem dX9_meanStains_51 : decode cX9_meanStains 51 = .ok (.ifCond .ne 13, 3) := by decide +kernel
theorem dX9_meanStains_54 : decode cX9_meanStains 54 = .ok (.new 230, 3) := by decide +kernel
theorem dX9_meanStains_57 : decode cX9_meanStains 57 = .ok (.dup, 1) := by decide +kernel
theorem dX9_meanStains_58 : decode cX9_meanStains 58 = .ok (.ldc 232, 2) := by decide +kernel
theorem dX9_meanStains_60 : decode cX9_meanStains 60 = .ok (.invokespecial 234, 3) := by decide +kernel
theorem dX9_meanStains_63 : decode cX9_meanStains 63 = .ok (.athrow, 1) := by decide +kernel
theorem dX9_meanStains_64 : decode cX9_meanStains 64 = .ok (.iload_n 1, 1) := by decide +kernel
theorem dX9_meanStains_65 : decode cX9_meanStains 65 = .ok (.i2d, 1) := by decide +kernel
theorem dX9_meanStains_66 : decode cX9_meanStains 66 = .ok (.iload_n 2, 1) := by decide +kernel
theorem dX9_meanStains_67 : decode cX9_meanStains 67 = .ok (.i2d, 1) := by decide +kernel
theorem dX9_meanStains_68 : decode cX9_meanStains 68 = .ok (.ddiv, 1) := by decide +kernel
theorem dX9_meanStains_69 : decode cX9_meanStains 69 = .ok (.dreturn, 1) := by decide +kernel
theorem dX9_lostShare_0 : decode cX9_lostShare 0 = .ok (.aload_n 0, 1) := by decide +kernel
theorem dX9_lostShare_1 : decode cX9_lostShare 1 = .ok (.getfield 12, 3) := by decide +kernel
theorem dX9_lostShare_4 : decode cX9_lostShare 4 = .ok (.getfield 109, 3) := by decide +kernel
theorem dX9_lostShare_7 : decode cX9_lostShare 7 = .ok (.ifCond .ne 13, 3) := by decide +kernel
theorem dX9_lostShare_10 : decode cX9_lostShare 10 = .ok (.new 230, 3) := by decide +kernel
theorem dX9_lostShare_13 : decode cX9_lostShare 13 = .ok (.dup, 1) := by decide +kernel
theorem dX9_lostShare_14 : decode cX9_lostShare 14 = .ok (.ldc 235, 2) := by decide +kernel
theorem dX9_lostShare_16 : decode cX9_lostShare 16 = .ok (.invokespecial 234, 3) := by decide +kernel
theorem dX9_lostShare_19 : decode cX9_lostShare 19 = .ok (.athrow, 1) := by decide +kernel
theorem dX9_lostShare_20 : decode cX9_lostShare 20 = .ok (.aload_n 0, 1) := by decide +kernel
theorem dX9_lostShare_21 : decode cX9_lostShare 21 = .ok (.getfield 12, 3) := by decide +kernel
theorem dX9_lostShare_24 : decode cX9_lostShare 24 = .ok (.iconst 3, 1) := by decide +kernel
theorem dX9_lostShare_25 : decode cX9_lostShare 25 = .ok (.invokevirtual 175, 3) := by decide +kernel
theorem dX9_lostShare_28 : decode cX9_lostShare 28 = .ok (.invokestatic 237, 3) := by decide +kernel
theorem dX9_lostShare_31 : decode cX9_lostShare 31 = .ok (.istore_n 1, 1) := by decide +kernel
theorem dX9_lostShare_32 : decode cX9_lostShare 32 = .ok (.iload_n 1, 1) := by decide +kernel
theorem dX9_lostShare_33 : decode cX9_lostShare 33 = .ok (.i2f, 1) := by decide +kernel
theorem dX9_lostShare_34 : decode cX9_lostShare 34 = .ok (.aload_n 0, 1) := by decide +kernel
theorem dX9_lostShare_35 : decode cX9_lostShare 35 = .ok (.getfield 12, 3) := by decide +kernel
theorem dX9_lostShare_38 : decode cX9_lostShare 38 = .ok (.getfield 109, 3) := by decide +kernel
theorem dX9_lostShare_41 : decode cX9_lostShare 41 = .ok (.i2f, 1) := by decide +kernel
theorem dX9_lostShare_42 : decode cX9_lostShare 42 = .ok (.fdiv, 1) := by decide +kernel
theorem dX9_lostShare_43 : decode cX9_lostShare 43 = .ok (.freturn, 1) := by decide +kernel
theorem dX9_isConsistent_0 : decode cX9_isConsistent 0 = .ok (.aload_n 0, 1) := by decide +kernel
theorem dX9_isConsistent_1 : decode cX9_isConsistent 1 = .ok (.invokevirtual 242, 3) := by decide +kernel
theorem dX9_isConsistent_4 : decode cX9_isConsistent 4 = .ok (.ifCond .eq 14, 3) := by decide +kernel
theorem dX9_isConsistent_7 : decode cX9_isConsistent 7 = .ok (.aload_n 0, 1) := by decide +kernel
theorem dX9_isConsistent_8 : decode cX9_isConsistent 8 = .ok (.invokevirtual 246, 3) := by decide +kernel
theorem dX9_isConsistent_11 : decode cX9_isConsistent 11 = .ok (.ifCond .eq 7, 3) := by decide +kernel
theorem dX9_isConsistent_14 : decode cX9_isConsistent 14 = .ok (.iconst 1, 1) := by decide +kernel
theorem dX9_isConsistent_15 : decode cX9_isConsistent 15 = .ok (.goto 4, 3) := by decide +kernel
theorem dX9_isConsistent_18 : decode cX9_isConsistent 18 = .ok (.iconst 0, 1) := by decide +kernel
theorem dX9_isConsistent_19 : decode cX9_isConsistent 19 = .ok (.ireturn, 1) := by decide +kernel
theorem dX9_feed_0 : decode cX9_feed 0 = .ok (.aload_n 0, 1) := by decide +kernel
theorem dX9_feed_1 : decode cX9_feed 1 = .ok (.getfield 36, 3) := by decide +kernel
theorem dX9_feed_4 : decode cX9_feed 4 = .ok (.getfield 249, 3) := by decide +kernel
theorem dX9_feed_7 : decode cX9_feed 7 = .ok (.bipush 60, 2) := by decide +kernel
theorem dX9_feed_9 : decode cX9_feed 9 = .ok (.if_icmp .lt 13, 3) := by decide +kernel
theorem dX9_feed_12 : decode cX9_feed 12 = .ok (.new 201, 3) := by decide +kernel
theorem dX9_feed_15 : decode cX9_feed 15 = .ok (.dup, 1) := by decide +kernel
theorem dX9_feed_16 : decode cX9_feed 16 = .ok (.ldc 252, 2) := by decide +kernel
theorem dX9_feed_18 : decode cX9_feed 18 = .ok (.invokespecial 205, 3) := by decide +kernel
theorem dX9_feed_21 : decode cX9_feed 21 = .ok (.athrow, 1) := by decide +kernel
theorem dX9_feed_22 : decode cX9_feed 22 = .ok (.aload_n 0, 1) := by decide +kernel
theorem dX9_feed_23 : decode cX9_feed 23 = .ok (.getfield 36, 3) := by decide +kernel
theorem dX9_feed_26 : decode cX9_feed 26 = .ok (.iload_n 1, 1) := by decide +kernel
theorem dX9_feed_27 : decode cX9_feed 27 = .ok (.invokevirtual 254, 3) := by decide +kernel
theorem dX9_feed_30 : decode cX9_feed 30 = .ok (.ireturn, 1) := by decide +kernel
theorem dX9_runCommands_0 : decode cX9_runCommands 0 = .ok (.aload_n 0, 1) := by decide +kernel
theorem dX9_runCommands_1 : decode cX9_runCommands 1 = .ok (.getfield 36, 3) := by decide +kernel
theorem dX9_runCommands_4 : decode cX9_runCommands 4 = .ok (.invokevirtual 258, 3) := by decide +kernel
theorem dX9_runCommands_7 : decode cX9_runCommands 7 = .ok (.istore_n 1, 1) := by decide +kernel
theorem dX9_runCommands_8 : decode cX9_runCommands 8 = .ok (.aload_n 0, 1) := by decide +kernel
theorem dX9_runCommands_9 : decode cX9_runCommands 9 = .ok (.getfield 36, 3) := by decide +kernel
theorem dX9_runCommands_12 : decode cX9_runCommands 12 = .ok (.invokevirtual 261, 3) := by decide +kernel
theorem dX9_runCommands_15 : decode cX9_runCommands 15 = .ok (.iload_n 1, 1) := by decide +kernel
theorem dX9_runCommands_16 : decode cX9_runCommands 16 = .ok (.ifCond .ne 25, 3) := by decide +kernel
theorem dX9_runCommands_19 : decode cX9_runCommands 19 = .ok (.aload_n 0, 1) := by decide +kernel
theorem dX9_runCommands_20 : decode cX9_runCommands 20 = .ok (.aload_n 0, 1) := by decide +kernel
theorem dX9_runCommands_21 : decode cX9_runCommands 21 = .ok (.getfield 36, 3) := by decide +kernel
theorem dX9_runCommands_24 : decode cX9_runCommands 24 = .ok (.getfield 264, 3) := by decide +kernel
theorem dX9_runCommands_27 : decode cX9_runCommands 27 = .ok (.putfield 47, 3) := by decide +kernel
theorem dX9_runCommands_30 : decode cX9_runCommands 30 = .ok (.new 267, 3) := by decide +kernel
theorem dX9_runCommands_33 : decode cX9_runCommands 33 = .ok (.dup, 1) := by decide +kernel
theorem dX9_runCommands_34 : decode cX9_runCommands 34 = .ok (.ldc_w 269, 3) := by decide +kernel
theorem dX9_runCommands_37 : decode cX9_runCommands 37 = .ok (.invokespecial 271, 3) := by decide +kernel
theorem dX9_runCommands_40 : decode cX9_runCommands 40 = .ok (.athrow, 1) := by decide +kernel
theorem dX9_runCommands_41 : decode cX9_runCommands 41 = .ok (.aload_n 0, 1) := by decide +kernel
theorem dX9_runCommands_42 : decode cX9_runCommands 42 = .ok (.getfield 29, 3) := by decide +kernel
theorem dX9_runCommands_45 : decode cX9_runCommands 45 = .ok (.aload_n 0, 1) := by decide +kernel
theorem dX9_runCommands_46 : decode cX9_runCommands 46 = .ok (.getfield 12, 3) := by decide +kernel
theorem dX9_runCommands_49 : decode cX9_runCommands 49 = .ok (.invokevirtual 272, 3) := by decide +kernel
theorem dX9_runCommands_52 : decode cX9_runCommands 52 = .ok (.aload_n 0, 1) := by decide +kernel
theorem dX9_runCommands_53 : decode cX9_runCommands 53 = .ok (.invokevirtual 275, 3) := by decide +kernel
theorem dX9_runCommands_56 : decode cX9_runCommands 56 = .ok (.istore_n 2, 1) := by decide +kernel
theorem dX9_runCommands_57 : decode cX9_runCommands 57 = .ok (.iload_n 2, 1) := by decide +kernel
theorem dX9_runCommands_58 : decode cX9_runCommands 58 = .ok (.aload_n 0, 1) := by decide +kernel
theorem dX9_runCommands_59 : decode cX9_runCommands 59 = .ok (.getfield 36, 3) := by decide +kernel
theorem dX9_runCommands_62 : decode cX9_runCommands 62 = .ok (.getfield 279, 3) := by decide +kernel
theorem dX9_runCommands_65 : decode cX9_runCommands 65 = .ok (.if_icmp .ge 30, 3) := by decide +kernel
theorem dX9_runCommands_68 : decode cX9_runCommands 68 = .ok (.aload_n 0, 1) := by decide +kernel
theorem dX9_runCommands_69 : decode cX9_runCommands 69 = .ok (.getfield 29, 3) := by decide +kernel
theorem dX9_runCommands_72 : decode cX9_runCommands 72 = .ok (.aload_n 0, 1) := by decide +kernel
theorem dX9_runCommands_73 : decode cX9_runCommands 73 = .ok (.getfield 12, 3) := by decide +kernel
theorem dX9_runCommands_76 : decode cX9_runCommands 76 = .ok (.invokevirtual 282, 3) := by decide +kernel
theorem dX9_runCommands_79 : decode cX9_runCommands 79 = .ok (.aload_n 0, 1) := by decide +kernel
theorem dX9_runCommands_80 : decode cX9_runCommands 80 = .ok (.iload_n 2, 1) := by decide +kernel
theorem dX9_runCommands_81 : decode cX9_runCommands 81 = .ok (.putfield 51, 3) := by decide +kernel
theorem dX9_runCommands_84 : decode cX9_runCommands 84 = .ok (.new 142, 3) := by decide +kernel
theorem dX9_runCommands_87 : decode cX9_runCommands 87 = .ok (.dup, 1) := by decide +kernel
theorem dX9_runCommands_88 : decode cX9_runCommands 88 = .ok (.ldc_w 285, 3) := by decide +kernel
theorem dX9_runCommands_91 : decode cX9_runCommands 91 = .ok (.invokespecial 146, 3) := by decide +kernel
theorem dX9_runCommands_94 : decode cX9_runCommands 94 = .ok (.athrow, 1) := by decide +kernel
theorem dX9_runCommands_95 : decode cX9_runCommands 95 = .ok (.aload_n 0, 1) := by decide +kernel
theorem dX9_runCommands_96 : decode cX9_runCommands 96 = .ok (.getfield 29, 3) := by decide +kernel
theorem dX9_runCommands_99 : decode cX9_runCommands 99 = .ok (.invokevirtual 287, 3) := by decide +kernel
theorem dX9_runCommands_102 : decode cX9_runCommands 102 = .ok (.aload_n 0, 1) := by decide +kernel
theorem dX9_runCommands_103 : decode cX9_runCommands 103 = .ok (.getfield 36, 3) := by decide +kernel
theorem dX9_runCommands_106 : decode cX9_runCommands 106 = .ok (.getfield 279, 3) := by decide +kernel
theorem dX9_runCommands_109 : decode cX9_runCommands 109 = .ok (.ireturn, 1) := by decide +kernel
theorem dX9_errorPosition_0 : decode cX9_errorPosition 0 = .ok (.aload_n 0, 1) := by decide +kernel
theorem dX9_errorPosition_1 : decode cX9_errorPosition 1 = .ok (.getfield 47, 3) := by decide +kernel
theorem dX9_errorPosition_4 : decode cX9_errorPosition 4 = .ok (.ifCond .ge 14, 3) := by decide +kernel
theorem dX9_errorPosition_7 : decode cX9_errorPosition 7 = .ok (.new 154, 3) := by decide +kernel
theorem dX9_errorPosition_10 : decode cX9_errorPosition 10 = .ok (.dup, 1) := by decide +kernel
theorem dX9_errorPosition_11 : decode cX9_errorPosition 11 = .ok (.ldc_w 290, 3) := by decide +kernel
theorem dX9_errorPosition_14 : decode cX9_errorPosition 14 = .ok (.invokespecial 158, 3) := by decide +kernel
theorem dX9_errorPosition_17 : decode cX9_errorPosition 17 = .ok (.athrow, 1) := by decide +kernel
theorem dX9_errorPosition_18 : decode cX9_errorPosition 18 = .ok (.aload_n 0, 1) := by decide +kernel
theorem dX9_errorPosition_19 : decode cX9_errorPosition 19 = .ok (.getfield 47, 3) := by decide +kernel
theorem dX9_errorPosition_22 : decode cX9_errorPosition 22 = .ok (.ireturn, 1) := by decide +kernel
theorem dX9_failedCommand_0 : decode cX9_failedCommand 0 = .ok (.aload_n 0, 1) := by decide +kernel
theorem dX9_failedCommand_1 : decode cX9_failedCommand 1 = .ok (.getfield 51, 3) := by decide +kernel
theorem dX9_failedCommand_4 : decode cX9_failedCommand 4 = .ok (.ifCond .ge 14, 3) := by decide +kernel
theorem dX9_failedCommand_7 : decode cX9_failedCommand 7 = .ok (.new 154, 3) := by decide +kernel
theorem dX9_failedCommand_10 : decode cX9_failedCommand 10 = .ok (.dup, 1) := by decide +kernel
theorem dX9_failedCommand_11 : decode cX9_failedCommand 11 = .ok (.ldc_w 292, 3) := by decide +kernel
theorem dX9_failedCommand_14 : decode cX9_failedCommand 14 = .ok (.invokespecial 158, 3) := by decide +kernel
theorem dX9_failedCommand_17 : decode cX9_failedCommand 17 = .ok (.athrow, 1) := by decide +kernel
theorem dX9_failedCommand_18 : decode cX9_failedCommand 18 = .ok (.aload_n 0, 1) := by decide +kernel
theorem dX9_failedCommand_19 : decode cX9_failedCommand 19 = .ok (.getfield 51, 3) := by decide +kernel
theorem dX9_failedCommand_22 : decode cX9_failedCommand 22 = .ok (.ireturn, 1) := by decide +kernel
theorem dX9_writeBag_0 : decode cX9_writeBag 0 = .ok (.iload_n 1, 1) := by decide +kernel
theorem dX9_writeBag_1 : decode cX9_writeBag 1 = .ok (.invokestatic 163, 3) := by decide +kernel
theorem dX9_writeBag_4 : decode cX9_writeBag 4 = .ok (.aload_n 0, 1) := by decide +kernel
theorem dX9_writeBag_5 : decode cX9_writeBag 5 = .ok (.getfield 43, 3) := by decide +kernel
theorem dX9_writeBag_8 : decode cX9_writeBag 8 = .ok (.invokevirtual 294, 3) := by decide +kernel
theorem dX9_writeBag_11 : decode cX9_writeBag 11 = .ok (.iconst 0, 1) := by decide +kernel
theorem dX9_writeBag_12 : decode cX9_writeBag 12 = .ok (.istore_n 2, 1) := by decide +kernel
theorem dX9_writeBag_13 : decode cX9_writeBag 13 = .ok (.iload_n 2, 1) := by decide +kernel
theorem dX9_writeBag_14 : decode cX9_writeBag 14 = .ok (.aload_n 0, 1) := by decide +kernel
theorem dX9_writeBag_15 : decode cX9_writeBag 15 = .ok (.getfield 12, 3) := by decide +kernel
theorem dX9_writeBag_18 : decode cX9_writeBag 18 = .ok (.getfield 109, 3) := by decide +kernel
theorem dX9_writeBag_21 : decode cX9_writeBag 21 = .ok (.if_icmp .ge 26, 3) := by decide +kernel
theorem dX9_writeBag_24 : decode cX9_writeBag 24 = .ok (.aload_n 0, 1) := by decide +kernel
theorem dX9_writeBag_25 : decode cX9_writeBag 25 = .ok (.getfield 12, 3) := by decide +kernel
theorem dX9_writeBag_28 : decode cX9_writeBag 28 = .ok (.iload_n 2, 1) := by decide +kernel
theorem dX9_writeBag_29 : decode cX9_writeBag 29 = .ok (.iload_n 1, 1) := by decide +kernel
theorem dX9_writeBag_30 : decode cX9_writeBag 30 = .ok (.invokevirtual 295, 3) := by decide +kernel
theorem dX9_writeBag_33 : decode cX9_writeBag 33 = .ok (.ifCond .eq 8, 3) := by decide +kernel
theorem dX9_writeBag_36 : decode cX9_writeBag 36 = .ok (.aload_n 0, 1) := by decide +kernel
theorem dX9_writeBag_37 : decode cX9_writeBag 37 = .ok (.iload_n 2, 1) := by decide +kernel
theorem dX9_writeBag_38 : decode cX9_writeBag 38 = .ok (.invokevirtual 299, 3) := by decide +kernel
theorem dX9_writeBag_41 : decode cX9_writeBag 41 = .ok (.iinc 2 1, 3) := by decide +kernel
theorem dX9_writeBag_44 : decode cX9_writeBag 44 = .ok (.goto (-31), 3) := by decide +kernel
theorem dX9_writeBag_47 : decode cX9_writeBag 47 = .ok (.aload_n 0, 1) := by decide +kernel
theorem dX9_writeBag_48 : decode cX9_writeBag 48 = .ok (.getfield 43, 3) := by decide +kernel
theorem dX9_writeBag_51 : decode cX9_writeBag 51 = .ok (.getfield 302, 3) := by decide +kernel
theorem dX9_writeBag_54 : decode cX9_writeBag 54 = .ok (.ireturn, 1) := by decide +kernel
theorem dX9_outputChar_0 : decode cX9_outputChar 0 = .ok (.iload_n 1, 1) := by decide +kernel
theorem dX9_outputChar_1 : decode cX9_outputChar 1 = .ok (.ifCond .lt 14, 3) := by decide +kernel
theorem dX9_outputChar_4 : decode cX9_outputChar 4 = .ok (.iload_n 1, 1) := by decide +kernel
theorem dX9_outputChar_5 : decode cX9_outputChar 5 = .ok (.aload_n 0, 1) := by decide +kernel
theorem dX9_outputChar_6 : decode cX9_outputChar 6 = .ok (.getfield 43, 3) := by decide +kernel
theorem dX9_outputChar_9 : decode cX9_outputChar 9 = .ok (.getfield 302, 3) := by decide +kernel
theorem dX9_outputChar_12 : decode cX9_outputChar 12 = .ok (.if_icmp .lt 14, 3) := by decide +kernel
theorem dX9_outputChar_15 : decode cX9_outputChar 15 = .ok (.new 303, 3) := by decide +kernel
theorem dX9_outputChar_18 : decode cX9_outputChar 18 = .ok (.dup, 1) := by decide +kernel
theorem dX9_outputChar_19 : decode cX9_outputChar 19 = .ok (.ldc_w 305, 3) := by decide +kernel
theorem dX9_outputChar_22 : decode cX9_outputChar 22 = .ok (.invokespecial 307, 3) := by decide +kernel
theorem dX9_outputChar_25 : decode cX9_outputChar 25 = .ok (.athrow, 1) := by decide +kernel
theorem dX9_outputChar_26 : decode cX9_outputChar 26 = .ok (.aload_n 0, 1) := by decide +kernel
theorem dX9_outputChar_27 : decode cX9_outputChar 27 = .ok (.getfield 43, 3) := by decide +kernel
theorem dX9_outputChar_30 : decode cX9_outputChar 30 = .ok (.getfield 308, 3) := by decide +kernel
theorem dX9_outputChar_33 : decode cX9_outputChar 33 = .ok (.iload_n 1, 1) := by decide +kernel
theorem dX9_outputChar_34 : decode cX9_outputChar 34 = .ok (.caload, 1) := by decide +kernel
theorem dX9_outputChar_35 : decode cX9_outputChar 35 = .ok (.ireturn, 1) := by decide +kernel
theorem dX9_undoCount_0 : decode cX9_undoCount 0 = .ok (.aload_n 0, 1) := by decide +kernel
theorem dX9_undoCount_1 : decode cX9_undoCount 1 = .ok (.getfield 29, 3) := by decide +kernel
theorem dX9_undoCount_4 : decode cX9_undoCount 4 = .ok (.getfield 312, 3) := by decide +kernel
theorem dX9_undoCount_7 : decode cX9_undoCount 7 = .ok (.ireturn, 1) := by decide +kernel
theorem dX9_undo_0 : decode cX9_undo 0 = .ok (.aload_n 0, 1) := by decide +kernel
theorem dX9_undo_1 : decode cX9_undo 1 = .ok (.getfield 29, 3) := by decide +kernel
theorem dX9_undo_4 : decode cX9_undo 4 = .ok (.getfield 312, 3) := by decide +kernel
theorem dX9_undo_7 : decode cX9_undo 7 = .ok (.ifCond .ne 14, 3) := by decide +kernel
theorem dX9_undo_10 : decode cX9_undo 10 = .ok (.new 201, 3) := by decide +kernel
theorem dX9_undo_13 : decode cX9_undo 13 = .ok (.dup, 1) := by decide +kernel
theorem dX9_undo_14 : decode cX9_undo 14 = .ok (.ldc_w 315, 3) := by decide +kernel
theorem dX9_undo_17 : decode cX9_undo 17 = .ok (.invokespecial 205, 3) := by decide +kernel
theorem dX9_undo_20 : decode cX9_undo 20 = .ok (.athrow, 1) := by decide +kernel
theorem dX9_undo_21 : decode cX9_undo 21 = .ok (.aload_n 0, 1) := by decide +kernel
theorem dX9_undo_22 : decode cX9_undo 22 = .ok (.getfield 29, 3) := by decide +kernel
theorem dX9_undo_25 : decode cX9_undo 25 = .ok (.aload_n 0, 1) := by decide +kernel
theorem dX9_undo_26 : decode cX9_undo 26 = .ok (.getfield 12, 3) := by decide +kernel
theorem dX9_undo_29 : decode cX9_undo 29 = .ok (.invokevirtual 317, 3) := by decide +kernel
theorem dX9_undo_32 : decode cX9_undo 32 = .ok (.aload_n 0, 1) := by decide +kernel
theorem dX9_undo_33 : decode cX9_undo 33 = .ok (.getfield 29, 3) := by decide +kernel
theorem dX9_undo_36 : decode cX9_undo 36 = .ok (.getfield 312, 3) := by decide +kernel
theorem dX9_undo_39 : decode cX9_undo 39 = .ok (.ireturn, 1) := by decide +kernel
theorem dX9_save_0 : decode cX9_save 0 = .ok (.aload_n 0, 1) := by decide +kernel
theorem dX9_save_1 : decode cX9_save 1 = .ok (.getfield 19, 3) := by decide +kernel
theorem dX9_save_4 : decode cX9_save 4 = .ok (.aload_n 0, 1) := by decide +kernel
theorem dX9_save_5 : decode cX9_save 5 = .ok (.getfield 12, 3) := by decide +kernel
theorem dX9_save_8 : decode cX9_save 8 = .ok (.invokevirtual 320, 3) := by decide +kernel
theorem dX9_save_11 : decode cX9_save 11 = .ok (.aload_n 0, 1) := by decide +kernel
theorem dX9_save_12 : decode cX9_save 12 = .ok (.iconst 1, 1) := by decide +kernel
theorem dX9_save_13 : decode cX9_save 13 = .ok (.putfield 22, 3) := by decide +kernel
theorem dX9_save_16 : decode cX9_save 16 = .ok (.aload_n 0, 1) := by decide +kernel
theorem dX9_save_17 : decode cX9_save 17 = .ok (.getfield 19, 3) := by decide +kernel
theorem dX9_save_20 : decode cX9_save 20 = .ok (.getfield 109, 3) := by decide +kernel
theorem dX9_save_23 : decode cX9_save 23 = .ok (.ireturn, 1) := by decide +kernel
theorem dX9_restore_0 : decode cX9_restore 0 = .ok (.aload_n 0, 1) := by decide +kernel
theorem dX9_restore_1 : decode cX9_restore 1 = .ok (.getfield 22, 3) := by decide +kernel
theorem dX9_restore_4 : decode cX9_restore 4 = .ok (.ifCond .ne 14, 3) := by decide +kernel
theorem dX9_restore_7 : decode cX9_restore 7 = .ok (.new 201, 3) := by decide +kernel
theorem dX9_restore_10 : decode cX9_restore 10 = .ok (.dup, 1) := by decide +kernel
theorem dX9_restore_11 : decode cX9_restore 11 = .ok (.ldc_w 323, 3) := by decide +kernel
theorem dX9_restore_14 : decode cX9_restore 14 = .ok (.invokespecial 205, 3) := by decide +kernel
theorem dX9_restore_17 : decode cX9_restore 17 = .ok (.athrow, 1) := by decide +kernel
theorem dX9_restore_18 : decode cX9_restore 18 = .ok (.aload_n 0, 1) := by decide +kernel
theorem dX9_restore_19 : decode cX9_restore 19 = .ok (.getfield 12, 3) := by decide +kernel
theorem dX9_restore_22 : decode cX9_restore 22 = .ok (.aload_n 0, 1) := by decide +kernel
theorem dX9_restore_23 : decode cX9_restore 23 = .ok (.getfield 19, 3) := by decide +kernel
theorem dX9_restore_26 : decode cX9_restore 26 = .ok (.invokevirtual 320, 3) := by decide +kernel
theorem dX9_restore_29 : decode cX9_restore 29 = .ok (.aload_n 0, 1) := by decide +kernel
theorem dX9_restore_30 : decode cX9_restore 30 = .ok (.getfield 29, 3) := by decide +kernel
theorem dX9_restore_33 : decode cX9_restore 33 = .ok (.invokevirtual 325, 3) := by decide +kernel
theorem dX9_restore_36 : decode cX9_restore 36 = .ok (.aload_n 0, 1) := by decide +kernel
theorem dX9_restore_37 : decode cX9_restore 37 = .ok (.getfield 12, 3) := by decide +kernel
theorem dX9_restore_40 : decode cX9_restore 40 = .ok (.getfield 109, 3) := by decide +kernel
theorem dX9_restore_43 : decode cX9_restore 43 = .ok (.ireturn, 1) := by decide +kernel
theorem dX9_requireGarment_0 : decode cX9_requireGarment 0 = .ok (.aload_n 0, 1) := by decide +kernel
theorem dX9_requireGarment_1 : decode cX9_requireGarment 1 = .ok (.getfield 12, 3) := by decide +kernel
theorem dX9_requireGarment_4 : decode cX9_requireGarment 4 = .ok (.iload_n 1, 1) := by decide +kernel
theorem dX9_requireGarment_5 : decode cX9_requireGarment 5 = .ok (.invokevirtual 328, 3) := by decide +kernel
theorem dX9_requireGarment_8 : decode cX9_requireGarment 8 = .ok (.ifCond .ne 14, 3) := by decide +kernel
theorem dX9_requireGarment_11 : decode cX9_requireGarment 11 = .ok (.new 303, 3) := by decide +kernel
theorem dX9_requireGarment_14 : decode cX9_requireGarment 14 = .ok (.dup, 1) := by decide +kernel
theorem dX9_requireGarment_15 : decode cX9_requireGarment 15 = .ok (.ldc_w 332, 3) := by decide +kernel
theorem dX9_requireGarment_18 : decode cX9_requireGarment 18 = .ok (.invokespecial 307, 3) := by decide +kernel
theorem dX9_requireGarment_21 : decode cX9_requireGarment 21 = .ok (.athrow, 1) := by decide +kernel
theorem dX9_requireGarment_22 : decode cX9_requireGarment 22 = .ok (.return_, 1) := by decide +kernel
theorem dX9_requireClient_0 : decode cX9_requireClient 0 = .ok (.iload_n 0, 1) := by decide +kernel
theorem dX9_requireClient_1 : decode cX9_requireClient 1 = .ok (.invokestatic 334, 3) := by decide +kernel
theorem dX9_requireClient_4 : decode cX9_requireClient 4 = .ok (.ifCond .ne 14, 3) := by decide +kernel
theorem dX9_requireClient_7 : decode cX9_requireClient 7 = .ok (.new 303, 3) := by decide +kernel
theorem dX9_requireClient_10 : decode cX9_requireClient 10 = .ok (.dup, 1) := by decide +kernel
theorem dX9_requireClient_11 : decode cX9_requireClient 11 = .ok (.ldc_w 337, 3) := by decide +kernel
theorem dX9_requireClient_14 : decode cX9_requireClient 14 = .ok (.invokespecial 307, 3) := by decide +kernel
theorem dX9_requireClient_17 : decode cX9_requireClient 17 = .ok (.athrow, 1) := by decide +kernel
theorem dX9_requireClient_18 : decode cX9_requireClient 18 = .ok (.return_, 1) := by decide +kernel
theorem dX9_requireMachine_0 : decode cX9_requireMachine 0 = .ok (.iload_n 0, 1) := by decide +kernel
theorem dX9_requireMachine_1 : decode cX9_requireMachine 1 = .ok (.invokestatic 339, 3) := by decide +kernel
theorem dX9_requireMachine_4 : decode cX9_requireMachine 4 = .ok (.ifCond .ne 14, 3) := by decide +kernel
theorem dX9_requireMachine_7 : decode cX9_requireMachine 7 = .ok (.new 303, 3) := by decide +kernel
theorem dX9_requireMachine_10 : decode cX9_requireMachine 10 = .ok (.dup, 1) := by decide +kernel
theorem dX9_requireMachine_11 : decode cX9_requireMachine 11 = .ok (.ldc_w 342, 3) := by decide +kernel
theorem dX9_requireMachine_14 : decode cX9_requireMachine 14 = .ok (.invokespecial 307, 3) := by decide +kernel
theorem dX9_requireMachine_17 : decode cX9_requireMachine 17 = .ok (.athrow, 1) := by decide +kernel
theorem dX9_requireMachine_18 : decode cX9_requireMachine 18 = .ok (.return_, 1) := by decide +kernel
theorem dX9_isClient_0 : decode cX9_isClient 0 = .ok (.iload_n 0, 1) := by decide +kernel
theorem dX9_isClient_1 : decode cX9_isClient 1 = .ok (.ifCond .lt 12, 3) := by decide +kernel
theorem dX9_isClient_4 : decode cX9_isClient 4 = .ok (.iload_n 0, 1) := by decide +kernel
theorem dX9_isClient_5 : decode cX9_isClient 5 = .ok (.iconst 4, 1) := by decide +kernel
theorem dX9_isClient_6 : decode cX9_isClient 6 = .ok (.if_icmp .ge 7, 3) := by decide +kernel
theorem dX9_isClient_9 : decode cX9_isClient 9 = .ok (.iconst 1, 1) := by decide +kernel
theorem dX9_isClient_10 : decode cX9_isClient 10 = .ok (.goto 4, 3) := by decide +kernel
theorem dX9_isClient_13 : decode cX9_isClient 13 = .ok (.iconst 0, 1) := by decide +kernel
theorem dX9_isClient_14 : decode cX9_isClient 14 = .ok (.ireturn, 1) := by decide +kernel
theorem dX9_isMachine_0 : decode cX9_isMachine 0 = .ok (.iload_n 0, 1) := by decide +kernel
theorem dX9_isMachine_1 : decode cX9_isMachine 1 = .ok (.ifCond .lt 12, 3) := by decide +kernel
theorem dX9_isMachine_4 : decode cX9_isMachine 4 = .ok (.iload_n 0, 1) := by decide +kernel
theorem dX9_isMachine_5 : decode cX9_isMachine 5 = .ok (.iconst 2, 1) := by decide +kernel
theorem dX9_isMachine_6 : decode cX9_isMachine 6 = .ok (.if_icmp .ge 7, 3) := by decide +kernel
theorem dX9_isMachine_9 : decode cX9_isMachine 9 = .ok (.iconst 1, 1) := by decide +kernel
theorem dX9_isMachine_10 : decode cX9_isMachine 10 = .ok (.goto 4, 3) := by decide +kernel
theorem dX9_isMachine_13 : decode cX9_isMachine 13 = .ok (.iconst 0, 1) := by decide +kernel
theorem dX9_isMachine_14 : decode cX9_isMachine 14 = .ok (.ireturn, 1) := by decide +kernel
theorem dX9_raise_0 : decode cX9_raise 0 = .ok (.aload_n 0, 1) := by decide +kernel
theorem dX9_raise_1 : decode cX9_raise 1 = .ok (.getstatic 344, 3) := by decide +kernel
theorem dX9_raise_4 : decode cX9_raise 4 = .ok (.if_acmp .ne 14, 3) := by decide +kernel
theorem dX9_raise_7 : decode cX9_raise 7 = .ok (.new 303, 3) := by decide +kernel
theorem dX9_raise_10 : decode cX9_raise 10 = .ok (.dup, 1) := by decide +kernel
theorem dX9_raise_11 : decode cX9_raise 11 = .ok (.ldc_w 350, 3) := by decide +kernel
theorem dX9_raise_14 : decode cX9_raise 14 = .ok (.invokespecial 307, 3) := by decide +kernel
theorem dX9_raise_17 : decode cX9_raise 17 = .ok (.athrow, 1) := by decide +kernel
theorem dX9_raise_18 : decode cX9_raise 18 = .ok (.aload_n 0, 1) := by decide +kernel
theorem dX9_raise_19 : decode cX9_raise 19 = .ok (.getstatic 352, 3) := by decide +kernel
theorem dX9_raise_22 : decode cX9_raise 22 = .ok (.if_acmp .ne 14, 3) := by decide +kernel
theorem dX9_raise_25 : decode cX9_raise 25 = .ok (.new 267, 3) := by decide +kernel
theorem dX9_raise_28 : decode cX9_raise 28 = .ok (.dup, 1) := by decide +kernel
theorem dX9_raise_29 : decode cX9_raise 29 = .ok (.ldc_w 355, 3) := by decide +kernel
theorem dX9_raise_32 : decode cX9_raise 32 = .ok (.invokespecial 271, 3) := by decide +kernel
theorem dX9_raise_35 : decode cX9_raise 35 = .ok (.athrow, 1) := by decide +kernel
theorem dX9_raise_36 : decode cX9_raise 36 = .ok (.aload_n 0, 1) := by decide +kernel
theorem dX9_raise_37 : decode cX9_raise 37 = .ok (.getstatic 357, 3) := by decide +kernel
theorem dX9_raise_40 : decode cX9_raise 40 = .ok (.if_acmp .ne 14, 3) := by decide +kernel
theorem dX9_raise_43 : decode cX9_raise 43 = .ok (.new 142, 3) := by decide +kernel
theorem dX9_raise_46 : decode cX9_raise 46 = .ok (.dup, 1) := by decide +kernel
theorem dX9_raise_47 : decode cX9_raise 47 = .ok (.ldc_w 360, 3) := by decide +kernel
theorem dX9_raise_50 : decode cX9_raise 50 = .ok (.invokespecial 146, 3) := by decide +kernel
theorem dX9_raise_53 : decode cX9_raise 53 = .ok (.athrow, 1) := by decide +kernel
theorem dX9_raise_54 : decode cX9_raise 54 = .ok (.aload_n 0, 1) := by decide +kernel
theorem dX9_raise_55 : decode cX9_raise 55 = .ok (.getstatic 362, 3) := by decide +kernel
theorem dX9_raise_58 : decode cX9_raise 58 = .ok (.if_acmp .ne 14, 3) := by decide +kernel
theorem dX9_raise_61 : decode cX9_raise 61 = .ok (.new 201, 3) := by decide +kernel
theorem dX9_raise_64 : decode cX9_raise 64 = .ok (.dup, 1) := by decide +kernel
theorem dX9_raise_65 : decode cX9_raise 65 = .ok (.ldc_w 365, 3) := by decide +kernel
theorem dX9_raise_68 : decode cX9_raise 68 = .ok (.invokespecial 205, 3) := by decide +kernel
theorem dX9_raise_71 : decode cX9_raise 71 = .ok (.athrow, 1) := by decide +kernel
theorem dX9_raise_72 : decode cX9_raise 72 = .ok (.return_, 1) := by decide +kernel
theorem dX9_placeSign_0 : decode cX9_placeSign 0 = .ok (.iload_n 0, 1) := by decide +kernel
theorem dX9_placeSign_1 : decode cX9_placeSign 1 = .ok (.ifCond .ne 6, 3) := by decide +kernel
theorem dX9_placeSign_4 : decode cX9_placeSign 4 = .ok (.bipush 98, 2) := by decide +kernel
theorem dX9_placeSign_6 : decode cX9_placeSign 6 = .ok (.ireturn, 1) := by decide +kernel
theorem dX9_placeSign_7 : decode cX9_placeSign 7 = .ok (.iload_n 0, 1) := by decide +kernel
theorem dX9_placeSign_8 : decode cX9_placeSign 8 = .ok (.iconst 3, 1) := by decide +kernel
theorem dX9_placeSign_9 : decode cX9_placeSign 9 = .ok (.if_icmp .ne 8, 3) := by decide +kernel
theorem dX9_placeSign_12 : decode cX9_placeSign 12 = .ok (.bipush 120, 2) := by decide +kernel
theorem dX9_placeSign_14 : decode cX9_placeSign 14 = .ok (.goto 10, 3) := by decide +kernel
theorem dX9_placeSign_17 : decode cX9_placeSign 17 = .ok (.bipush 48, 2) := by decide +kernel
theorem dX9_placeSign_19 : decode cX9_placeSign 19 = .ok (.iload_n 0, 1) := by decide +kernel
theorem dX9_placeSign_20 : decode cX9_placeSign 20 = .ok (.iadd, 1) := by decide +kernel
theorem dX9_placeSign_21 : decode cX9_placeSign 21 = .ok (.iconst 1, 1) := by decide +kernel
theorem dX9_placeSign_22 : decode cX9_placeSign 22 = .ok (.isub, 1) := by decide +kernel
theorem dX9_placeSign_23 : decode cX9_placeSign 23 = .ok (.i2c, 1) := by decide +kernel
theorem dX9_placeSign_24 : decode cX9_placeSign 24 = .ok (.ireturn, 1) := by decide +kernel
theorem dX9_bitsOf_0 : decode cX9_bitsOf 0 = .ok (.fload_n 0, 1) := by decide +kernel
theorem dX9_bitsOf_1 : decode cX9_bitsOf 1 = .ok (.fconst 1, 1) := by decide +kernel
theorem dX9_bitsOf_2 : decode cX9_bitsOf 2 = .ok (.fcmp .g, 1) := by decide +kernel
theorem dX9_bitsOf_3 : decode cX9_bitsOf 3 = .ok (.ifCond .ge 5, 3) := by decide +kernel
theorem dX9_bitsOf_6 : decode cX9_bitsOf 6 = .ok (.iconst 0, 1) := by decide +kernel
theorem dX9_bitsOf_7 : decode cX9_bitsOf 7 = .ok (.ireturn, 1) := by decide +kernel
theorem dX9_bitsOf_8 : decode cX9_bitsOf 8 = .ok (.fload_n 0, 1) := by decide +kernel
theorem dX9_bitsOf_9 : decode cX9_bitsOf 9 = .ok (.fstore_n 1, 1) := by decide +kernel
theorem dX9_bitsOf_10 : decode cX9_bitsOf 10 = .ok (.bipush 127, 2) := by decide +kernel
theorem dX9_bitsOf_12 : decode cX9_bitsOf 12 = .ok (.istore_n 2, 1) := by decide +kernel
theorem dX9_bitsOf_13 : decode cX9_bitsOf 13 = .ok (.fload_n 1, 1) := by decide +kernel
theorem dX9_bitsOf_14 : decode cX9_bitsOf 14 = .ok (.fconst 2, 1) := by decide +kernel
theorem dX9_bitsOf_15 : decode cX9_bitsOf 15 = .ok (.fcmp .l, 1) := by decide +kernel
theorem dX9_bitsOf_16 : decode cX9_bitsOf 16 = .ok (.ifCond .lt 20, 3) := by decide +kernel
theorem dX9_bitsOf_19 : decode cX9_bitsOf 19 = .ok (.iload_n 2, 1) := by decide +kernel
theorem dX9_bitsOf_20 : decode cX9_bitsOf 20 = .ok (.sipush 254, 3) := by decide +kernel
theorem dX9_bitsOf_23 : decode cX9_bitsOf 23 = .ok (.if_icmp .ge 13, 3) := by decide +kernel
theorem dX9_bitsOf_26 : decode cX9_bitsOf 26 = .ok (.fload_n 1, 1) := by decide +kernel
theorem dX9_bitsOf_27 : decode cX9_bitsOf 27 = .ok (.fconst 2, 1) := by decide +kernel
theorem dX9_bitsOf_28 : decode cX9_bitsOf 28 = .ok (.fdiv, 1) := by decide +kernel
theorem dX9_bitsOf_29 : decode cX9_bitsOf 29 = .ok (.fstore_n 1, 1) := by decide +kernel
theorem dX9_bitsOf_30 : decode cX9_bitsOf 30 = .ok (.iinc 2 1, 3) := by decide +kernel
theorem dX9_bitsOf_33 : decode cX9_bitsOf 33 = .ok (.goto (-20), 3) := by decide +kernel
theorem dX9_bitsOf_36 : decode cX9_bitsOf 36 = .ok (.iload_n 2, 1) := by decide +kernel
theorem dX9_bitsOf_37 : decode cX9_bitsOf 37 = .ok (.bipush 23, 2) := by decide +kernel
theorem dX9_bitsOf_39 : decode cX9_bitsOf 39 = .ok (.ishl, 1) := by decide +kernel
theorem dX9_bitsOf_40 : decode cX9_bitsOf 40 = .ok (.fload_n 1, 1) := by decide +kernel
theorem dX9_bitsOf_41 : decode cX9_bitsOf 41 = .ok (.fconst 1, 1) := by decide +kernel
theorem dX9_bitsOf_42 : decode cX9_bitsOf 42 = .ok (.fsub, 1) := by decide +kernel
theorem dX9_bitsOf_43 : decode cX9_bitsOf 43 = .ok (.ldc_w 367, 3) := by decide +kernel
theorem dX9_bitsOf_46 : decode cX9_bitsOf 46 = .ok (.fmul, 1) := by decide +kernel
theorem dX9_bitsOf_47 : decode cX9_bitsOf 47 = .ok (.f2i, 1) := by decide +kernel
theorem dX9_bitsOf_48 : decode cX9_bitsOf 48 = .ok (.ior, 1) := by decide +kernel
theorem dX9_bitsOf_49 : decode cX9_bitsOf 49 = .ok (.ireturn, 1) := by decide +kernel
theorem dX9_damageOfTrial_0 : decode cX9_damageOfTrial 0 = .ok (.aload_n 0, 1) := by decide +kernel
theorem dX9_damageOfTrial_1 : decode cX9_damageOfTrial 1 = .ok (.getfield 16, 3) := by decide +kernel
theorem dX9_damageOfTrial_4 : decode cX9_damageOfTrial 4 = .ok (.aload_n 0, 1) := by decide +kernel
theorem dX9_damageOfTrial_5 : decode cX9_damageOfTrial 5 = .ok (.getfield 12, 3) := by decide +kernel
theorem dX9_damageOfTrial_8 : decode cX9_damageOfTrial 8 = .ok (.invokevirtual 320, 3) := by decide +kernel
theorem dX9_damageOfTrial_11 : decode cX9_damageOfTrial 11 = .ok (.aload_n 0, 1) := by decide +kernel
theorem dX9_damageOfTrial_12 : decode cX9_damageOfTrial 12 = .ok (.getfield 16, 3) := by decide +kernel
theorem dX9_damageOfTrial_15 : decode cX9_damageOfTrial 15 = .ok (.iload_n 1, 1) := by decide +kernel
theorem dX9_damageOfTrial_16 : decode cX9_damageOfTrial 16 = .ok (.invokestatic 368, 3) := by decide +kernel
theorem dX9_damageOfTrial_19 : decode cX9_damageOfTrial 19 = .ok (.ireturn, 1) := by decide +kernel
theorem dX9_dirtierThan_0 : decode cX9_dirtierThan 0 = .ok (.aload_n 0, 1) := by decide +kernel
theorem dX9_dirtierThan_1 : decode cX9_dirtierThan 1 = .ok (.getfield 12, 3) := by decide +kernel
theorem dX9_dirtierThan_4 : decode cX9_dirtierThan 4 = .ok (.iload_n 1, 1) := by decide +kernel
theorem dX9_dirtierThan_5 : decode cX9_dirtierThan 5 = .ok (.invokevirtual 129, 3) := by decide +kernel
theorem dX9_dirtierThan_8 : decode cX9_dirtierThan 8 = .ok (.istore_n 2, 1) := by decide +kernel
theorem dX9_dirtierThan_9 : decode cX9_dirtierThan 9 = .ok (.iconst 0, 1) := by decide +kernel
theorem dX9_dirtierThan_10 : decode cX9_dirtierThan 10 = .ok (.istore_n 3, 1) := by decide +kernel
theorem dX9_dirtierThan_11 : decode cX9_dirtierThan 11 = .ok (.iconst 0, 1) := by decide +kernel
theorem dX9_dirtierThan_12 : decode cX9_dirtierThan 12 = .ok (.istore 4, 2) := by decide +kernel
theorem dX9_dirtierThan_14 : decode cX9_dirtierThan 14 = .ok (.iload 4, 2) := by decide +kernel
theorem dX9_dirtierThan_16 : decode cX9_dirtierThan 16 = .ok (.aload_n 0, 1) := by decide +kernel
theorem dX9_dirtierThan_17 : decode cX9_dirtierThan 17 = .ok (.getfield 12, 3) := by decide +kernel
theorem dX9_dirtierThan_20 : decode cX9_dirtierThan 20 = .ok (.getfield 109, 3) := by decide +kernel
theorem dX9_dirtierThan_23 : decode cX9_dirtierThan 23 = .ok (.if_icmp .ge 67, 3) := by decide +kernel
theorem dX9_dirtierThan_26 : decode cX9_dirtierThan 26 = .ok (.aload_n 0, 1) := by decide +kernel
theorem dX9_dirtierThan_27 : decode cX9_dirtierThan 27 = .ok (.getfield 12, 3) := by decide +kernel
theorem dX9_dirtierThan_30 : decode cX9_dirtierThan 30 = .ok (.iload 4, 2) := by decide +kernel
theorem dX9_dirtierThan_32 : decode cX9_dirtierThan 32 = .ok (.invokevirtual 129, 3) := by decide +kernel
theorem dX9_dirtierThan_35 : decode cX9_dirtierThan 35 = .ok (.istore 5, 2) := by decide +kernel
theorem dX9_dirtierThan_37 : decode cX9_dirtierThan 37 = .ok (.iload 5, 2) := by decide +kernel
theorem dX9_dirtierThan_39 : decode cX9_dirtierThan 39 = .ok (.iload_n 2, 1) := by decide +kernel
theorem dX9_dirtierThan_40 : decode cX9_dirtierThan 40 = .ok (.if_icmp .gt 15, 3) := by decide +kernel
theorem dX9_dirtierThan_43 : decode cX9_dirtierThan 43 = .ok (.iload 5, 2) := by decide +kernel
theorem dX9_dirtierThan_45 : decode cX9_dirtierThan 45 = .ok (.iload_n 2, 1) := by decide +kernel
theorem dX9_dirtierThan_46 : decode cX9_dirtierThan 46 = .ok (.if_icmp .ne 13, 3) := by decide +kernel
theorem dX9_dirtierThan_49 : decode cX9_dirtierThan 49 = .ok (.iload 4, 2) := by decide +kernel
theorem dX9_dirtierThan_51 : decode cX9_dirtierThan 51 = .ok (.iload_n 1, 1) := by decide +kernel
theorem dX9_dirtierThan_52 : decode cX9_dirtierThan 52 = .ok (.if_icmp .ge 7, 3) := by decide +kernel
theorem dX9_dirtierThan_55 : decode cX9_dirtierThan 55 = .ok (.iconst 1, 1) := by decide +kernel
theorem dX9_dirtierThan_56 : decode cX9_dirtierThan 56 = .ok (.goto 4, 3) := by decide +kernel
theorem dX9_dirtierThan_59 : decode cX9_dirtierThan 59 = .ok (.iconst 0, 1) := by decide +kernel
theorem dX9_dirtierThan_60 : decode cX9_dirtierThan 60 = .ok (.istore 6, 2) := by decide +kernel
theorem dX9_dirtierThan_62 : decode cX9_dirtierThan 62 = .ok (.aload_n 0, 1) := by decide +kernel
theorem dX9_dirtierThan_63 : decode cX9_dirtierThan 63 = .ok (.getfield 12, 3) := by decide +kernel
theorem dX9_dirtierThan_66 : decode cX9_dirtierThan 66 = .ok (.getfield 132, 3) := by decide +kernel
theorem dX9_dirtierThan_69 : decode cX9_dirtierThan 69 = .ok (.iload 4, 2) := by decide +kernel
theorem dX9_dirtierThan_71 : decode cX9_dirtierThan 71 = .ok (.iaload, 1) := by decide +kernel
theorem dX9_dirtierThan_72 : decode cX9_dirtierThan 72 = .ok (.iconst 3, 1) := by decide +kernel
theorem dX9_dirtierThan_73 : decode cX9_dirtierThan 73 = .ok (.if_icmp .eq 11, 3) := by decide +kernel
theorem dX9_dirtierThan_76 : decode cX9_dirtierThan 76 = .ok (.iload 6, 2) := by decide +kernel
theorem dX9_dirtierThan_78 : decode cX9_dirtierThan 78 = .ok (.ifCond .eq 6, 3) := by decide +kernel
theorem dX9_dirtierThan_81 : decode cX9_dirtierThan 81 = .ok (.iinc 3 1, 3) := by decide +kernel
theorem dX9_dirtierThan_84 : decode cX9_dirtierThan 84 = .ok (.iinc 4 1, 3) := by decide +kernel
theorem dX9_dirtierThan_87 : decode cX9_dirtierThan 87 = .ok (.goto (-73), 3) := by decide +kernel
theorem dX9_dirtierThan_90 : decode cX9_dirtierThan 90 = .ok (.iload_n 3, 1) := by decide +kernel
theorem dX9_dirtierThan_91 : decode cX9_dirtierThan 91 = .ok (.ireturn, 1) := by decide +kernel
theorem dX9_spendingMoreThan_0 : decode cX9_spendingMoreThan 0 = .ok (.aload_n 0, 1) := by decide +kernel
theorem dX9_spendingMoreThan_1 : decode cX9_spendingMoreThan 1 = .ok (.getfield 12, 3) := by decide +kernel
theorem dX9_spendingMoreThan_4 : decode cX9_spendingMoreThan 4 = .ok (.getfield 213, 3) := by decide +kernel
theorem dX9_spendingMoreThan_7 : decode cX9_spendingMoreThan 7 = .ok (.iload_n 1, 1) := by decide +kernel
theorem dX9_spendingMoreThan_8 : decode cX9_spendingMoreThan 8 = .ok (.faload, 1) := by decide +kernel
theorem dX9_spendingMoreThan_9 : decode cX9_spendingMoreThan 9 = .ok (.fstore_n 2, 1) := by decide +kernel
theorem dX9_spendingMoreThan_10 : decode cX9_spendingMoreThan 10 = .ok (.iconst 0, 1) := by decide +kernel
theorem dX9_spendingMoreThan_11 : decode cX9_spendingMoreThan 11 = .ok (.istore_n 3, 1) := by decide +kernel
theorem dX9_spendingMoreThan_12 : decode cX9_spendingMoreThan 12 = .ok (.iconst 0, 1) := by decide +kernel
theorem dX9_spendingMoreThan_13 : decode cX9_spendingMoreThan 13 = .ok (.istore 4, 2) := by decide +kernel
theorem dX9_spendingMoreThan_15 : decode cX9_spendingMoreThan 15 = .ok (.iload 4, 2) := by decide +kernel
theorem dX9_spendingMoreThan_17 : decode cX9_spendingMoreThan 17 = .ok (.iconst 4, 1) := by decide +kernel
theorem dX9_spendingMoreThan_18 : decode cX9_spendingMoreThan 18 = .ok (.if_icmp .ge 44, 3) := by decide +kernel
theorem dX9_spendingMoreThan_21 : decode cX9_spendingMoreThan 21 = .ok (.aload_n 0, 1) := by decide +kernel
theorem dX9_spendingMoreThan_22 : decode cX9_spendingMoreThan 22 = .ok (.getfield 12, 3) := by decide +kernel
theorem dX9_spendingMoreThan_25 : decode cX9_spendingMoreThan 25 = .ok (.getfield 213, 3) := by decide +kernel
theorem dX9_spendingMoreThan_28 : decode cX9_spendingMoreThan 28 = .ok (.iload 4, 2) := by decide +kernel
theorem dX9_spendingMoreThan_30 : decode cX9_spendingMoreThan 30 = .ok (.faload, 1) := by decide +kernel
theorem dX9_spendingMoreThan_31 : decode cX9_spendingMoreThan 31 = .ok (.fstore 5, 2) := by decide +kernel
theorem dX9_spendingMoreThan_33 : decode cX9_spendingMoreThan 33 = .ok (.fload 5, 2) := by decide +kernel
theorem dX9_spendingMoreThan_35 : decode cX9_spendingMoreThan 35 = .ok (.fload_n 2, 1) := by decide +kernel
theorem dX9_spendingMoreThan_36 : decode cX9_spendingMoreThan 36 = .ok (.fcmp .l, 1) := by decide +kernel
theorem dX9_spendingMoreThan_37 : decode cX9_spendingMoreThan 37 = .ok (.ifCond .gt 16, 3) := by decide +kernel
theorem dX9_spendingMoreThan_40 : decode cX9_spendingMoreThan 40 = .ok (.fload 5, 2) := by decide +kernel
theorem dX9_spendingMoreThan_42 : decode cX9_spendingMoreThan 42 = .ok (.fload_n 2, 1) := by decide +kernel
theorem dX9_spendingMoreThan_43 : decode cX9_spendingMoreThan 43 = .ok (.fcmp .l, 1) := by decide +kernel
theorem dX9_spendingMoreThan_44 : decode cX9_spendingMoreThan 44 = .ok (.ifCond .ne 12, 3) := by decide +kernel
theorem dX9_spendingMoreThan_47 : decode cX9_spendingMoreThan 47 = .ok (.iload 4, 2) := by decide +kernel
theorem dX9_spendingMoreThan_49 : decode cX9_spendingMoreThan 49 = .ok (.iload_n 1, 1) := by decide +kernel
theorem dX9_spendingMoreThan_50 : decode cX9_spendingMoreThan 50 = .ok (.if_icmp .ge 6, 3) := by decide +kernel
theorem dX9_spendingMoreThan_53 : decode cX9_spendingMoreThan 53 = .ok (.iinc 3 1, 3) := by decide +kernel
theorem dX9_spendingMoreThan_56 : decode cX9_spendingMoreThan 56 = .ok (.iinc 4 1, 3) := by decide +kernel
theorem dX9_spendingMoreThan_59 : decode cX9_spendingMoreThan 59 = .ok (.goto (-44), 3) := by decide +kernel
theorem dX9_spendingMoreThan_62 : decode cX9_spendingMoreThan 62 = .ok (.iload_n 3, 1) := by decide +kernel
theorem dX9_spendingMoreThan_63 : decode cX9_spendingMoreThan 63 = .ok (.ireturn, 1) := by decide +kernel
theorem dX9_machinesAgree_0 : decode cX9_machinesAgree 0 = .ok (.iconst 0, 1) := by decide +kernel
theorem dX9_machinesAgree_1 : decode cX9_machinesAgree 1 = .ok (.istore_n 1, 1) := by decide +kernel
theorem dX9_machinesAgree_2 : decode cX9_machinesAgree 2 = .ok (.iload_n 1, 1) := by decide +kernel
theorem dX9_machinesAgree_3 : decode cX9_machinesAgree 3 = .ok (.iconst 2, 1) := by decide +kernel
theorem dX9_machinesAgree_4 : decode cX9_machinesAgree 4 = .ok (.if_icmp .ge 50, 3) := by decide +kernel
theorem dX9_machinesAgree_7 : decode cX9_machinesAgree 7 = .ok (.aload_n 0, 1) := by decide +kernel
theorem dX9_machinesAgree_8 : decode cX9_machinesAgree 8 = .ok (.getfield 12, 3) := by decide +kernel
theorem dX9_machinesAgree_11 : decode cX9_machinesAgree 11 = .ok (.iload_n 1, 1) := by decide +kernel
theorem dX9_machinesAgree_12 : decode cX9_machinesAgree 12 = .ok (.aload_n 0, 1) := by decide +kernel
theorem dX9_machinesAgree_13 : decode cX9_machinesAgree 13 = .ok (.getfield 12, 3) := by decide +kernel
theorem dX9_machinesAgree_16 : decode cX9_machinesAgree 16 = .ok (.getfield 96, 3) := by decide +kernel
theorem dX9_machinesAgree_19 : decode cX9_machinesAgree 19 = .ok (.iload_n 1, 1) := by decide +kernel
theorem dX9_machinesAgree_20 : decode cX9_machinesAgree 20 = .ok (.iaload, 1) := by decide +kernel
theorem dX9_machinesAgree_21 : decode cX9_machinesAgree 21 = .ok (.invokestatic 197, 3) := by decide +kernel
theorem dX9_machinesAgree_24 : decode cX9_machinesAgree 24 = .ok (.istore_n 2, 1) := by decide +kernel
theorem dX9_machinesAgree_25 : decode cX9_machinesAgree 25 = .ok (.aload_n 0, 1) := by decide +kernel
theorem dX9_machinesAgree_26 : decode cX9_machinesAgree 26 = .ok (.iload_n 1, 1) := by decide +kernel
theorem dX9_machinesAgree_27 : decode cX9_machinesAgree 27 = .ok (.invokevirtual 194, 3) := by decide +kernel
theorem dX9_machinesAgree_30 : decode cX9_machinesAgree 30 = .ok (.iload_n 2, 1) := by decide +kernel
theorem dX9_machinesAgree_31 : decode cX9_machinesAgree 31 = .ok (.if_icmp .ne 15, 3) := by decide +kernel
theorem dX9_machinesAgree_34 : decode cX9_machinesAgree 34 = .ok (.aload_n 0, 1) := by decide +kernel
theorem dX9_machinesAgree_35 : decode cX9_machinesAgree 35 = .ok (.getfield 12, 3) := by decide +kernel
theorem dX9_machinesAgree_38 : decode cX9_machinesAgree 38 = .ok (.iload_n 1, 1) := by decide +kernel
theorem dX9_machinesAgree_39 : decode cX9_machinesAgree 39 = .ok (.invokevirtual 78, 3) := by decide +kernel
theorem dX9_machinesAgree_42 : decode cX9_machinesAgree 42 = .ok (.iconst 5, 1) := by decide +kernel
theorem dX9_machinesAgree_43 : decode cX9_machinesAgree 43 = .ok (.if_icmp .le 5, 3) := by decide +kernel
theorem dX9_machinesAgree_46 : decode cX9_machinesAgree 46 = .ok (.iconst 0, 1) := by decide +kernel
theorem dX9_machinesAgree_47 : decode cX9_machinesAgree 47 = .ok (.ireturn, 1) := by decide +kernel
theorem dX9_machinesAgree_48 : decode cX9_machinesAgree 48 = .ok (.iinc 1 1, 3) := by decide +kernel
theorem dX9_machinesAgree_51 : decode cX9_machinesAgree 51 = .ok (.goto (-49), 3) := by decide +kernel
theorem dX9_machinesAgree_54 : decode cX9_machinesAgree 54 = .ok (.iconst 1, 1) := by decide +kernel
theorem dX9_machinesAgree_55 : decode cX9_machinesAgree 55 = .ok (.ireturn, 1) := by decide +kernel
theorem dX9_pairsAgree_0 : decode cX9_pairsAgree 0 = .ok (.iconst 0, 1) := by decide +kernel
theorem dX9_pairsAgree_1 : decode cX9_pairsAgree 1 = .ok (.istore_n 1, 1) := by decide +kernel
theorem dX9_pairsAgree_2 : decode cX9_pairsAgree 2 = .ok (.iload_n 1, 1) := by decide +kernel
theorem dX9_pairsAgree_3 : decode cX9_pairsAgree 3 = .ok (.iconst 4, 1) := by decide +kernel
theorem dX9_pairsAgree_4 : decode cX9_pairsAgree 4 = .ok (.if_icmp .ge 30, 3) := by decide +kernel
theorem dX9_pairsAgree_7 : decode cX9_pairsAgree 7 = .ok (.aload_n 0, 1) := by decide +kernel
theorem dX9_pairsAgree_8 : decode cX9_pairsAgree 8 = .ok (.getfield 12, 3) := by decide +kernel
theorem dX9_pairsAgree_11 : decode cX9_pairsAgree 11 = .ok (.iload_n 1, 1) := by decide +kernel
theorem dX9_pairsAgree_12 : decode cX9_pairsAgree 12 = .ok (.invokestatic 166, 3) := by decide +kernel
theorem dX9_pairsAgree_15 : decode cX9_pairsAgree 15 = .ok (.aload_n 0, 1) := by decide +kernel
theorem dX9_pairsAgree_16 : decode cX9_pairsAgree 16 = .ok (.getfield 12, 3) := by decide +kernel
theorem dX9_pairsAgree_19 : decode cX9_pairsAgree 19 = .ok (.iload_n 1, 1) := by decide +kernel
theorem dX9_pairsAgree_20 : decode cX9_pairsAgree 20 = .ok (.invokestatic 169, 3) := by decide +kernel
theorem dX9_pairsAgree_23 : decode cX9_pairsAgree 23 = .ok (.if_icmp .eq 5, 3) := by decide +kernel
theorem dX9_pairsAgree_26 : decode cX9_pairsAgree 26 = .ok (.iconst 0, 1) := by decide +kernel
theorem dX9_pairsAgree_27 : decode cX9_pairsAgree 27 = .ok (.ireturn, 1) := by decide +kernel
theorem dX9_pairsAgree_28 : decode cX9_pairsAgree 28 = .ok (.iinc 1 1, 3) := by decide +kernel
theorem dX9_pairsAgree_31 : decode cX9_pairsAgree 31 = .ok (.goto (-29), 3) := by decide +kernel
theorem dX9_pairsAgree_34 : decode cX9_pairsAgree 34 = .ok (.iconst 1, 1) := by decide +kernel
theorem dX9_pairsAgree_35 : decode cX9_pairsAgree 35 = .ok (.ireturn, 1) := by decide +kernel
theorem dX9_describe_0 : decode cX9_describe 0 = .ok (.aload_n 0, 1) := by decide +kernel
theorem dX9_describe_1 : decode cX9_describe 1 = .ok (.getfield 43, 3) := by decide +kernel
theorem dX9_describe_4 : decode cX9_describe 4 = .ok (.getfield 302, 3) := by decide +kernel
theorem dX9_describe_7 : decode cX9_describe 7 = .ok (.ifCond .le 12, 3) := by decide +kernel
theorem dX9_describe_10 : decode cX9_describe 10 = .ok (.aload_n 0, 1) := by decide +kernel
theorem dX9_describe_11 : decode cX9_describe 11 = .ok (.getfield 43, 3) := by decide +kernel
theorem dX9_describe_14 : decode cX9_describe 14 = .ok (.bipush 32, 2) := by decide +kernel
theorem dX9_describe_16 : decode cX9_describe 16 = .ok (.invokevirtual 371, 3) := by decide +kernel
theorem dX9_describe_19 : decode cX9_describe 19 = .ok (.aload_n 0, 1) := by decide +kernel
theorem dX9_describe_20 : decode cX9_describe 20 = .ok (.getfield 43, 3) := by decide +kernel
theorem dX9_describe_23 : decode cX9_describe 23 = .ok (.aload_n 0, 1) := by decide +kernel
theorem dX9_describe_24 : decode cX9_describe 24 = .ok (.getfield 12, 3) := by decide +kernel
theorem dX9_describe_27 : decode cX9_describe 27 = .ok (.getfield 119, 3) := by decide +kernel
theorem dX9_describe_30 : decode cX9_describe 30 = .ok (.iload_n 1, 1) := by decide +kernel
theorem dX9_describe_31 : decode cX9_describe 31 = .ok (.baload, 1) := by decide +kernel
theorem dX9_describe_32 : decode cX9_describe 32 = .ok (.ifCond .eq 8, 3) := by decide +kernel
theorem dX9_describe_35 : decode cX9_describe 35 = .ok (.bipush 115, 2) := by decide +kernel
theorem dX9_describe_37 : decode cX9_describe 37 = .ok (.goto 5, 3) := by decide +kernel
theorem dX9_describe_40 : decode cX9_describe 40 = .ok (.bipush 103, 2) := by decide +kernel
theorem dX9_describe_42 : decode cX9_describe 42 = .ok (.invokevirtual 371, 3) := by decide +kernel
theorem dX9_describe_45 : decode cX9_describe 45 = .ok (.aload_n 0, 1) := by decide +kernel
theorem dX9_describe_46 : decode cX9_describe 46 = .ok (.getfield 43, 3) := by decide +kernel
theorem dX9_describe_49 : decode cX9_describe 49 = .ok (.bipush 48, 2) := by decide +kernel
theorem dX9_describe_51 : decode cX9_describe 51 = .ok (.aload_n 0, 1) := by decide +kernel
theorem dX9_describe_52 : decode cX9_describe 52 = .ok (.getfield 12, 3) := by decide +kernel
theorem dX9_describe_55 : decode cX9_describe 55 = .ok (.getfield 123, 3) := by decide +kernel
theorem dX9_describe_58 : decode cX9_describe 58 = .ok (.iload_n 1, 1) := by decide +kernel
theorem dX9_describe_59 : decode cX9_describe 59 = .ok (.iaload, 1) := by decide +kernel
theorem dX9_describe_60 : decode cX9_describe 60 = .ok (.iadd, 1) := by decide +kernel
theorem dX9_describe_61 : decode cX9_describe 61 = .ok (.i2c, 1) := by decide +kernel
theorem dX9_describe_62 : decode cX9_describe 62 = .ok (.invokevirtual 371, 3) := by decide +kernel
theorem dX9_describe_65 : decode cX9_describe 65 = .ok (.aload_n 0, 1) := by decide +kernel
theorem dX9_describe_66 : decode cX9_describe 66 = .ok (.getfield 12, 3) := by decide +kernel
theorem dX9_describe_69 : decode cX9_describe 69 = .ok (.iload_n 1, 1) := by decide +kernel
theorem dX9_describe_70 : decode cX9_describe 70 = .ok (.invokevirtual 129, 3) := by decide +kernel
theorem dX9_describe_73 : decode cX9_describe 73 = .ok (.istore_n 2, 1) := by decide +kernel
theorem dX9_describe_74 : decode cX9_describe 74 = .ok (.iconst 0, 1) := by decide +kernel
theorem dX9_describe_75 : decode cX9_describe 75 = .ok (.istore_n 3, 1) := by decide +kernel
theorem dX9_describe_76 : decode cX9_describe 76 = .ok (.iload_n 3, 1) := by decide +kernel
theorem dX9_describe_77 : decode cX9_describe 77 = .ok (.iload_n 2, 1) := by decide +kernel
theorem dX9_describe_78 : decode cX9_describe 78 = .ok (.if_icmp .ge 18, 3) := by decide +kernel
theorem dX9_describe_81 : decode cX9_describe 81 = .ok (.aload_n 0, 1) := by decide +kernel
theorem dX9_describe_82 : decode cX9_describe 82 = .ok (.getfield 43, 3) := by decide +kernel
theorem dX9_describe_85 : decode cX9_describe 85 = .ok (.bipush 42, 2) := by decide +kernel
theorem dX9_describe_87 : decode cX9_describe 87 = .ok (.invokevirtual 371, 3) := by decide +kernel
theorem dX9_describe_90 : decode cX9_describe 90 = .ok (.iinc 3 1, 3) := by decide +kernel
theorem dX9_describe_93 : decode cX9_describe 93 = .ok (.goto (-17), 3) := by decide +kernel
theorem dX9_describe_96 : decode cX9_describe 96 = .ok (.return_, 1) := by decide +kernel
theorem dX9_carryOutUntilFault_0 : decode cX9_carryOutUntilFault 0 = .ok (.iconst 0, 1) := by decide +kernel
theorem dX9_carryOutUntilFault_1 : decode cX9_carryOutUntilFault 1 = .ok (.istore_n 1, 1) := by decide +kernel
theorem dX9_carryOutUntilFault_2 : decode cX9_carryOutUntilFault 2 = .ok (.iload_n 1, 1) := by decide +kernel
theorem dX9_carryOutUntilFault_3 : decode cX9_carryOutUntilFault 3 = .ok (.aload_n 0, 1) := by decide +kernel
theorem dX9_carryOutUntilFault_4 : decode cX9_carryOutUntilFault 4 = .ok (.getfield 36, 3) := by decide +kernel
theorem dX9_carryOutUntilFault_7 : decode cX9_carryOutUntilFault 7 = .ok (.getfield 279, 3) := by decide +kernel
theorem dX9_carryOutUntilFault_10 : decode cX9_carryOutUntilFault 10 = .ok (.if_icmp .ge 37, 3) := by decide +kernel
theorem dX9_carryOutUntilFault_13 : decode cX9_carryOutUntilFault 13 = .ok (.aload_n 0, 1) := by decide +kernel
theorem dX9_carryOutUntilFault_14 : decode cX9_carryOutUntilFault 14 = .ok (.getfield 36, 3) := by decide +kernel
theorem dX9_carryOutUntilFault_17 : decode cX9_carryOutUntilFault 17 = .ok (.getfield 374, 3) := by decide +kernel
theorem dX9_carryOutUntilFault_20 : decode cX9_carryOutUntilFault 20 = .ok (.iload_n 1, 1) := by decide +kernel
theorem dX9_carryOutUntilFault_21 : decode cX9_carryOutUntilFault 21 = .ok (.aaload, 1) := by decide +kernel
theorem dX9_carryOutUntilFault_22 : decode cX9_carryOutUntilFault 22 = .ok (.astore_n 2, 1) := by decide +kernel
theorem dX9_carryOutUntilFault_23 : decode cX9_carryOutUntilFault 23 = .ok (.aload_n 0, 1) := by decide +kernel
theorem dX9_carryOutUntilFault_24 : decode cX9_carryOutUntilFault 24 = .ok (.aload_n 2, 1) := by decide +kernel
theorem dX9_carryOutUntilFault_25 : decode cX9_carryOutUntilFault 25 = .ok (.invokevirtual 378, 3) := by decide +kernel
theorem dX9_carryOutUntilFault_28 : decode cX9_carryOutUntilFault 28 = .ok (.getstatic 382, 3) := by decide +kernel
theorem dX9_carryOutUntilFault_31 : decode cX9_carryOutUntilFault 31 = .ok (.if_acmp .eq 5, 3) := by decide +kernel
theorem dX9_carryOutUntilFault_34 : decode cX9_carryOutUntilFault 34 = .ok (.iload_n 1, 1) := by decide +kernel
theorem dX9_carryOutUntilFault_35 : decode cX9_carryOutUntilFault 35 = .ok (.ireturn, 1) := by decide +kernel
theorem dX9_carryOutUntilFault_36 : decode cX9_carryOutUntilFault 36 = .ok (.aload_n 0, 1) := by decide +kernel
theorem dX9_carryOutUntilFault_37 : decode cX9_carryOutUntilFault 37 = .ok (.aload_n 2, 1) := by decide +kernel
theorem dX9_carryOutUntilFault_38 : decode cX9_carryOutUntilFault 38 = .ok (.invokevirtual 385, 3) := by decide +kernel
theorem dX9_carryOutUntilFault_41 : decode cX9_carryOutUntilFault 41 = .ok (.iinc 1 1, 3) := by decide +kernel
theorem dX9_carryOutUntilFault_44 : decode cX9_carryOutUntilFault 44 = .ok (.goto (-42), 3) := by decide +kernel
theorem dX9_carryOutUntilFault_47 : decode cX9_carryOutUntilFault 47 = .ok (.aload_n 0, 1) := by decide +kernel
theorem dX9_carryOutUntilFault_48 : decode cX9_carryOutUntilFault 48 = .ok (.getfield 36, 3) := by decide +kernel
theorem dX9_carryOutUntilFault_51 : decode cX9_carryOutUntilFault 51 = .ok (.getfield 279, 3) := by decide +kernel
theorem dX9_carryOutUntilFault_54 : decode cX9_carryOutUntilFault 54 = .ok (.ireturn, 1) := by decide +kernel
theorem dX9_faultOf_0 : decode cX9_faultOf 0 = .ok (.aload_n 1, 1) := by decide +kernel
theorem dX9_faultOf_1 : decode cX9_faultOf 1 = .ok (.getfield 389, 3) := by decide +kernel
theorem dX9_faultOf_4 : decode cX9_faultOf 4 = .ok (.getstatic 395, 3) := by decide +kernel
theorem dX9_faultOf_7 : decode cX9_faultOf 7 = .ok (.if_acmp .eq 13, 3) := by decide +kernel
theorem dX9_faultOf_10 : decode cX9_faultOf 10 = .ok (.aload_n 1, 1) := by decide +kernel
theorem dX9_faultOf_11 : decode cX9_faultOf 11 = .ok (.getfield 389, 3) := by decide +kernel
theorem dX9_faultOf_14 : decode cX9_faultOf 14 = .ok (.getstatic 400, 3) := by decide +kernel
theorem dX9_faultOf_17 : decode cX9_faultOf 17 = .ok (.if_acmp .ne 23, 3) := by decide +kernel
theorem dX9_faultOf_20 : decode cX9_faultOf 20 = .ok (.aload_n 0, 1) := by decide +kernel
theorem dX9_faultOf_21 : decode cX9_faultOf 21 = .ok (.getfield 12, 3) := by decide +kernel
theorem dX9_faultOf_24 : decode cX9_faultOf 24 = .ok (.aload_n 1, 1) := by decide +kernel
theorem dX9_faultOf_25 : decode cX9_faultOf 25 = .ok (.getfield 403, 3) := by decide +kernel
theorem dX9_faultOf_28 : decode cX9_faultOf 28 = .ok (.aload_n 1, 1) := by decide +kernel
theorem dX9_faultOf_29 : decode cX9_faultOf 29 = .ok (.getfield 406, 3) := by decide +kernel
theorem dX9_faultOf_32 : decode cX9_faultOf 32 = .ok (.aload_n 1, 1) := by decide +kernel
theorem dX9_faultOf_33 : decode cX9_faultOf 33 = .ok (.getfield 409, 3) := by decide +kernel
theorem dX9_faultOf_36 : decode cX9_faultOf 36 = .ok (.invokevirtual 54, 3) := by decide +kernel
theorem dX9_faultOf_39 : decode cX9_faultOf 39 = .ok (.areturn, 1) := by decide +kernel
theorem dX9_faultOf_40 : decode cX9_faultOf 40 = .ok (.aload_n 1, 1) := by decide +kernel
theorem dX9_faultOf_41 : decode cX9_faultOf 41 = .ok (.getfield 389, 3) := by decide +kernel
theorem dX9_faultOf_44 : decode cX9_faultOf 44 = .ok (.getstatic 412, 3) := by decide +kernel
theorem dX9_faultOf_47 : decode cX9_faultOf 47 = .ok (.if_acmp .ne 19, 3) := by decide +kernel
theorem dX9_faultOf_50 : decode cX9_faultOf 50 = .ok (.aload_n 0, 1) := by decide +kernel
theorem dX9_faultOf_51 : decode cX9_faultOf 51 = .ok (.getfield 12, 3) := by decide +kernel
theorem dX9_faultOf_54 : decode cX9_faultOf 54 = .ok (.aload_n 1, 1) := by decide +kernel
theorem dX9_faultOf_55 : decode cX9_faultOf 55 = .ok (.getfield 403, 3) := by decide +kernel
theorem dX9_faultOf_58 : decode cX9_faultOf 58 = .ok (.aload_n 1, 1) := by decide +kernel
theorem dX9_faultOf_59 : decode cX9_faultOf 59 = .ok (.getfield 406, 3) := by decide +kernel
theorem dX9_faultOf_62 : decode cX9_faultOf 62 = .ok (.invokevirtual 70, 3) := by decide +kernel
theorem dX9_faultOf_65 : decode cX9_faultOf 65 = .ok (.areturn, 1) := by decide +kernel
theorem dX9_faultOf_66 : decode cX9_faultOf 66 = .ok (.aload_n 1, 1) := by decide +kernel
theorem dX9_faultOf_67 : decode cX9_faultOf 67 = .ok (.getfield 389, 3) := by decide +kernel
theorem dX9_faultOf_70 : decode cX9_faultOf 70 = .ok (.getstatic 415, 3) := by decide +kernel
theorem dX9_faultOf_73 : decode cX9_faultOf 73 = .ok (.if_acmp .ne 15, 3) := by decide +kernel
theorem dX9_faultOf_76 : decode cX9_faultOf 76 = .ok (.aload_n 0, 1) := by decide +kernel
theorem dX9_faultOf_77 : decode cX9_faultOf 77 = .ok (.getfield 12, 3) := by decide +kernel
theorem dX9_faultOf_80 : decode cX9_faultOf 80 = .ok (.aload_n 1, 1) := by decide +kernel
theorem dX9_faultOf_81 : decode cX9_faultOf 81 = .ok (.getfield 403, 3) := by decide +kernel
theorem dX9_faultOf_84 : decode cX9_faultOf 84 = .ok (.invokevirtual 82, 3) := by decide +kernel
theorem dX9_faultOf_87 : decode cX9_faultOf 87 = .ok (.areturn, 1) := by decide +kernel
theorem dX9_faultOf_88 : decode cX9_faultOf 88 = .ok (.aload_n 1, 1) := by decide +kernel
theorem dX9_faultOf_89 : decode cX9_faultOf 89 = .ok (.getfield 389, 3) := by decide +kernel
theorem dX9_faultOf_92 : decode cX9_faultOf 92 = .ok (.getstatic 418, 3) := by decide +kernel
theorem dX9_faultOf_95 : decode cX9_faultOf 95 = .ok (.if_acmp .ne 21, 3) := by decide +kernel
theorem dX9_faultOf_98 : decode cX9_faultOf 98 = .ok (.aload_n 0, 1) := by decide +kernel
theorem dX9_faultOf_99 : decode cX9_faultOf 99 = .ok (.getfield 12, 3) := by decide +kernel
theorem dX9_faultOf_102 : decode cX9_faultOf 102 = .ok (.aload_n 1, 1) := by decide +kernel
theorem dX9_faultOf_103 : decode cX9_faultOf 103 = .ok (.getfield 403, 3) := by decide +kernel
theorem dX9_faultOf_106 : decode cX9_faultOf 106 = .ok (.iconst 2, 1) := by decide +kernel
theorem dX9_faultOf_107 : decode cX9_faultOf 107 = .ok (.aload_n 1, 1) := by decide +kernel
theorem dX9_faultOf_108 : decode cX9_faultOf 108 = .ok (.getfield 406, 3) := by decide +kernel
theorem dX9_faultOf_111 : decode cX9_faultOf 111 = .ok (.imul, 1) := by decide +kernel
theorem dX9_faultOf_112 : decode cX9_faultOf 112 = .ok (.invokevirtual 89, 3) := by decide +kernel
theorem dX9_faultOf_115 : decode cX9_faultOf 115 = .ok (.areturn, 1) := by decide +kernel
theorem dX9_faultOf_116 : decode cX9_faultOf 116 = .ok (.aload_n 0, 1) := by decide +kernel
theorem dX9_faultOf_117 : decode cX9_faultOf 117 = .ok (.getfield 12, 3) := by decide +kernel
theorem dX9_faultOf_120 : decode cX9_faultOf 120 = .ok (.aload_n 1, 1) := by decide +kernel
theorem dX9_faultOf_121 : decode cX9_faultOf 121 = .ok (.getfield 403, 3) := by decide +kernel
theorem dX9_faultOf_124 : decode cX9_faultOf 124 = .ok (.invokevirtual 100, 3) := by decide +kernel
theorem dX9_faultOf_127 : decode cX9_faultOf 127 = .ok (.areturn, 1) := by decide +kernel
theorem dX9_carryOut_0 : decode cX9_carryOut 0 = .ok (.aload_n 1, 1) := by decide +kernel
theorem dX9_carryOut_1 : decode cX9_carryOut 1 = .ok (.getfield 389, 3) := by decide +kernel
theorem dX9_carryOut_4 : decode cX9_carryOut 4 = .ok (.getstatic 395, 3) := by decide +kernel
theorem dX9_carryOut_7 : decode cX9_carryOut 7 = .ok (.if_acmp .eq 13, 3) := by decide +kernel
theorem dX9_carryOut_10 : decode cX9_carryOut 10 = .ok (.aload_n 1, 1) := by decide +kernel
theorem dX9_carryOut_11 : decode cX9_carryOut 11 = .ok (.getfield 389, 3) := by decide +kernel
theorem dX9_carryOut_14 : decode cX9_carryOut 14 = .ok (.getstatic 400, 3) := by decide +kernel
theorem dX9_carryOut_17 : decode cX9_carryOut 17 = .ok (.if_acmp .ne 43, 3) := by decide +kernel
theorem dX9_carryOut_20 : decode cX9_carryOut 20 = .ok (.aload_n 1, 1) := by decide +kernel
theorem dX9_carryOut_21 : decode cX9_carryOut 21 = .ok (.getfield 389, 3) := by decide +kernel
theorem dX9_carryOut_24 : decode cX9_carryOut 24 = .ok (.getstatic 395, 3) := by decide +kernel
theorem dX9_carryOut_27 : decode cX9_carryOut 27 = .ok (.if_acmp .ne 7, 3) := by decide +kernel
theorem dX9_carryOut_30 : decode cX9_carryOut 30 = .ok (.iconst 1, 1) := by decide +kernel
theorem dX9_carryOut_31 : decode cX9_carryOut 31 = .ok (.goto 4, 3) := by decide +kernel
theorem dX9_carryOut_34 : decode cX9_carryOut 34 = .ok (.iconst 0, 1) := by decide +kernel
theorem dX9_carryOut_35 : decode cX9_carryOut 35 = .ok (.istore_n 2, 1) := by decide +kernel
theorem dX9_carryOut_36 : decode cX9_carryOut 36 = .ok (.aload_n 0, 1) := by decide +kernel
theorem dX9_carryOut_37 : decode cX9_carryOut 37 = .ok (.getfield 12, 3) := by decide +kernel
theorem dX9_carryOut_40 : decode cX9_carryOut 40 = .ok (.aload_n 1, 1) := by decide +kernel
theorem dX9_carryOut_41 : decode cX9_carryOut 41 = .ok (.getfield 403, 3) := by decide +kernel
theorem dX9_carryOut_44 : decode cX9_carryOut 44 = .ok (.iload_n 2, 1) := by decide +kernel
theorem dX9_carryOut_45 : decode cX9_carryOut 45 = .ok (.aload_n 1, 1) := by decide +kernel
theorem dX9_carryOut_46 : decode cX9_carryOut 46 = .ok (.getfield 406, 3) := by decide +kernel
theorem dX9_carryOut_49 : decode cX9_carryOut 49 = .ok (.aload_n 1, 1) := by decide +kernel
theorem dX9_carryOut_50 : decode cX9_carryOut 50 = .ok (.getfield 409, 3) := by decide +kernel
theorem dX9_carryOut_53 : decode cX9_carryOut 53 = .ok (.invokevirtual 66, 3) := by decide +kernel
theorem dX9_carryOut_56 : decode cX9_carryOut 56 = .ok (.pop, 1) := by decide +kernel
theorem dX9_carryOut_57 : decode cX9_carryOut 57 = .ok (.goto 99, 3) := by decide +kernel
theorem dX9_carryOut_60 : decode cX9_carryOut 60 = .ok (.aload_n 1, 1) := by decide +kernel
theorem dX9_carryOut_61 : decode cX9_carryOut 61 = .ok (.getfield 389, 3) := by decide +kernel
theorem dX9_carryOut_64 : decode cX9_carryOut 64 = .ok (.getstatic 412, 3) := by decide +kernel
theorem dX9_carryOut_67 : decode cX9_carryOut 67 = .ok (.if_acmp .ne 21, 3) := by decide +kernel
theorem dX9_carryOut_70 : decode cX9_carryOut 70 = .ok (.aload_n 0, 1) := by decide +kernel
theorem dX9_carryOut_71 : decode cX9_carryOut 71 = .ok (.getfield 12, 3) := by decide +kernel
theorem dX9_carryOut_74 : decode cX9_carryOut 74 = .ok (.aload_n 1, 1) := by decide +kernel
theorem dX9_carryOut_75 : decode cX9_carryOut 75 = .ok (.getfield 403, 3) := by decide +kernel
theorem dX9_carryOut_78 : decode cX9_carryOut 78 = .ok (.aload_n 1, 1) := by decide +kernel
theorem dX9_carryOut_79 : decode cX9_carryOut 79 = .ok (.getfield 406, 3) := by decide +kernel
theorem dX9_carryOut_82 : decode cX9_carryOut 82 = .ok (.invokevirtual 74, 3) := by decide +kernel
theorem dX9_carryOut_85 : decode cX9_carryOut 85 = .ok (.goto 71, 3) := by decide +kernel
theorem dX9_carryOut_88 : decode cX9_carryOut 88 = .ok (.aload_n 1, 1) := by decide +kernel
theorem dX9_carryOut_89 : decode cX9_carryOut 89 = .ok (.getfield 389, 3) := by decide +kernel
theorem dX9_carryOut_92 : decode cX9_carryOut 92 = .ok (.getstatic 415, 3) := by decide +kernel
theorem dX9_carryOut_95 : decode cX9_carryOut 95 = .ok (.if_acmp .ne 18, 3) := by decide +kernel
theorem dX9_carryOut_98 : decode cX9_carryOut 98 = .ok (.aload_n 0, 1) := by decide +kernel
theorem dX9_carryOut_99 : decode cX9_carryOut 99 = .ok (.getfield 12, 3) := by decide +kernel
theorem dX9_carryOut_102 : decode cX9_carryOut 102 = .ok (.aload_n 1, 1) := by decide +kernel
theorem dX9_carryOut_103 : decode cX9_carryOut 103 = .ok (.getfield 403, 3) := by decide +kernel
theorem dX9_carryOut_106 : decode cX9_carryOut 106 = .ok (.invokevirtual 86, 3) := by decide +kernel
theorem dX9_carryOut_109 : decode cX9_carryOut 109 = .ok (.pop, 1) := by decide +kernel
theorem dX9_carryOut_110 : decode cX9_carryOut 110 = .ok (.goto 46, 3) := by decide +kernel
theorem dX9_carryOut_113 : decode cX9_carryOut 113 = .ok (.aload_n 1, 1) := by decide +kernel
theorem dX9_carryOut_114 : decode cX9_carryOut 114 = .ok (.getfield 389, 3) := by decide +kernel
theorem dX9_carryOut_117 : decode cX9_carryOut 117 = .ok (.getstatic 418, 3) := by decide +kernel
theorem dX9_carryOut_120 : decode cX9_carryOut 120 = .ok (.if_acmp .ne 24, 3) := by decide +kernel
theorem dX9_carryOut_123 : decode cX9_carryOut 123 = .ok (.aload_n 0, 1) := by decide +kernel
theorem dX9_carryOut_124 : decode cX9_carryOut 124 = .ok (.getfield 12, 3) := by decide +kernel
theorem dX9_carryOut_127 : decode cX9_carryOut 127 = .ok (.getfield 96, 3) := by decide +kernel
theorem dX9_carryOut_130 : decode cX9_carryOut 130 = .ok (.aload_n 1, 1) := by decide +kernel
theorem dX9_carryOut_131 : decode cX9_carryOut 131 = .ok (.getfield 403, 3) := by decide +kernel
theorem dX9_carryOut_134 : decode cX9_carryOut 134 = .ok (.iconst 2, 1) := by decide +kernel
theorem dX9_carryOut_135 : decode cX9_carryOut 135 = .ok (.aload_n 1, 1) := by decide +kernel
theorem dX9_carryOut_136 : decode cX9_carryOut 136 = .ok (.getfield 406, 3) := by decide +kernel
theorem dX9_carryOut_139 : decode cX9_carryOut 139 = .ok (.imul, 1) := by decide +kernel
theorem dX9_carryOut_140 : decode cX9_carryOut 140 = .ok (.iastore, 1) := by decide +kernel
theorem dX9_carryOut_141 : decode cX9_carryOut 141 = .ok (.goto 15, 3) := by decide +kernel
theorem dX9_carryOut_144 : decode cX9_carryOut 144 = .ok (.aload_n 0, 1) := by decide +kernel
theorem dX9_carryOut_145 : decode cX9_carryOut 145 = .ok (.getfield 12, 3) := by decide +kernel
theorem dX9_carryOut_148 : decode cX9_carryOut 148 = .ok (.aload_n 1, 1) := by decide +kernel
theorem dX9_carryOut_149 : decode cX9_carryOut 149 = .ok (.getfield 403, 3) := by decide +kernel
theorem dX9_carryOut_152 : decode cX9_carryOut 152 = .ok (.invokestatic 103, 3) := by decide +kernel
theorem dX9_carryOut_155 : decode cX9_carryOut 155 = .ok (.pop, 1) := by decide +kernel
theorem dX9_carryOut_156 : decode cX9_carryOut 156 = .ok (.return_, 1) := by decide +kernel
theorem dX10_init_0 : decode cX10_init 0 = .ok (.aload_n 0, 1) := by decide +kernel
theorem dX10_init_1 : decode cX10_init 1 = .ok (.invokespecial 1, 3) := by decide +kernel
theorem dX10_init_4 : decode cX10_init 4 = .ok (.aload_n 0, 1) := by decide +kernel
theorem dX10_init_5 : decode cX10_init 5 = .ok (.bipush 104, 2) := by decide +kernel
theorem dX10_init_7 : decode cX10_init 7 = .ok (.newarray .int, 2) := by decide +kernel
theorem dX10_init_9 : decode cX10_init 9 = .ok (.putfield 7, 3) := by decide +kernel
theorem dX10_init_12 : decode cX10_init 12 = .ok (.aload_n 0, 1) := by decide +kernel
theorem dX10_init_13 : decode cX10_init 13 = .ok (.bipush 104, 2) := by decide +kernel
theorem dX10_init_15 : decode cX10_init 15 = .ok (.newarray .int, 2) := by decide +kernel
theorem dX10_init_17 : decode cX10_init 17 = .ok (.putfield 13, 3) := by decide +kernel
theorem dX10_init_20 : decode cX10_init 20 = .ok (.aload_n 0, 1) := by decide +kernel
theorem dX10_init_21 : decode cX10_init 21 = .ok (.bipush 104, 2) := by decide +kernel
theorem dX10_init_23 : decode cX10_init 23 = .ok (.newarray .int, 2) := by decide +kernel
theorem dX10_init_25 : decode cX10_init 25 = .ok (.putfield 16, 3) := by decide +kernel
theorem dX10_init_28 : decode cX10_init 28 = .ok (.aload_n 0, 1) := by decide +kernel
theorem dX10_init_29 : decode cX10_init 29 = .ok (.sipush 832, 3) := by decide +kernel
theorem dX10_init_32 : decode cX10_init 32 = .ok (.newarray .int, 2) := by decide +kernel
theorem dX10_init_34 : decode cX10_init 34 = .ok (.putfield 19, 3) := by decide +kernel
theorem dX10_init_37 : decode cX10_init 37 = .ok (.aload_n 0, 1) := by decide +kernel
theorem dX10_init_38 : decode cX10_init 38 = .ok (.bipush 60, 2) := by decide +kernel
theorem dX10_init_40 : decode cX10_init 40 = .ok (.newarray .int, 2) := by decide +kernel
theorem dX10_init_42 : decode cX10_init 42 = .ok (.putfield 22, 3) := by decide +kernel
theorem dX10_init_45 : decode cX10_init 45 = .ok (.aload_n 0, 1) := by decide +kernel
theorem dX10_init_46 : decode cX10_init 46 = .ok (.sipush 300, 3) := by decide +kernel
theorem dX10_init_49 : decode cX10_init 49 = .ok (.newarray .int, 2) := by decide +kernel
theorem dX10_init_51 : decode cX10_init 51 = .ok (.putfield 25, 3) := by decide +kernel
theorem dX10_init_54 : decode cX10_init 54 = .ok (.aload_n 0, 1) := by decide +kernel
theorem dX10_init_55 : decode cX10_init 55 = .ok (.sipush 200, 3) := by decide +kernel
theorem dX10_init_58 : decode cX10_init 58 = .ok (.newarray .int, 2) := by decide +kernel
theorem dX10_init_60 : decode cX10_init 60 = .ok (.putfield 28, 3) := by decide +kernel
theorem dX10_init_63 : decode cX10_init 63 = .ok (.aload_n 0, 1) := by decide +kernel
theorem dX10_init_64 : decode cX10_init 64 = .ok (.bipush 16, 2) := by decide +kernel
theorem dX10_init_66 : decode cX10_init 66 = .ok (.newarray .int, 2) := by decide +kernel
theorem dX10_init_68 : decode cX10_init 68 = .ok (.putfield 31, 3) := by decide +kernel
theorem dX10_init_71 : decode cX10_init 71 = .ok (.aload_n 0, 1) := by decide +kernel
theorem dX10_init_72 : decode cX10_init 72 = .ok (.iconst (-1), 1) := by decide +kernel
theorem dX10_init_73 : decode cX10_init 73 = .ok (.putfield 34, 3) := by decide +kernel
theorem dX10_init_76 : decode cX10_init 76 = .ok (.aload_n 0, 1) := by decide +kernel
theorem dX10_init_77 : decode cX10_init 77 = .ok (.iconst (-1), 1) := by decide +kernel
theorem dX10_init_78 : decode cX10_init 78 = .ok (.putfield 38, 3) := by decide +kernel
theorem dX10_init_81 : decode cX10_init 81 = .ok (.aload_n 0, 1) := by decide +kernel
theorem dX10_init_82 : decode cX10_init 82 = .ok (.getfield 7, 3) := by decide +kernel
theorem dX10_init_85 : decode cX10_init 85 = .ok (.iconst 2, 1) := by decide +kernel
theorem dX10_init_86 : decode cX10_init 86 = .ok (.bipush 80, 2) := by decide +kernel
theorem dX10_init_88 : decode cX10_init 88 = .ok (.iastore, 1) := by decide +kernel
theorem dX10_init_89 : decode cX10_init 89 = .ok (.aload_n 0, 1) := by decide +kernel
theorem dX10_init_90 : decode cX10_init 90 = .ok (.getfield 7, 3) := by decide +kernel
theorem dX10_init_93 : decode cX10_init 93 = .ok (.iconst 3, 1) := by decide +kernel
theorem dX10_init_94 : decode cX10_init 94 = .ok (.bipush 80, 2) := by decide +kernel
theorem dX10_init_96 : decode cX10_init 96 = .ok (.iastore, 1) := by decide +kernel
theorem dX10_init_97 : decode cX10_init 97 = .ok (.return_, 1) := by decide +kernel
theorem dX10_thrown_0 : decode cX10_thrown 0 = .ok (.aload_n 0, 1) := by decide +kernel
theorem dX10_thrown_1 : decode cX10_thrown 1 = .ok (.getfield 41, 3) := by decide +kernel
theorem dX10_thrown_4 : decode cX10_thrown 4 = .ok (.ireturn, 1) := by decide +kernel
theorem dX10_fails_0 : decode cX10_fails 0 = .ok (.aload_n 0, 1) := by decide +kernel
theorem dX10_fails_1 : decode cX10_fails 1 = .ok (.iload_n 1, 1) := by decide +kernel
theorem dX10_fails_2 : decode cX10_fails 2 = .ok (.putfield 41, 3) := by decide +kernel
theorem dX10_fails_5 : decode cX10_fails 5 = .ok (.iconst 0, 1) := by decide +kernel
theorem dX10_fails_6 : decode cX10_fails 6 = .ok (.ireturn, 1) := by decide +kernel
theorem dX10_in_0 : decode cX10_in 0 = .ok (.iload_n 0, 1) := by decide +kernel
theorem dX10_in_1 : decode cX10_in 1 = .ok (.iload_n 1, 1) := by decide +kernel
theorem dX10_in_2 : decode cX10_in 2 = .ok (.if_icmp .lt 12, 3) := by decide +kernel
theorem dX10_in_5 : decode cX10_in 5 = .ok (.iload_n 0, 1) := by decide +kernel
theorem dX10_in_6 : decode cX10_in 6 = .ok (.iload_n 2, 1) := by decide +kernel
theorem dX10_in_7 : decode cX10_in 7 = .ok (.if_icmp .gt 7, 3) := by decide +kernel
theorem dX10_in_10 : decode cX10_in 10 = .ok (.iconst 1, 1) := by decide +kernel
theorem dX10_in_11 : decode cX10_in 11 = .ok (.goto 4, 3) := by decide +kernel
theorem dX10_in_14 : decode cX10_in 14 = .ok (.iconst 0, 1) := by decide +kernel
theorem dX10_in_15 : decode cX10_in 15 = .ok (.ireturn, 1) := by decide +kernel
theorem dX10_remembers_0 : decode cX10_remembers 0 = .ok (.aload_n 0, 1) := by decide +kernel
theorem dX10_remembers_1 : decode cX10_remembers 1 = .ok (.iconst 0, 1) := by decide +kernel
theorem dX10_remembers_2 : decode cX10_remembers 2 = .ok (.putfield 41, 3) := by decide +kernel
theorem dX10_remembers_5 : decode cX10_remembers 5 = .ok (.iconst 0, 1) := by decide +kernel
theorem dX10_remembers_6 : decode cX10_remembers 6 = .ok (.istore_n 1, 1) := by decide +kernel
theorem dX10_remembers_7 : decode cX10_remembers 7 = .ok (.iload_n 1, 1) := by decide +kernel
theorem dX10_remembers_8 : decode cX10_remembers 8 = .ok (.bipush 104, 2) := by decide +kernel
theorem dX10_remembers_10 : decode cX10_remembers 10 = .ok (.if_icmp .ge 21, 3) := by decide +kernel
theorem dX10_remembers_13 : decode cX10_remembers 13 = .ok (.aload_n 0, 1) := by decide +kernel
theorem dX10_remembers_14 : decode cX10_remembers 14 = .ok (.getfield 13, 3) := by decide +kernel
theorem dX10_remembers_17 : decode cX10_remembers 17 = .ok (.iload_n 1, 1) := by decide +kernel
theorem dX10_remembers_18 : decode cX10_remembers 18 = .ok (.aload_n 0, 1) := by decide +kernel
theorem dX10_remembers_19 : decode cX10_remembers 19 = .ok (.getfield 7, 3) := by decide +kernel
theorem dX10_remembers_22 : decode cX10_remembers 22 = .ok (.iload_n 1, 1) := by decide +kernel
theorem dX10_remembers_23 : decode cX10_remembers 23 = .ok (.iaload, 1) := by decide +kernel
theorem dX10_remembers_24 : decode cX10_remembers 24 = .ok (.iastore, 1) := by decide +kernel
theorem dX10_remembers_25 : decode cX10_remembers 25 = .ok (.iinc 1 1, 3) := by decide +kernel
theorem dX10_remembers_28 : decode cX10_remembers 28 = .ok (.goto (-21), 3) := by decide +kernel
theorem dX10_remembers_31 : decode cX10_remembers 31 = .ok (.return_, 1) := by decide +kernel
theorem dX10_changed_0 : decode cX10_changed 0 = .ok (.aload_n 0, 1) := by decide +kernel
theorem dX10_changed_1 : decode cX10_changed 1 = .ok (.getfield 44, 3) := by decide +kernel
theorem dX10_changed_4 : decode cX10_changed 4 = .ok (.bipush 8, 2) := by decide +kernel
theorem dX10_changed_6 : decode cX10_changed 6 = .ok (.if_icmp .ne 36, 3) := by decide +kernel
theorem dX10_changed_9 : decode cX10_changed 9 = .ok (.iconst 0, 1) := by decide +kernel
theorem dX10_changed_10 : decode cX10_changed 10 = .ok (.istore_n 2, 1) := by decide +kernel
theorem dX10_changed_11 : decode cX10_changed 11 = .ok (.iload_n 2, 1) := by decide +kernel
theorem dX10_changed_12 : decode cX10_changed 12 = .ok (.sipush 728, 3) := by decide +kernel
theorem dX10_changed_15 : decode cX10_changed 15 = .ok (.if_icmp .ge 24, 3) := by decide +kernel
theorem dX10_changed_18 : decode cX10_changed 18 = .ok (.aload_n 0, 1) := by decide +kernel
theorem dX10_changed_19 : decode cX10_changed 19 = .ok (.getfield 19, 3) := by decide +kernel
theorem dX10_changed_22 : decode cX10_changed 22 = .ok (.iload_n 2, 1) := by decide +kernel
theorem dX10_changed_23 : decode cX10_changed 23 = .ok (.aload_n 0, 1) := by decide +kernel
theorem dX10_changed_24 : decode cX10_changed 24 = .ok (.getfield 19, 3) := by decide +kernel
theorem dX10_changed_27 : decode cX10_changed 27 = .ok (.iload_n 2, 1) := by decide +kernel
theorem dX10_changed_28 : decode cX10_changed 28 = .ok (.bipush 104, 2) := by decide +kernel
theorem dX10_changed_30 : decode cX10_changed 30 = .ok (.iadd, 1) := by decide +kernel
theorem dX10_changed_31 : decode cX10_changed 31 = .ok (.iaload, 1) := by decide +kernel
theorem dX10_changed_32 : decode cX10_changed 32 = .ok (.iastore, 1) := by decide +kernel
theorem dX10_changed_33 : decode cX10_changed 33 = .ok (.iinc 2 1, 3) := by decide +kernel
theorem dX10_changed_36 : decode cX10_changed 36 = .ok (.goto (-25), 3) := by decide +kernel
theorem dX10_changed_39 : decode cX10_changed 39 = .ok (.goto 13, 3) := by decide +kernel
theorem dX10_changed_42 : decode cX10_changed 42 = .ok (.aload_n 0, 1) := by decide +kernel
theorem dX10_changed_43 : decode cX10_changed 43 = .ok (.dup, 1) := by decide +kernel
theorem dX10_changed_44 : decode cX10_changed 44 = .ok (.getfield 44, 3) := by decide +kernel
theorem dX10_changed_47 : decode cX10_changed 47 = .ok (.iconst 1, 1) := by decide +kernel
theorem dX10_changed_48 : decode cX10_changed 48 = .ok (.iadd, 1) := by decide +kernel
theorem dX10_changed_49 : decode cX10_changed 49 = .ok (.putfield 44, 3) := by decide +kernel
theorem dX10_changed_52 : decode cX10_changed 52 = .ok (.iconst 0, 1) := by decide +kernel
theorem dX10_changed_53 : decode cX10_changed 53 = .ok (.istore_n 2, 1) := by decide +kernel
theorem dX10_changed_54 : decode cX10_changed 54 = .ok (.iload_n 2, 1) := by decide +kernel
theorem dX10_changed_55 : decode cX10_changed 55 = .ok (.bipush 104, 2) := by decide +kernel
theorem dX10_changed_57 : decode cX10_changed 57 = .ok (.if_icmp .ge 31, 3) := by decide +kernel
theorem dX10_changed_60 : decode cX10_changed 60 = .ok (.aload_n 0, 1) := by decide +kernel
theorem dX10_changed_61 : decode cX10_changed 61 = .ok (.getfield 19, 3) := by decide +kernel
theorem dX10_changed_64 : decode cX10_changed 64 = .ok (.bipush 104, 2) := by decide +kernel
theorem dX10_changed_66 : decode cX10_changed 66 = .ok (.aload_n 0, 1) := by decide +kernel
theorem dX10_changed_67 : decode cX10_changed 67 = .ok (.getfield 44, 3) := by decide +kernel
theorem dX10_changed_70 : decode cX10_changed 70 = .ok (.iconst 1, 1) := by decide +kernel
theorem dX10_changed_71 : decode cX10_changed 71 = .ok (.isub, 1) := by decide +kernel
theorem dX10_changed_72 : decode cX10_changed 72 = .ok (.imul, 1) := by decide +kernel
theorem dX10_changed_73 : decode cX10_changed 73 = .ok (.iload_n 2, 1) := by decide +kernel
theorem dX10_changed_74 : decode cX10_changed 74 = .ok (.iadd, 1) := by decide +kernel
theorem dX10_changed_75 : decode cX10_changed 75 = .ok (.aload_n 0, 1) := by decide +kernel
theorem dX10_changed_76 : decode cX10_changed 76 = .ok (.getfield 13, 3) := by decide +kernel
theorem dX10_changed_79 : decode cX10_changed 79 = .ok (.iload_n 2, 1) := by decide +kernel
theorem dX10_changed_80 : decode cX10_changed 80 = .ok (.iaload, 1) := by decide +kernel
theorem dX10_changed_81 : decode cX10_changed 81 = .ok (.iastore, 1) := by decide +kernel
theorem dX10_changed_82 : decode cX10_changed 82 = .ok (.iinc 2 1, 3) := by decide +kernel
theorem dX10_changed_85 : decode cX10_changed 85 = .ok (.goto (-31), 3) := by decide +kernel
theorem dX10_changed_88 : decode cX10_changed 88 = .ok (.iload_n 1, 1) := by decide +kernel
theorem dX10_changed_89 : decode cX10_changed 89 = .ok (.ireturn, 1) := by decide +kernel
theorem dX10_done_0 : decode cX10_done 0 = .ok (.aload_n 0, 1) := by decide +kernel
theorem dX10_done_1 : decode cX10_done 1 = .ok (.iload_n 1, 1) := by decide +kernel
theorem dX10_done_2 : decode cX10_done 2 = .ok (.putfield 47, 3) := by decide +kernel
theorem dX10_done_5 : decode cX10_done 5 = .ok (.iconst 0, 1) := by decide +kernel
theorem dX10_done_6 : decode cX10_done 6 = .ok (.ireturn, 1) := by decide +kernel
theorem dX10_ends_0 : decode cX10_ends 0 = .ok (.iload_n 1, 1) := by decide +kernel
theorem dX10_ends_1 : decode cX10_ends 1 = .ok (.ifCond .ne 14, 3) := by decide +kernel
theorem dX10_ends_4 : decode cX10_ends 4 = .ok (.aload_n 0, 1) := by decide +kernel
theorem dX10_ends_5 : decode cX10_ends 5 = .ok (.aload_n 0, 1) := by decide +kernel
theorem dX10_ends_6 : decode cX10_ends 6 = .ok (.getfield 47, 3) := by decide +kernel
theorem dX10_ends_9 : decode cX10_ends 9 = .ok (.invokevirtual 50, 3) := by decide +kernel
theorem dX10_ends_12 : decode cX10_ends 12 = .ok (.goto 8, 3) := by decide +kernel
theorem dX10_ends_15 : decode cX10_ends 15 = .ok (.aload_n 0, 1) := by decide +kernel
theorem dX10_ends_16 : decode cX10_ends 16 = .ok (.iload_n 1, 1) := by decide +kernel
theorem dX10_ends_17 : decode cX10_ends 17 = .ok (.invokevirtual 54, 3) := by decide +kernel
theorem dX10_ends_20 : decode cX10_ends 20 = .ok (.ireturn, 1) := by decide +kernel
theorem dX10_isGarment_0 : decode cX10_isGarment 0 = .ok (.iload_n 1, 1) := by decide +kernel
theorem dX10_isGarment_1 : decode cX10_isGarment 1 = .ok (.iconst 0, 1) := by decide +kernel
theorem dX10_isGarment_2 : decode cX10_isGarment 2 = .ok (.aload_n 0, 1) := by decide +kernel
theorem dX10_isGarment_3 : decode cX10_isGarment 3 = .ok (.getfield 7, 3) := by decide +kernel
theorem dX10_isGarment_6 : decode cX10_isGarment 6 = .ok (.iconst 0, 1) := by decide +kernel
theorem dX10_isGarment_7 : decode cX10_isGarment 7 = .ok (.iaload, 1) := by decide +kernel
theorem dX10_isGarment_8 : decode cX10_isGarment 8 = .ok (.iconst 1, 1) := by decide +kernel
theorem dX10_isGarment_9 : decode cX10_isGarment 9 = .ok (.isub, 1) := by decide +kernel
theorem dX10_isGarment_10 : decode cX10_isGarment 10 = .ok (.invokestatic 57, 3) := by decide +kernel
theorem dX10_isGarment_13 : decode cX10_isGarment 13 = .ok (.ireturn, 1) := by decide +kernel
theorem dX10_isClient_0 : decode cX10_isClient 0 = .ok (.iload_n 0, 1) := by decide +kernel
theorem dX10_isClient_1 : decode cX10_isClient 1 = .ok (.iconst 0, 1) := by decide +kernel
theorem dX10_isClient_2 : decode cX10_isClient 2 = .ok (.iconst 3, 1) := by decide +kernel
theorem dX10_isClient_3 : decode cX10_isClient 3 = .ok (.invokestatic 57, 3) := by decide +kernel
theorem dX10_isClient_6 : decode cX10_isClient 6 = .ok (.ireturn, 1) := by decide +kernel
theorem dX10_isMachine_0 : decode cX10_isMachine 0 = .ok (.iload_n 0, 1) := by decide +kernel
theorem dX10_isMachine_1 : decode cX10_isMachine 1 = .ok (.iconst 0, 1) := by decide +kernel
theorem dX10_isMachine_2 : decode cX10_isMachine 2 = .ok (.iconst 1, 1) := by decide +kernel
theorem dX10_isMachine_3 : decode cX10_isMachine 3 = .ok (.invokestatic 57, 3) := by decide +kernel
theorem dX10_isMachine_6 : decode cX10_isMachine 6 = .ok (.ireturn, 1) := by decide +kernel
theorem dX10_of_0 : decode cX10_of 0 = .ok (.aload_n 0, 1) := by decide +kernel
theorem dX10_of_1 : decode cX10_of 1 = .ok (.getfield 7, 3) := by decide +kernel
theorem dX10_of_4 : decode cX10_of 4 = .ok (.iconst 4, 1) := by decide +kernel
theorem dX10_of_5 : decode cX10_of 5 = .ok (.bipush 6, 2) := by decide +kernel
theorem dX10_of_7 : decode cX10_of 7 = .ok (.iload_n 1, 1) := by decide +kernel
theorem dX10_of_8 : decode cX10_of 8 = .ok (.imul, 1) := by decide +kernel
theorem dX10_of_9 : decode cX10_of 9 = .ok (.iadd, 1) := by decide +kernel
theorem dX10_of_10 : decode cX10_of 10 = .ok (.iload_n 2, 1) := by decide +kernel
theorem dX10_of_11 : decode cX10_of 11 = .ok (.iadd, 1) := by decide +kernel
theorem dX10_of_12 : decode cX10_of 12 = .ok (.iaload, 1) := by decide +kernel
theorem dX10_of_13 : decode cX10_of 13 = .ok (.ireturn, 1) := by decide +kernel
theorem dX10_sets_0 : decode cX10_sets 0 = .ok (.aload_n 0, 1) := by decide +kernel
theorem dX10_sets_1 : decode cX10_sets 1 = .ok (.getfield 7, 3) := by decide +kernel
theorem dX10_sets_4 : decode cX10_sets 4 = .ok (.iconst 4, 1) := by decide +kernel
theorem dX10_sets_5 : decode cX10_sets 5 = .ok (.bipush 6, 2) := by decide +kernel
theorem dX10_sets_7 : decode cX10_sets 7 = .ok (.iload_n 1, 1) := by decide +kernel
theorem dX10_sets_8 : decode cX10_sets 8 = .ok (.imul, 1) := by decide +kernel
theorem dX10_sets_9 : decode cX10_sets 9 = .ok (.iadd, 1) := by decide +kernel
theorem dX10_sets_10 : decode cX10_sets 10 = .ok (.iload_n 2, 1) := by decide +kernel
theorem dX10_sets_11 : decode cX10_sets 11 = .ok (.iadd, 1) := by decide +kernel
theorem dX10_sets_12 : decode cX10_sets 12 = .ok (.iload_n 3, 1) := by decide +kernel
theorem dX10_sets_13 : decode cX10_sets 13 = .ok (.iastore, 1) := by decide +kernel
theorem dX10_sets_14 : decode cX10_sets 14 = .ok (.return_, 1) := by decide +kernel
theorem dX10_bits_0 : decode cX10_bits 0 = .ok (.iconst 0, 1) := by decide +kernel
theorem dX10_bits_1 : decode cX10_bits 1 = .ok (.istore_n 1, 1) := by decide +kernel
theorem dX10_bits_2 : decode cX10_bits 2 = .ok (.iload_n 0, 1) := by decide +kernel
theorem dX10_bits_3 : decode cX10_bits 3 = .ok (.istore_n 2, 1) := by decide +kernel
theorem dX10_bits_4 : decode cX10_bits 4 = .ok (.iload_n 2, 1) := by decide +kernel
theorem dX10_bits_5 : decode cX10_bits 5 = .ok (.ifCond .le 16, 3) := by decide +kernel
theorem dX10_bits_8 : decode cX10_bits 8 = .ok (.iload_n 1, 1) := by decide +kernel
theorem dX10_bits_9 : decode cX10_bits 9 = .ok (.iload_n 2, 1) := by decide +kernel
theorem dX10_bits_10 : decode cX10_bits 10 = .ok (.iconst 2, 1) := by decide +kernel
theorem dX10_bits_11 : decode cX10_bits 11 = .ok (.irem, 1) := by decide +kernel
theorem dX10_bits_12 : decode cX10_bits 12 = .ok (.iadd, 1) := by decide +kernel
theorem dX10_bits_13 : decode cX10_bits 13 = .ok (.istore_n 1, 1) := by decide +kernel
theorem dX10_bits_14 : decode cX10_bits 14 = .ok (.iload_n 2, 1) := by decide +kernel
theorem dX10_bits_15 : decode cX10_bits 15 = .ok (.iconst 2, 1) := by decide +kernel
theorem dX10_bits_16 : decode cX10_bits 16 = .ok (.idiv, 1) := by decide +kernel
theorem dX10_bits_17 : decode cX10_bits 17 = .ok (.istore_n 2, 1) := by decide +kernel
theorem dX10_bits_18 : decode cX10_bits 18 = .ok (.goto (-14), 3) := by decide +kernel
theorem dX10_bits_21 : decode cX10_bits 21 = .ok (.iload_n 1, 1) := by decide +kernel
theorem dX10_bits_22 : decode cX10_bits 22 = .ok (.ireturn, 1) := by decide +kernel
theorem dX10_isInside_0 : decode cX10_isInside 0 = .ok (.aload_n 0, 1) := by decide +kernel
theorem dX10_isInside_1 : decode cX10_isInside 1 = .ok (.iload_n 1, 1) := by decide +kernel
theorem dX10_isInside_2 : decode cX10_isInside 2 = .ok (.iconst 4, 1) := by decide +kernel
theorem dX10_isInside_3 : decode cX10_isInside 3 = .ok (.invokevirtual 61, 3) := by decide +kernel
theorem dX10_isInside_6 : decode cX10_isInside 6 = .ok (.iload_n 2, 1) := by decide +kernel
theorem dX10_isInside_7 : decode cX10_isInside 7 = .ok (.iconst 1, 1) := by decide +kernel
theorem dX10_isInside_8 : decode cX10_isInside 8 = .ok (.iadd, 1) := by decide +kernel
theorem dX10_isInside_9 : decode cX10_isInside 9 = .ok (.if_icmp .ne 7, 3) := by decide +kernel
theorem dX10_isInside_12 : decode cX10_isInside 12 = .ok (.iconst 1, 1) := by decide +kernel
theorem dX10_isInside_13 : decode cX10_isInside 13 = .ok (.goto 4, 3) := by decide +kernel
theorem dX10_isInside_16 : decode cX10_isInside 16 = .ok (.iconst 0, 1) := by decide +kernel
theorem dX10_isInside_17 : decode cX10_isInside 17 = .ok (.ireturn, 1) := by decide +kernel
theorem dX10_held_0 : decode cX10_held 0 = .ok (.iconst 0, 1) := by decide +kernel
theorem dX10_held_1 : decode cX10_held 1 = .ok (.istore_n 2, 1) := by decide +kernel
theorem dX10_held_2 : decode cX10_held 2 = .ok (.iconst 0, 1) := by decide +kernel
theorem dX10_held_3 : decode cX10_held 3 = .ok (.istore_n 3, 1) := by decide +kernel
theorem dX10_held_4 : decode cX10_held 4 = .ok (.iload_n 3, 1) := by decide +kernel
theorem dX10_held_5 : decode cX10_held 5 = .ok (.aload_n 0, 1) := by decide +kernel
theorem dX10_held_6 : decode cX10_held 6 = .ok (.getfield 7, 3) := by decide +kernel
theorem dX10_held_9 : decode cX10_held 9 = .ok (.iconst 0, 1) := by decide +kernel
theorem dX10_held_10 : decode cX10_held 10 = .ok (.iaload, 1) := by decide +kernel
theorem dX10_held_11 : decode cX10_held 11 = .ok (.if_icmp .ge 26, 3) := by decide +kernel
theorem dX10_held_14 : decode cX10_held 14 = .ok (.iload_n 2, 1) := by decide +kernel
theorem dX10_held_15 : decode cX10_held 15 = .ok (.aload_n 0, 1) := by decide +kernel
theorem dX10_held_16 : decode cX10_held 16 = .ok (.iload_n 3, 1) := by decide +kernel
theorem dX10_held_17 : decode cX10_held 17 = .ok (.iload_n 1, 1) := by decide +kernel
theorem dX10_held_18 : decode cX10_held 18 = .ok (.invokevirtual 65, 3) := by decide +kernel
theorem dX10_held_21 : decode cX10_held 21 = .ok (.ifCond .eq 7, 3) := by decide +kernel
theorem dX10_held_24 : decode cX10_held 24 = .ok (.iconst 1, 1) := by decide +kernel
theorem dX10_held_25 : decode cX10_held 25 = .ok (.goto 4, 3) := by decide +kernel
theorem dX10_held_28 : decode cX10_held 28 = .ok (.iconst 0, 1) := by decide +kernel
theorem dX10_held_29 : decode cX10_held 29 = .ok (.iadd, 1) := by decide +kernel
theorem dX10_held_30 : decode cX10_held 30 = .ok (.istore_n 2, 1) := by decide +kernel
theorem dX10_held_31 : decode cX10_held 31 = .ok (.iinc 3 1, 3) := by decide +kernel
theorem dX10_held_34 : decode cX10_held 34 = .ok (.goto (-30), 3) := by decide +kernel
theorem dX10_held_37 : decode cX10_held 37 = .ok (.iload_n 2, 1) := by decide +kernel
theorem dX10_held_38 : decode cX10_held 38 = .ok (.ireturn, 1) := by decide +kernel
theorem dX10_heldOf_0 : decode cX10_heldOf 0 = .ok (.iconst 0, 1) := by decide +kernel
theorem dX10_heldOf_1 : decode cX10_heldOf 1 = .ok (.istore_n 3, 1) := by decide +kernel
theorem dX10_heldOf_2 : decode cX10_heldOf 2 = .ok (.iconst 0, 1) := by decide +kernel
theorem dX10_heldOf_3 : decode cX10_heldOf 3 = .ok (.istore 4, 2) := by decide +kernel
theorem dX10_heldOf_5 : decode cX10_heldOf 5 = .ok (.iload 4, 2) := by decide +kernel
theorem dX10_heldOf_7 : decode cX10_heldOf 7 = .ok (.aload_n 0, 1) := by decide +kernel
theorem dX10_heldOf_8 : decode cX10_heldOf 8 = .ok (.getfield 7, 3) := by decide +kernel
theorem dX10_heldOf_11 : decode cX10_heldOf 11 = .ok (.iconst 0, 1) := by decide +kernel
theorem dX10_heldOf_12 : decode cX10_heldOf 12 = .ok (.iaload, 1) := by decide +kernel
theorem dX10_heldOf_13 : decode cX10_heldOf 13 = .ok (.if_icmp .ge 38, 3) := by decide +kernel
theorem dX10_heldOf_16 : decode cX10_heldOf 16 = .ok (.iload_n 3, 1) := by decide +kernel
theorem dX10_heldOf_17 : decode cX10_heldOf 17 = .ok (.aload_n 0, 1) := by decide +kernel
theorem dX10_heldOf_18 : decode cX10_heldOf 18 = .ok (.iload 4, 2) := by decide +kernel
theorem dX10_heldOf_20 : decode cX10_heldOf 20 = .ok (.iload_n 1, 1) := by decide +kernel
theorem dX10_heldOf_21 : decode cX10_heldOf 21 = .ok (.invokevirtual 65, 3) := by decide +kernel
theorem dX10_heldOf_24 : decode cX10_heldOf 24 = .ok (.ifCond .eq 18, 3) := by decide +kernel
theorem dX10_heldOf_27 : decode cX10_heldOf 27 = .ok (.aload_n 0, 1) := by decide +kernel
theorem dX10_heldOf_28 : decode cX10_heldOf 28 = .ok (.iload 4, 2) := by decide +kernel
theorem dX10_heldOf_30 : decode cX10_heldOf 30 = .ok (.iconst 0, 1) := by decide +kernel
theorem dX10_heldOf_31 : decode cX10_heldOf 31 = .ok (.invokevirtual 61, 3) := by decide +kernel
theorem dX10_heldOf_34 : decode cX10_heldOf 34 = .ok (.iload_n 2, 1) := by decide +kernel
theorem dX10_heldOf_35 : decode cX10_heldOf 35 = .ok (.if_icmp .ne 7, 3) := by decide +kernel
theorem dX10_heldOf_38 : decode cX10_heldOf 38 = .ok (.iconst 1, 1) := by decide +kernel
theorem dX10_heldOf_39 : decode cX10_heldOf 39 = .ok (.goto 4, 3) := by decide +kernel
theorem dX10_heldOf_42 : decode cX10_heldOf 42 = .ok (.iconst 0, 1) := by decide +kernel
theorem dX10_heldOf_43 : decode cX10_heldOf 43 = .ok (.iadd, 1) := by decide +kernel
theorem dX10_heldOf_44 : decode cX10_heldOf 44 = .ok (.istore_n 3, 1) := by decide +kernel
theorem dX10_heldOf_45 : decode cX10_heldOf 45 = .ok (.iinc 4 1, 3) := by decide +kernel
theorem dX10_heldOf_48 : decode cX10_heldOf 48 = .ok (.goto (-43), 3) := by decide +kernel
theorem dX10_heldOf_51 : decode cX10_heldOf 51 = .ok (.iload_n 3, 1) := by decide +kernel
theorem dX10_heldOf_52 : decode cX10_heldOf 52 = .ok (.ireturn, 1) := by decide +kernel
theorem dX10_washable_0 : decode cX10_washable 0 = .ok (.iconst 0, 1) := by decide +kernel
theorem dX10_washable_1 : decode cX10_washable 1 = .ok (.istore_n 1, 1) := by decide +kernel
theorem dX10_washable_2 : decode cX10_washable 2 = .ok (.iconst 0, 1) := by decide +kernel
theorem dX10_washable_3 : decode cX10_washable 3 = .ok (.istore_n 2, 1) := by decide +kernel
theorem dX10_washable_4 : decode cX10_washable 4 = .ok (.iload_n 2, 1) := by decide +kernel
theorem dX10_washable_5 : decode cX10_washable 5 = .ok (.bipush 8, 2) := by decide +kernel
theorem dX10_washable_7 : decode cX10_washable 7 = .ok (.if_icmp .ge 30, 3) := by decide +kernel
theorem dX10_washable_10 : decode cX10_washable 10 = .ok (.iload_n 1, 1) := by decide +kernel
theorem dX10_washable_11 : decode cX10_washable 11 = .ok (.iload_n 0, 1) := by decide +kernel
theorem dX10_washable_12 : decode cX10_washable 12 = .ok (.bipush 50, 2) := by decide +kernel
theorem dX10_washable_14 : decode cX10_washable 14 = .ok (.bipush 10, 2) := by decide +kernel
theorem dX10_washable_16 : decode cX10_washable 16 = .ok (.iload_n 2, 1) := by decide +kernel
theorem dX10_washable_17 : decode cX10_washable 17 = .ok (.imul, 1) := by decide +kernel
theorem dX10_washable_18 : decode cX10_washable 18 = .ok (.iadd, 1) := by decide +kernel
theorem dX10_washable_19 : decode cX10_washable 19 = .ok (.if_icmp .lt 9, 3) := by decide +kernel
theorem dX10_washable_22 : decode cX10_washable 22 = .ok (.iconst 1, 1) := by decide +kernel
theorem dX10_washable_23 : decode cX10_washable 23 = .ok (.iload_n 2, 1) := by decide +kernel
theorem dX10_washable_24 : decode cX10_washable 24 = .ok (.ishl, 1) := by decide +kernel
theorem dX10_washable_25 : decode cX10_washable 25 = .ok (.goto 4, 3) := by decide +kernel
theorem dX10_washable_28 : decode cX10_washable 28 = .ok (.iconst 0, 1) := by decide +kernel
theorem dX10_washable_29 : decode cX10_washable 29 = .ok (.ior, 1) := by decide +kernel
theorem dX10_washable_30 : decode cX10_washable 30 = .ok (.istore_n 1, 1) := by decide +kernel
theorem dX10_washable_31 : decode cX10_washable 31 = .ok (.iinc 2 1, 3) := by decide +kernel
theorem dX10_washable_34 : decode cX10_washable 34 = .ok (.goto (-30), 3) := by decide +kernel
theorem dX10_washable_37 : decode cX10_washable 37 = .ok (.iload_n 1, 1) := by decide +kernel
theorem dX10_washable_38 : decode cX10_washable 38 = .ok (.ireturn, 1) := by decide +kernel
theorem dX10_greatest_0 : decode cX10_greatest 0 = .ok (.iconst (-1), 1) := by decide +kernel
theorem dX10_greatest_1 : decode cX10_greatest 1 = .ok (.istore_n 2, 1) := by decide +kernel
theorem dX10_greatest_2 : decode cX10_greatest 2 = .ok (.iconst 0, 1) := by decide +kernel
theorem dX10_greatest_3 : decode cX10_greatest 3 = .ok (.istore_n 3, 1) := by decide +kernel
theorem dX10_greatest_4 : decode cX10_greatest 4 = .ok (.iload_n 3, 1) := by decide +kernel
theorem dX10_greatest_5 : decode cX10_greatest 5 = .ok (.aload_n 0, 1) := by decide +kernel
theorem dX10_greatest_6 : decode cX10_greatest 6 = .ok (.getfield 7, 3) := by decide +kernel
theorem dX10_greatest_9 : decode cX10_greatest 9 = .ok (.iconst 0, 1) := by decide +kernel
theorem dX10_greatest_10 : decode cX10_greatest 10 = .ok (.iaload, 1) := by decide +kernel
theorem dX10_greatest_11 : decode cX10_greatest 11 = .ok (.if_icmp .ge 39, 3) := by decide +kernel
theorem dX10_greatest_14 : decode cX10_greatest 14 = .ok (.aload_n 0, 1) := by decide +kernel
theorem dX10_greatest_15 : decode cX10_greatest 15 = .ok (.iload_n 3, 1) := by decide +kernel
theorem dX10_greatest_16 : decode cX10_greatest 16 = .ok (.iload_n 1, 1) := by decide +kernel
theorem dX10_greatest_17 : decode cX10_greatest 17 = .ok (.invokevirtual 65, 3) := by decide +kernel
theorem dX10_greatest_20 : decode cX10_greatest 20 = .ok (.ifCond .eq 22, 3) := by decide +kernel
theorem dX10_greatest_23 : decode cX10_greatest 23 = .ok (.aload_n 0, 1) := by decide +kernel
theorem dX10_greatest_24 : decode cX10_greatest 24 = .ok (.iload_n 3, 1) := by decide +kernel
theorem dX10_greatest_25 : decode cX10_greatest 25 = .ok (.iconst 2, 1) := by decide +kernel
theorem dX10_greatest_26 : decode cX10_greatest 26 = .ok (.invokevirtual 61, 3) := by decide +kernel
theorem dX10_greatest_29 : decode cX10_greatest 29 = .ok (.iload_n 2, 1) := by decide +kernel
theorem dX10_greatest_30 : decode cX10_greatest 30 = .ok (.if_icmp .le 12, 3) := by decide +kernel
theorem dX10_greatest_33 : decode cX10_greatest 33 = .ok (.aload_n 0, 1) := by decide +kernel
theorem dX10_greatest_34 : decode cX10_greatest 34 = .ok (.iload_n 3, 1) := by decide +kernel
theorem dX10_greatest_35 : decode cX10_greatest 35 = .ok (.iconst 2, 1) := by decide +kernel
theorem dX10_greatest_36 : decode cX10_greatest 36 = .ok (.invokevirtual 61, 3) := by decide +kernel
theorem dX10_greatest_39 : decode cX10_greatest 39 = .ok (.goto 4, 3) := by decide +kernel
theorem dX10_greatest_42 : decode cX10_greatest 42 = .ok (.iload_n 2, 1) := by decide +kernel
theorem dX10_greatest_43 : decode cX10_greatest 43 = .ok (.istore_n 2, 1) := by decide +kernel
theorem dX10_greatest_44 : decode cX10_greatest 44 = .ok (.iinc 3 1, 3) := by decide +kernel
theorem dX10_greatest_47 : decode cX10_greatest 47 = .ok (.goto (-43), 3) := by decide +kernel
theorem dX10_greatest_50 : decode cX10_greatest 50 = .ok (.iload_n 2, 1) := by decide +kernel
theorem dX10_greatest_51 : decode cX10_greatest 51 = .ok (.ireturn, 1) := by decide +kernel
theorem dX10_washed_0 : decode cX10_washed 0 = .ok (.aload_n 0, 1) := by decide +kernel
theorem dX10_washed_1 : decode cX10_washed 1 = .ok (.iload_n 1, 1) := by decide +kernel
theorem dX10_washed_2 : decode cX10_washed 2 = .ok (.iconst 3, 1) := by decide +kernel
theorem dX10_washed_3 : decode cX10_washed 3 = .ok (.invokevirtual 61, 3) := by decide +kernel
theorem dX10_washed_6 : decode cX10_washed 6 = .ok (.iload_n 2, 1) := by decide +kernel
theorem dX10_washed_7 : decode cX10_washed 7 = .ok (.invokestatic 69, 3) := by decide +kernel
theorem dX10_washed_10 : decode cX10_washed 10 = .ok (.iconst (-1), 1) := by decide +kernel
theorem dX10_washed_11 : decode cX10_washed 11 = .ok (.ixor, 1) := by decide +kernel
theorem dX10_washed_12 : decode cX10_washed 12 = .ok (.iand, 1) := by decide +kernel
theorem dX10_washed_13 : decode cX10_washed 13 = .ok (.ireturn, 1) := by decide +kernel
theorem dX10_stained_0 : decode cX10_stained 0 = .ok (.aload_n 0, 1) := by decide +kernel
theorem dX10_stained_1 : decode cX10_stained 1 = .ok (.iload_n 1, 1) := by decide +kernel
theorem dX10_stained_2 : decode cX10_stained 2 = .ok (.iload_n 3, 1) := by decide +kernel
theorem dX10_stained_3 : decode cX10_stained 3 = .ok (.invokevirtual 72, 3) := by decide +kernel
theorem dX10_stained_6 : decode cX10_stained 6 = .ok (.iload_n 3, 1) := by decide +kernel
theorem dX10_stained_7 : decode cX10_stained 7 = .ok (.bipush 120, 2) := by decide +kernel
theorem dX10_stained_9 : decode cX10_stained 9 = .ok (.if_icmp .lt 22, 3) := by decide +kernel
theorem dX10_stained_12 : decode cX10_stained 12 = .ok (.aload_n 0, 1) := by decide +kernel
theorem dX10_stained_13 : decode cX10_stained 13 = .ok (.iload_n 1, 1) := by decide +kernel
theorem dX10_stained_14 : decode cX10_stained 14 = .ok (.iconst 2, 1) := by decide +kernel
theorem dX10_stained_15 : decode cX10_stained 15 = .ok (.invokevirtual 61, 3) := by decide +kernel
theorem dX10_stained_18 : decode cX10_stained 18 = .ok (.ifCond .ne 13, 3) := by decide +kernel
theorem dX10_stained_21 : decode cX10_stained 21 = .ok (.iconst 1, 1) := by decide +kernel
theorem dX10_stained_22 : decode cX10_stained 22 = .ok (.aload_n 0, 1) := by decide +kernel
theorem dX10_stained_23 : decode cX10_stained 23 = .ok (.iload_n 2, 1) := by decide +kernel
theorem dX10_stained_24 : decode cX10_stained 24 = .ok (.invokevirtual 75, 3) := by decide +kernel
theorem dX10_stained_27 : decode cX10_stained 27 = .ok (.ishl, 1) := by decide +kernel
theorem dX10_stained_28 : decode cX10_stained 28 = .ok (.goto 4, 3) := by decide +kernel
theorem dX10_stained_31 : decode cX10_stained 31 = .ok (.iconst 0, 1) := by decide +kernel
theorem dX10_stained_32 : decode cX10_stained 32 = .ok (.ior, 1) := by decide +kernel
theorem dX10_stained_33 : decode cX10_stained 33 = .ok (.ireturn, 1) := by decide +kernel
theorem dX10_isLonely_0 : decode cX10_isLonely 0 = .ok (.iconst 0, 1) := by decide +kernel
theorem dX10_isLonely_1 : decode cX10_isLonely 1 = .ok (.istore_n 3, 1) := by decide +kernel
theorem dX10_isLonely_2 : decode cX10_isLonely 2 = .ok (.iload_n 3, 1) := by decide +kernel
theorem dX10_isLonely_3 : decode cX10_isLonely 3 = .ok (.aload_n 0, 1) := by decide +kernel
theorem dX10_isLonely_4 : decode cX10_isLonely 4 = .ok (.getfield 7, 3) := by decide +kernel
theorem dX10_isLonely_7 : decode cX10_isLonely 7 = .ok (.iconst 0, 1) := by decide +kernel
theorem dX10_isLonely_8 : decode cX10_isLonely 8 = .ok (.iaload, 1) := by decide +kernel
theorem dX10_isLonely_9 : decode cX10_isLonely 9 = .ok (.if_icmp .ge 50, 3) := by decide +kernel
theorem dX10_isLonely_12 : decode cX10_isLonely 12 = .ok (.iload_n 3, 1) := by decide +kernel
theorem dX10_isLonely_13 : decode cX10_isLonely 13 = .ok (.iload_n 1, 1) := by decide +kernel
theorem dX10_isLonely_14 : decode cX10_isLonely 14 = .ok (.if_icmp .eq 39, 3) := by decide +kernel
theorem dX10_isLonely_17 : decode cX10_isLonely 17 = .ok (.aload_n 0, 1) := by decide +kernel
theorem dX10_isLonely_18 : decode cX10_isLonely 18 = .ok (.iload_n 3, 1) := by decide +kernel
theorem dX10_isLonely_19 : decode cX10_isLonely 19 = .ok (.iload_n 2, 1) := by decide +kernel
theorem dX10_isLonely_20 : decode cX10_isLonely 20 = .ok (.invokevirtual 65, 3) := by decide +kernel
theorem dX10_isLonely_23 : decode cX10_isLonely 23 = .ok (.ifCond .eq 30, 3) := by decide +kernel
theorem dX10_isLonely_26 : decode cX10_isLonely 26 = .ok (.aload_n 0, 1) := by decide +kernel
theorem dX10_isLonely_27 : decode cX10_isLonely 27 = .ok (.iload_n 3, 1) := by decide +kernel
theorem dX10_isLonely_28 : decode cX10_isLonely 28 = .ok (.iconst 1, 1) := by decide +kernel
theorem dX10_isLonely_29 : decode cX10_isLonely 29 = .ok (.invokevirtual 61, 3) := by decide +kernel
theorem dX10_isLonely_32 : decode cX10_isLonely 32 = .ok (.iconst 1, 1) := by decide +kernel
theorem dX10_isLonely_33 : decode cX10_isLonely 33 = .ok (.if_icmp .ne 20, 3) := by decide +kernel
theorem dX10_isLonely_36 : decode cX10_isLonely 36 = .ok (.aload_n 0, 1) := by decide +kernel
theorem dX10_isLonely_37 : decode cX10_isLonely 37 = .ok (.iload_n 3, 1) := by decide +kernel
theorem dX10_isLonely_38 : decode cX10_isLonely 38 = .ok (.iconst 2, 1) := by decide +kernel
theorem dX10_isLonely_39 : decode cX10_isLonely 39 = .ok (.invokevirtual 61, 3) := by decide +kernel
theorem dX10_isLonely_42 : decode cX10_isLonely 42 = .ok (.aload_n 0, 1) := by decide +kernel
theorem dX10_isLonely_43 : decode cX10_isLonely 43 = .ok (.iload_n 1, 1) := by decide +kernel
theorem dX10_isLonely_44 : decode cX10_isLonely 44 = .ok (.iconst 2, 1) := by decide +kernel
theorem dX10_isLonely_45 : decode cX10_isLonely 45 = .ok (.invokevirtual 61, 3) := by decide +kernel
theorem dX10_isLonely_48 : decode cX10_isLonely 48 = .ok (.if_icmp .ne 5, 3) := by decide +kernel
theorem dX10_isLonely_51 : decode cX10_isLonely 51 = .ok (.iconst 0, 1) := by decide +kernel
theorem dX10_isLonely_52 : decode cX10_isLonely 52 = .ok (.ireturn, 1) := by decide +kernel
theorem dX10_isLonely_53 : decode cX10_isLonely 53 = .ok (.iinc 3 1, 3) := by decide +kernel
theorem dX10_isLonely_56 : decode cX10_isLonely 56 = .ok (.goto (-54), 3) := by decide +kernel
theorem dX10_isLonely_59 : decode cX10_isLonely 59 = .ok (.iconst 1, 1) := by decide +kernel
theorem dX10_isLonely_60 : decode cX10_isLonely 60 = .ok (.ireturn, 1) := by decide +kernel
theorem dX10_isLost_0 : decode cX10_isLost 0 = .ok (.aload_n 0, 1) := by decide +kernel
theorem dX10_isLost_1 : decode cX10_isLost 1 = .ok (.iload_n 1, 1) := by decide +kernel
theorem dX10_isLost_2 : decode cX10_isLost 2 = .ok (.iconst 1, 1) := by decide +kernel
theorem dX10_isLost_3 : decode cX10_isLost 3 = .ok (.invokevirtual 61, 3) := by decide +kernel
theorem dX10_isLost_6 : decode cX10_isLost 6 = .ok (.iconst 1, 1) := by decide +kernel
theorem dX10_isLost_7 : decode cX10_isLost 7 = .ok (.if_icmp .ne 37, 3) := by decide +kernel
theorem dX10_isLost_10 : decode cX10_isLost 10 = .ok (.aload_n 0, 1) := by decide +kernel
theorem dX10_isLost_11 : decode cX10_isLost 11 = .ok (.iload_n 2, 1) := by decide +kernel
theorem dX10_isLost_12 : decode cX10_isLost 12 = .ok (.invokevirtual 78, 3) := by decide +kernel
theorem dX10_isLost_15 : decode cX10_isLost 15 = .ok (.iconst 2, 1) := by decide +kernel
theorem dX10_isLost_16 : decode cX10_isLost 16 = .ok (.irem, 1) := by decide +kernel
theorem dX10_isLost_17 : decode cX10_isLost 17 = .ok (.iconst 1, 1) := by decide +kernel
theorem dX10_isLost_18 : decode cX10_isLost 18 = .ok (.if_icmp .ne 26, 3) := by decide +kernel
theorem dX10_isLost_21 : decode cX10_isLost 21 = .ok (.aload_n 0, 1) := by decide +kernel
theorem dX10_isLost_22 : decode cX10_isLost 22 = .ok (.iload_n 1, 1) := by decide +kernel
theorem dX10_isLost_23 : decode cX10_isLost 23 = .ok (.iload_n 2, 1) := by decide +kernel
theorem dX10_isLost_24 : decode cX10_isLost 24 = .ok (.iload_n 3, 1) := by decide +kernel
theorem dX10_isLost_25 : decode cX10_isLost 25 = .ok (.invokevirtual 81, 3) := by decide +kernel
theorem dX10_isLost_28 : decode cX10_isLost 28 = .ok (.ifCond .ne 16, 3) := by decide +kernel
theorem dX10_isLost_31 : decode cX10_isLost 31 = .ok (.aload_n 0, 1) := by decide +kernel
theorem dX10_isLost_32 : decode cX10_isLost 32 = .ok (.iload_n 1, 1) := by decide +kernel
theorem dX10_isLost_33 : decode cX10_isLost 33 = .ok (.iload_n 2, 1) := by decide +kernel
theorem dX10_isLost_34 : decode cX10_isLost 34 = .ok (.invokevirtual 85, 3) := by decide +kernel
theorem dX10_isLost_37 : decode cX10_isLost 37 = .ok (.ifCond .eq 7, 3) := by decide +kernel
theorem dX10_isLost_40 : decode cX10_isLost 40 = .ok (.iconst 1, 1) := by decide +kernel
theorem dX10_isLost_41 : decode cX10_isLost 41 = .ok (.goto 4, 3) := by decide +kernel
theorem dX10_isLost_44 : decode cX10_isLost 44 = .ok (.iconst 0, 1) := by decide +kernel
theorem dX10_isLost_45 : decode cX10_isLost 45 = .ok (.ireturn, 1) := by decide +kernel
theorem dX10_harm_0 : decode cX10_harm 0 = .ok (.iconst 0, 1) := by decide +kernel
theorem dX10_harm_1 : decode cX10_harm 1 = .ok (.istore_n 3, 1) := by decide +kernel
theorem dX10_harm_2 : decode cX10_harm 2 = .ok (.iconst 0, 1) := by decide +kernel
theorem dX10_harm_3 : decode cX10_harm 3 = .ok (.istore 4, 2) := by decide +kernel
theorem dX10_harm_5 : decode cX10_harm 5 = .ok (.iload 4, 2) := by decide +kernel
theorem dX10_harm_7 : decode cX10_harm 7 = .ok (.aload_n 0, 1) := by decide +kernel
theorem dX10_harm_8 : decode cX10_harm 8 = .ok (.getfield 7, 3) := by decide +kernel
theorem dX10_harm_11 : decode cX10_harm 11 = .ok (.iconst 0, 1) := by decide +kernel
theorem dX10_harm_12 : decode cX10_harm 12 = .ok (.iaload, 1) := by decide +kernel
theorem dX10_harm_13 : decode cX10_harm 13 = .ok (.if_icmp .ge 77, 3) := by decide +kernel
theorem dX10_harm_16 : decode cX10_harm 16 = .ok (.aload_n 0, 1) := by decide +kernel
theorem dX10_harm_17 : decode cX10_harm 17 = .ok (.iload 4, 2) := by decide +kernel
theorem dX10_harm_19 : decode cX10_harm 19 = .ok (.iload_n 1, 1) := by decide +kernel
theorem dX10_harm_20 : decode cX10_harm 20 = .ok (.invokevirtual 65, 3) := by decide +kernel
theorem dX10_harm_23 : decode cX10_harm 23 = .ok (.ifCond .ne 6, 3) := by decide +kernel
theorem dX10_harm_26 : decode cX10_harm 26 = .ok (.goto 58, 3) := by decide +kernel
theorem dX10_harm_29 : decode cX10_harm 29 = .ok (.iload_n 3, 1) := by decide +kernel
theorem dX10_harm_30 : decode cX10_harm 30 = .ok (.aload_n 0, 1) := by decide +kernel
theorem dX10_harm_31 : decode cX10_harm 31 = .ok (.iload 4, 2) := by decide +kernel
theorem dX10_harm_33 : decode cX10_harm 33 = .ok (.iload_n 2, 1) := by decide +kernel
theorem dX10_harm_34 : decode cX10_harm 34 = .ok (.invokevirtual 72, 3) := by decide +kernel
theorem dX10_harm_37 : decode cX10_harm 37 = .ok (.invokestatic 88, 3) := by decide +kernel
theorem dX10_harm_40 : decode cX10_harm 40 = .ok (.aload_n 0, 1) := by decide +kernel
theorem dX10_harm_41 : decode cX10_harm 41 = .ok (.iload 4, 2) := by decide +kernel
theorem dX10_harm_43 : decode cX10_harm 43 = .ok (.iload_n 1, 1) := by decide +kernel
theorem dX10_harm_44 : decode cX10_harm 44 = .ok (.iload_n 2, 1) := by decide +kernel
theorem dX10_harm_45 : decode cX10_harm 45 = .ok (.invokevirtual 81, 3) := by decide +kernel
theorem dX10_harm_48 : decode cX10_harm 48 = .ok (.aload_n 0, 1) := by decide +kernel
theorem dX10_harm_49 : decode cX10_harm 49 = .ok (.iload 4, 2) := by decide +kernel
theorem dX10_harm_51 : decode cX10_harm 51 = .ok (.iload_n 2, 1) := by decide +kernel
theorem dX10_harm_52 : decode cX10_harm 52 = .ok (.invokevirtual 72, 3) := by decide +kernel
theorem dX10_harm_55 : decode cX10_harm 55 = .ok (.if_icmp .ne 7, 3) := by decide +kernel
theorem dX10_harm_58 : decode cX10_harm 58 = .ok (.iconst 0, 1) := by decide +kernel
theorem dX10_harm_59 : decode cX10_harm 59 = .ok (.goto 4, 3) := by decide +kernel
theorem dX10_harm_62 : decode cX10_harm 62 = .ok (.iconst 3, 1) := by decide +kernel
theorem dX10_harm_63 : decode cX10_harm 63 = .ok (.iadd, 1) := by decide +kernel
theorem dX10_harm_64 : decode cX10_harm 64 = .ok (.aload_n 0, 1) := by decide +kernel
theorem dX10_harm_65 : decode cX10_harm 65 = .ok (.iload 4, 2) := by decide +kernel
theorem dX10_harm_67 : decode cX10_harm 67 = .ok (.iload_n 1, 1) := by decide +kernel
theorem dX10_harm_68 : decode cX10_harm 68 = .ok (.iload_n 2, 1) := by decide +kernel
theorem dX10_harm_69 : decode cX10_harm 69 = .ok (.invokevirtual 91, 3) := by decide +kernel
theorem dX10_harm_72 : decode cX10_harm 72 = .ok (.ifCond .eq 8, 3) := by decide +kernel
theorem dX10_harm_75 : decode cX10_harm 75 = .ok (.bipush 10, 2) := by decide +kernel
theorem dX10_harm_77 : decode cX10_harm 77 = .ok (.goto 4, 3) := by decide +kernel
theorem dX10_harm_80 : decode cX10_harm 80 = .ok (.iconst 0, 1) := by decide +kernel
theorem dX10_harm_81 : decode cX10_harm 81 = .ok (.iadd, 1) := by decide +kernel
theorem dX10_harm_82 : decode cX10_harm 82 = .ok (.iadd, 1) := by decide +kernel
theorem dX10_harm_83 : decode cX10_harm 83 = .ok (.istore_n 3, 1) := by decide +kernel
theorem dX10_harm_84 : decode cX10_harm 84 = .ok (.iinc 4 1, 3) := by decide +kernel
theorem dX10_harm_87 : decode cX10_harm 87 = .ok (.goto (-82), 3) := by decide +kernel
theorem dX10_harm_90 : decode cX10_harm 90 = .ok (.iload_n 3, 1) := by decide +kernel
theorem dX10_harm_91 : decode cX10_harm 91 = .ok (.ireturn, 1) := by decide +kernel
theorem dX10_warm_0 : decode cX10_warm 0 = .ok (.aload_n 0, 1) := by decide +kernel
theorem dX10_warm_1 : decode cX10_warm 1 = .ok (.getfield 7, 3) := by decide +kernel
theorem dX10_warm_4 : decode cX10_warm 4 = .ok (.iconst 2, 1) := by decide +kernel
theorem dX10_warm_5 : decode cX10_warm 5 = .ok (.iload_n 1, 1) := by decide +kernel
theorem dX10_warm_6 : decode cX10_warm 6 = .ok (.iadd, 1) := by decide +kernel
theorem dX10_warm_7 : decode cX10_warm 7 = .ok (.iaload, 1) := by decide +kernel
theorem dX10_warm_8 : decode cX10_warm 8 = .ok (.i2f, 1) := by decide +kernel
theorem dX10_warm_9 : decode cX10_warm 9 = .ok (.ldc 94, 2) := by decide +kernel
theorem dX10_warm_11 : decode cX10_warm 11 = .ok (.fmul, 1) := by decide +kernel
theorem dX10_warm_12 : decode cX10_warm 12 = .ok (.freturn, 1) := by decide +kernel
theorem dX10_cost_0 : decode cX10_cost 0 = .ok (.aload_n 0, 1) := by decide +kernel
theorem dX10_cost_1 : decode cX10_cost 1 = .ok (.iload_n 1, 1) := by decide +kernel
theorem dX10_cost_2 : decode cX10_cost 2 = .ok (.iload_n 2, 1) := by decide +kernel
theorem dX10_cost_3 : decode cX10_cost 3 = .ok (.invokevirtual 95, 3) := by decide +kernel
theorem dX10_cost_6 : decode cX10_cost 6 = .ok (.istore_n 3, 1) := by decide +kernel
theorem dX10_cost_7 : decode cX10_cost 7 = .ok (.iload_n 3, 1) := by decide +kernel
theorem dX10_cost_8 : decode cX10_cost 8 = .ok (.ifCond .ne 5, 3) := by decide +kernel
theorem dX10_cost_11 : decode cX10_cost 11 = .ok (.fconst 0, 1) := by decide +kernel
theorem dX10_cost_12 : decode cX10_cost 12 = .ok (.freturn, 1) := by decide +kernel
theorem dX10_cost_13 : decode cX10_cost 13 = .ok (.iconst 0, 1) := by decide +kernel
theorem dX10_cost_14 : decode cX10_cost 14 = .ok (.istore 4, 2) := by decide +kernel
theorem dX10_cost_16 : decode cX10_cost 16 = .ok (.iconst 0, 1) := by decide +kernel
theorem dX10_cost_17 : decode cX10_cost 17 = .ok (.istore 5, 2) := by decide +kernel
theorem dX10_cost_19 : decode cX10_cost 19 = .ok (.iload 5, 2) := by decide +kernel
theorem dX10_cost_21 : decode cX10_cost 21 = .ok (.iconst 4, 1) := by decide +kernel
theorem dX10_cost_22 : decode cX10_cost 22 = .ok (.if_icmp .ge 29, 3) := by decide +kernel
theorem dX10_cost_25 : decode cX10_cost 25 = .ok (.iload 4, 2) := by decide +kernel
theorem dX10_cost_27 : decode cX10_cost 27 = .ok (.aload_n 0, 1) := by decide +kernel
theorem dX10_cost_28 : decode cX10_cost 28 = .ok (.iload_n 1, 1) := by decide +kernel
theorem dX10_cost_29 : decode cX10_cost 29 = .ok (.iload 5, 2) := by decide +kernel
theorem dX10_cost_31 : decode cX10_cost 31 = .ok (.invokevirtual 95, 3) := by decide +kernel
theorem dX10_cost_34 : decode cX10_cost 34 = .ok (.ifCond .le 7, 3) := by decide +kernel
theorem dX10_cost_37 : decode cX10_cost 37 = .ok (.iconst 1, 1) := by decide +kernel
theorem dX10_cost_38 : decode cX10_cost 38 = .ok (.goto 4, 3) := by decide +kernel
theorem dX10_cost_41 : decode cX10_cost 41 = .ok (.iconst 0, 1) := by decide +kernel
theorem dX10_cost_42 : decode cX10_cost 42 = .ok (.iadd, 1) := by decide +kernel
theorem dX10_cost_43 : decode cX10_cost 43 = .ok (.istore 4, 2) := by decide +kernel
theorem dX10_cost_45 : decode cX10_cost 45 = .ok (.iinc 5 1, 3) := by decide +kernel
theorem dX10_cost_48 : decode cX10_cost 48 = .ok (.goto (-29), 3) := by decide +kernel
theorem dX10_cost_51 : decode cX10_cost 51 = .ok (.ldc 98, 2) := by decide +kernel
theorem dX10_cost_53 : decode cX10_cost 53 = .ok (.iload_n 3, 1) := by decide +kernel
theorem dX10_cost_54 : decode cX10_cost 54 = .ok (.i2f, 1) := by decide +kernel
theorem dX10_cost_55 : decode cX10_cost 55 = .ok (.fmul, 1) := by decide +kernel
theorem dX10_cost_56 : decode cX10_cost 56 = .ok (.aload_n 0, 1) := by decide +kernel
theorem dX10_cost_57 : decode cX10_cost 57 = .ok (.iload_n 1, 1) := by decide +kernel
theorem dX10_cost_58 : decode cX10_cost 58 = .ok (.invokevirtual 99, 3) := by decide +kernel
theorem dX10_cost_61 : decode cX10_cost 61 = .ok (.ldc 103, 2) := by decide +kernel
theorem dX10_cost_63 : decode cX10_cost 63 = .ok (.fmul, 1) := by decide +kernel
theorem dX10_cost_64 : decode cX10_cost 64 = .ok (.iload 4, 2) := by decide +kernel
theorem dX10_cost_66 : decode cX10_cost 66 = .ok (.i2f, 1) := by decide +kernel
theorem dX10_cost_67 : decode cX10_cost 67 = .ok (.fdiv, 1) := by decide +kernel
theorem dX10_cost_68 : decode cX10_cost 68 = .ok (.fadd, 1) := by decide +kernel
theorem dX10_cost_69 : decode cX10_cost 69 = .ok (.freturn, 1) := by decide +kernel
theorem dX10_sumOf_0 : decode cX10_sumOf 0 = .ok (.aload_n 0, 1) := by decide +kernel
theorem dX10_sumOf_1 : decode cX10_sumOf 1 = .ok (.getfield 7, 3) := by decide +kernel
theorem dX10_sumOf_4 : decode cX10_sumOf 4 = .ok (.bipush 100, 2) := by decide +kernel
theorem dX10_sumOf_6 : decode cX10_sumOf 6 = .ok (.iload_n 1, 1) := by decide +kernel
theorem dX10_sumOf_7 : decode cX10_sumOf 7 = .ok (.iadd, 1) := by decide +kernel
theorem dX10_sumOf_8 : decode cX10_sumOf 8 = .ok (.iaload, 1) := by decide +kernel
theorem dX10_sumOf_9 : decode cX10_sumOf 9 = .ok (.invokestatic 104, 3) := by decide +kernel
theorem dX10_sumOf_12 : decode cX10_sumOf 12 = .ok (.freturn, 1) := by decide +kernel
theorem dX10_brings_0 : decode cX10_brings 0 = .ok (.iload_n 1, 1) := by decide +kernel
theorem dX10_brings_1 : decode cX10_brings 1 = .ok (.invokestatic 109, 3) := by decide +kernel
theorem dX10_brings_4 : decode cX10_brings 4 = .ok (.ifCond .ne 5, 3) := by decide +kernel
theorem dX10_brings_7 : decode cX10_brings 7 = .ok (.iconst 1, 1) := by decide +kernel
theorem dX10_brings_8 : decode cX10_brings 8 = .ok (.ireturn, 1) := by decide +kernel
theorem dX10_brings_9 : decode cX10_brings 9 = .ok (.iload_n 3, 1) := by decide +kernel
theorem dX10_brings_10 : decode cX10_brings 10 = .ok (.iconst 0, 1) := by decide +kernel
theorem dX10_brings_11 : decode cX10_brings 11 = .ok (.bipush 7, 2) := by decide +kernel
theorem dX10_brings_13 : decode cX10_brings 13 = .ok (.invokestatic 57, 3) := by decide +kernel
theorem dX10_brings_16 : decode cX10_brings 16 = .ok (.ifCond .eq 15, 3) := by decide +kernel
theorem dX10_brings_19 : decode cX10_brings 19 = .ok (.iload 4, 2) := by decide +kernel
theorem dX10_brings_21 : decode cX10_brings 21 = .ok (.iconst 0, 1) := by decide +kernel
theorem dX10_brings_22 : decode cX10_brings 22 = .ok (.sipush 255, 3) := by decide +kernel
theorem dX10_brings_25 : decode cX10_brings 25 = .ok (.invokestatic 57, 3) := by decide +kernel
theorem dX10_brings_28 : decode cX10_brings 28 = .ok (.ifCond .ne 5, 3) := by decide +kernel
theorem dX10_brings_31 : decode cX10_brings 31 = .ok (.iconst 2, 1) := by decide +kernel
theorem dX10_brings_32 : decode cX10_brings 32 = .ok (.ireturn, 1) := by decide +kernel
theorem dX10_brings_33 : decode cX10_brings 33 = .ok (.aload_n 0, 1) := by decide +kernel
theorem dX10_brings_34 : decode cX10_brings 34 = .ok (.getfield 7, 3) := by decide +kernel
theorem dX10_brings_37 : decode cX10_brings 37 = .ok (.iconst 0, 1) := by decide +kernel
theorem dX10_brings_38 : decode cX10_brings 38 = .ok (.iaload, 1) := by decide +kernel
theorem dX10_brings_39 : decode cX10_brings 39 = .ok (.istore 5, 2) := by decide +kernel
theorem dX10_brings_41 : decode cX10_brings 41 = .ok (.iload 5, 2) := by decide +kernel
theorem dX10_brings_43 : decode cX10_brings 43 = .ok (.bipush 16, 2) := by decide +kernel
theorem dX10_brings_45 : decode cX10_brings 45 = .ok (.if_icmp .ne 5, 3) := by decide +kernel
theorem dX10_brings_48 : decode cX10_brings 48 = .ok (.iconst 3, 1) := by decide +kernel
theorem dX10_brings_49 : decode cX10_brings 49 = .ok (.ireturn, 1) := by decide +kernel
theorem dX10_brings_50 : decode cX10_brings 50 = .ok (.aload_n 0, 1) := by decide +kernel
theorem dX10_brings_51 : decode cX10_brings 51 = .ok (.iload 5, 2) := by decide +kernel
theorem dX10_brings_53 : decode cX10_brings 53 = .ok (.iconst 0, 1) := by decide +kernel
theorem dX10_brings_54 : decode cX10_brings 54 = .ok (.iload_n 1, 1) := by decide +kernel
theorem dX10_brings_55 : decode cX10_brings 55 = .ok (.invokevirtual 113, 3) := by decide +kernel
theorem dX10_brings_58 : decode cX10_brings 58 = .ok (.aload_n 0, 1) := by decide +kernel
theorem dX10_brings_59 : decode cX10_brings 59 = .ok (.iload 5, 2) := by decide +kernel
theorem dX10_brings_61 : decode cX10_brings 61 = .ok (.iconst 1, 1) := by decide +kernel
theorem dX10_brings_62 : decode cX10_brings 62 = .ok (.iload_n 2, 1) := by decide +kernel
theorem dX10_brings_63 : decode cX10_brings 63 = .ok (.invokevirtual 113, 3) := by decide +kernel
theorem dX10_brings_66 : decode cX10_brings 66 = .ok (.aload_n 0, 1) := by decide +kernel
theorem dX10_brings_67 : decode cX10_brings 67 = .ok (.iload 5, 2) := by decide +kernel
theorem dX10_brings_69 : decode cX10_brings 69 = .ok (.iconst 2, 1) := by decide +kernel
theorem dX10_brings_70 : decode cX10_brings 70 = .ok (.iload_n 3, 1) := by decide +kernel
theorem dX10_brings_71 : decode cX10_brings 71 = .ok (.invokevirtual 113, 3) := by decide +kernel
theorem dX10_brings_74 : decode cX10_brings 74 = .ok (.aload_n 0, 1) := by decide +kernel
theorem dX10_brings_75 : decode cX10_brings 75 = .ok (.iload 5, 2) := by decide +kernel
theorem dX10_brings_77 : decode cX10_brings 77 = .ok (.iconst 3, 1) := by decide +kernel
theorem dX10_brings_78 : decode cX10_brings 78 = .ok (.iload 4, 2) := by decide +kernel
theorem dX10_brings_80 : decode cX10_brings 80 = .ok (.invokevirtual 113, 3) := by decide +kernel
theorem dX10_brings_83 : decode cX10_brings 83 = .ok (.aload_n 0, 1) := by decide +kernel
theorem dX10_brings_84 : decode cX10_brings 84 = .ok (.iload 5, 2) := by decide +kernel
theorem dX10_brings_86 : decode cX10_brings 86 = .ok (.iconst 4, 1) := by decide +kernel
theorem dX10_brings_87 : decode cX10_brings 87 = .ok (.iconst 0, 1) := by decide +kernel
theorem dX10_brings_88 : decode cX10_brings 88 = .ok (.invokevirtual 113, 3) := by decide +kernel
theorem dX10_brings_91 : decode cX10_brings 91 = .ok (.aload_n 0, 1) := by decide +kernel
theorem dX10_brings_92 : decode cX10_brings 92 = .ok (.iload 5, 2) := by decide +kernel
theorem dX10_brings_94 : decode cX10_brings 94 = .ok (.iconst 5, 1) := by decide +kernel
theorem dX10_brings_95 : decode cX10_brings 95 = .ok (.iconst 0, 1) := by decide +kernel
theorem dX10_brings_96 : decode cX10_brings 96 = .ok (.invokevirtual 113, 3) := by decide +kernel
theorem dX10_brings_99 : decode cX10_brings 99 = .ok (.aload_n 0, 1) := by decide +kernel
theorem dX10_brings_100 : decode cX10_brings 100 = .ok (.getfield 7, 3) := by decide +kernel
theorem dX10_brings_103 : decode cX10_brings 103 = .ok (.iconst 0, 1) := by decide +kernel
theorem dX10_brings_104 : decode cX10_brings 104 = .ok (.iload 5, 2) := by decide +kernel
theorem dX10_brings_106 : decode cX10_brings 106 = .ok (.iconst 1, 1) := by decide +kernel
theorem dX10_brings_107 : decode cX10_brings 107 = .ok (.iadd, 1) := by decide +kernel
theorem dX10_brings_108 : decode cX10_brings 108 = .ok (.iastore, 1) := by decide +kernel
theorem dX10_brings_109 : decode cX10_brings 109 = .ok (.aload_n 0, 1) := by decide +kernel
theorem dX10_brings_110 : decode cX10_brings 110 = .ok (.iload 5, 2) := by decide +kernel
theorem dX10_brings_112 : decode cX10_brings 112 = .ok (.invokevirtual 117, 3) := by decide +kernel
theorem dX10_brings_115 : decode cX10_brings 115 = .ok (.ireturn, 1) := by decide +kernel
theorem dX10_loads_0 : decode cX10_loads 0 = .ok (.aload_n 0, 1) := by decide +kernel
theorem dX10_loads_1 : decode cX10_loads 1 = .ok (.iload_n 1, 1) := by decide +kernel
theorem dX10_loads_2 : decode cX10_loads 2 = .ok (.invokevirtual 120, 3) := by decide +kernel
theorem dX10_loads_5 : decode cX10_loads 5 = .ok (.ifCond .eq 10, 3) := by decide +kernel
theorem dX10_loads_8 : decode cX10_loads 8 = .ok (.iload_n 2, 1) := by decide +kernel
theorem dX10_loads_9 : decode cX10_loads 9 = .ok (.invokestatic 123, 3) := by decide +kernel
theorem dX10_loads_12 : decode cX10_loads 12 = .ok (.ifCond .ne 5, 3) := by decide +kernel
theorem dX10_loads_15 : decode cX10_loads 15 = .ok (.iconst 1, 1) := by decide +kernel
theorem dX10_loads_16 : decode cX10_loads 16 = .ok (.ireturn, 1) := by decide +kernel
theorem dX10_loads_17 : decode cX10_loads 17 = .ok (.aload_n 0, 1) := by decide +kernel
theorem dX10_loads_18 : decode cX10_loads 18 = .ok (.iload_n 1, 1) := by decide +kernel
theorem dX10_loads_19 : decode cX10_loads 19 = .ok (.iconst 4, 1) := by decide +kernel
theorem dX10_loads_20 : decode cX10_loads 20 = .ok (.invokevirtual 61, 3) := by decide +kernel
theorem dX10_loads_23 : decode cX10_loads 23 = .ok (.ifCond .eq 5, 3) := by decide +kernel
theorem dX10_loads_26 : decode cX10_loads 26 = .ok (.iconst 2, 1) := by decide +kernel
theorem dX10_loads_27 : decode cX10_loads 27 = .ok (.ireturn, 1) := by decide +kernel
theorem dX10_loads_28 : decode cX10_loads 28 = .ok (.aload_n 0, 1) := by decide +kernel
theorem dX10_loads_29 : decode cX10_loads 29 = .ok (.iload_n 2, 1) := by decide +kernel
theorem dX10_loads_30 : decode cX10_loads 30 = .ok (.invokevirtual 78, 3) := by decide +kernel
theorem dX10_loads_33 : decode cX10_loads 33 = .ok (.iconst 5, 1) := by decide +kernel
theorem dX10_loads_34 : decode cX10_loads 34 = .ok (.if_icmp .ne 5, 3) := by decide +kernel
theorem dX10_loads_37 : decode cX10_loads 37 = .ok (.iconst 3, 1) := by decide +kernel
theorem dX10_loads_38 : decode cX10_loads 38 = .ok (.ireturn, 1) := by decide +kernel
theorem dX10_loads_39 : decode cX10_loads 39 = .ok (.aload_n 0, 1) := by decide +kernel
theorem dX10_loads_40 : decode cX10_loads 40 = .ok (.iload_n 1, 1) := by decide +kernel
theorem dX10_loads_41 : decode cX10_loads 41 = .ok (.iconst 4, 1) := by decide +kernel
theorem dX10_loads_42 : decode cX10_loads 42 = .ok (.iload_n 2, 1) := by decide +kernel
theorem dX10_loads_43 : decode cX10_loads 43 = .ok (.iconst 1, 1) := by decide +kernel
theorem dX10_loads_44 : decode cX10_loads 44 = .ok (.iadd, 1) := by decide +kernel
theorem dX10_loads_45 : decode cX10_loads 45 = .ok (.invokevirtual 113, 3) := by decide +kernel
theorem dX10_loads_48 : decode cX10_loads 48 = .ok (.aload_n 0, 1) := by decide +kernel
theorem dX10_loads_49 : decode cX10_loads 49 = .ok (.aload_n 0, 1) := by decide +kernel
theorem dX10_loads_50 : decode cX10_loads 50 = .ok (.iload_n 2, 1) := by decide +kernel
theorem dX10_loads_51 : decode cX10_loads 51 = .ok (.invokevirtual 78, 3) := by decide +kernel
theorem dX10_loads_54 : decode cX10_loads 54 = .ok (.invokevirtual 117, 3) := by decide +kernel
theorem dX10_loads_57 : decode cX10_loads 57 = .ok (.ireturn, 1) := by decide +kernel
theorem dX10_takes_0 : decode cX10_takes 0 = .ok (.aload_n 0, 1) := by decide +kernel
theorem dX10_takes_1 : decode cX10_takes 1 = .ok (.iload_n 1, 1) := by decide +kernel
theorem dX10_takes_2 : decode cX10_takes 2 = .ok (.invokevirtual 120, 3) := by decide +kernel
theorem dX10_takes_5 : decode cX10_takes 5 = .ok (.ifCond .ne 5, 3) := by decide +kernel
theorem dX10_takes_8 : decode cX10_takes 8 = .ok (.iconst 1, 1) := by decide +kernel
theorem dX10_takes_9 : decode cX10_takes 9 = .ok (.ireturn, 1) := by decide +kernel
theorem dX10_takes_10 : decode cX10_takes 10 = .ok (.aload_n 0, 1) := by decide +kernel
theorem dX10_takes_11 : decode cX10_takes 11 = .ok (.iload_n 1, 1) := by decide +kernel
theorem dX10_takes_12 : decode cX10_takes 12 = .ok (.iconst 4, 1) := by decide +kernel
theorem dX10_takes_13 : decode cX10_takes 13 = .ok (.invokevirtual 61, 3) := by decide +kernel
theorem dX10_takes_16 : decode cX10_takes 16 = .ok (.istore_n 2, 1) := by decide +kernel
theorem dX10_takes_17 : decode cX10_takes 17 = .ok (.iload_n 2, 1) := by decide +kernel
theorem dX10_takes_18 : decode cX10_takes 18 = .ok (.ifCond .eq 8, 3) := by decide +kernel
theorem dX10_takes_21 : decode cX10_takes 21 = .ok (.iload_n 2, 1) := by decide +kernel
theorem dX10_takes_22 : decode cX10_takes 22 = .ok (.iconst 3, 1) := by decide +kernel
theorem dX10_takes_23 : decode cX10_takes 23 = .ok (.if_icmp .ne 5, 3) := by decide +kernel
theorem dX10_takes_26 : decode cX10_takes 26 = .ok (.iconst 2, 1) := by decide +kernel
theorem dX10_takes_27 : decode cX10_takes 27 = .ok (.ireturn, 1) := by decide +kernel
theorem dX10_takes_28 : decode cX10_takes 28 = .ok (.aload_n 0, 1) := by decide +kernel
theorem dX10_takes_29 : decode cX10_takes 29 = .ok (.iload_n 1, 1) := by decide +kernel
theorem dX10_takes_30 : decode cX10_takes 30 = .ok (.iconst 4, 1) := by decide +kernel
theorem dX10_takes_31 : decode cX10_takes 31 = .ok (.iconst 0, 1) := by decide +kernel
theorem dX10_takes_32 : decode cX10_takes 32 = .ok (.invokevirtual 113, 3) := by decide +kernel
theorem dX10_takes_35 : decode cX10_takes 35 = .ok (.aload_n 0, 1) := by decide +kernel
theorem dX10_takes_36 : decode cX10_takes 36 = .ok (.iload_n 2, 1) := by decide +kernel
theorem dX10_takes_37 : decode cX10_takes 37 = .ok (.iconst 1, 1) := by decide +kernel
theorem dX10_takes_38 : decode cX10_takes 38 = .ok (.isub, 1) := by decide +kernel
theorem dX10_takes_39 : decode cX10_takes 39 = .ok (.invokevirtual 117, 3) := by decide +kernel
theorem dX10_takes_42 : decode cX10_takes 42 = .ok (.ireturn, 1) := by decide +kernel
theorem dX10_heats_0 : decode cX10_heats 0 = .ok (.iload_n 1, 1) := by decide +kernel
theorem dX10_heats_1 : decode cX10_heats 1 = .ok (.invokestatic 123, 3) := by decide +kernel
theorem dX10_heats_4 : decode cX10_heats 4 = .ok (.ifCond .ne 5, 3) := by decide +kernel
theorem dX10_heats_7 : decode cX10_heats 7 = .ok (.iconst 1, 1) := by decide +kernel
theorem dX10_heats_8 : decode cX10_heats 8 = .ok (.ireturn, 1) := by decide +kernel
theorem dX10_heats_9 : decode cX10_heats 9 = .ok (.iload_n 2, 1) := by decide +kernel
theorem dX10_heats_10 : decode cX10_heats 10 = .ok (.bipush 40, 2) := by decide +kernel
theorem dX10_heats_12 : decode cX10_heats 12 = .ok (.sipush 180, 3) := by decide +kernel
theorem dX10_heats_15 : decode cX10_heats 15 = .ok (.invokestatic 57, 3) := by decide +kernel
theorem dX10_heats_18 : decode cX10_heats 18 = .ok (.ifCond .ne 5, 3) := by decide +kernel
theorem dX10_heats_21 : decode cX10_heats 21 = .ok (.iconst 2, 1) := by decide +kernel
theorem dX10_heats_22 : decode cX10_heats 22 = .ok (.ireturn, 1) := by decide +kernel
theorem dX10_heats_23 : decode cX10_heats 23 = .ok (.aload_n 0, 1) := by decide +kernel
theorem dX10_heats_24 : decode cX10_heats 24 = .ok (.getfield 7, 3) := by decide +kernel
theorem dX10_heats_27 : decode cX10_heats 27 = .ok (.iconst 2, 1) := by decide +kernel
theorem dX10_heats_28 : decode cX10_heats 28 = .ok (.iload_n 1, 1) := by decide +kernel
theorem dX10_heats_29 : decode cX10_heats 29 = .ok (.iadd, 1) := by decide +kernel
theorem dX10_heats_30 : decode cX10_heats 30 = .ok (.iaload, 1) := by decide +kernel
theorem dX10_heats_31 : decode cX10_heats 31 = .ok (.istore_n 3, 1) := by decide +kernel
theorem dX10_heats_32 : decode cX10_heats 32 = .ok (.aload_n 0, 1) := by decide +kernel
theorem dX10_heats_33 : decode cX10_heats 33 = .ok (.getfield 7, 3) := by decide +kernel
theorem dX10_heats_36 : decode cX10_heats 36 = .ok (.iconst 2, 1) := by decide +kernel
theorem dX10_heats_37 : decode cX10_heats 37 = .ok (.iload_n 1, 1) := by decide +kernel
theorem dX10_heats_38 : decode cX10_heats 38 = .ok (.iadd, 1) := by decide +kernel
theorem dX10_heats_39 : decode cX10_heats 39 = .ok (.iload_n 2, 1) := by decide +kernel
theorem dX10_heats_40 : decode cX10_heats 40 = .ok (.iastore, 1) := by decide +kernel
theorem dX10_heats_41 : decode cX10_heats 41 = .ok (.aload_n 0, 1) := by decide +kernel
theorem dX10_heats_42 : decode cX10_heats 42 = .ok (.iload_n 3, 1) := by decide +kernel
theorem dX10_heats_43 : decode cX10_heats 43 = .ok (.invokevirtual 117, 3) := by decide +kernel
theorem dX10_heats_46 : decode cX10_heats 46 = .ok (.ireturn, 1) := by decide +kernel
theorem dX10_washesAll_0 : decode cX10_washesAll 0 = .ok (.iload_n 1, 1) := by decide +kernel
theorem dX10_washesAll_1 : decode cX10_washesAll 1 = .ok (.invokestatic 123, 3) := by decide +kernel
theorem dX10_washesAll_4 : decode cX10_washesAll 4 = .ok (.ifCond .ne 5, 3) := by decide +kernel
theorem dX10_washesAll_7 : decode cX10_washesAll 7 = .ok (.iconst 1, 1) := by decide +kernel
theorem dX10_washesAll_8 : decode cX10_washesAll 8 = .ok (.ireturn, 1) := by decide +kernel
theorem dX10_washesAll_9 : decode cX10_washesAll 9 = .ok (.aload_n 0, 1) := by decide +kernel
theorem dX10_washesAll_10 : decode cX10_washesAll 10 = .ok (.iload_n 1, 1) := by decide +kernel
theorem dX10_washesAll_11 : decode cX10_washesAll 11 = .ok (.invokevirtual 78, 3) := by decide +kernel
theorem dX10_washesAll_14 : decode cX10_washesAll 14 = .ok (.ifCond .ne 5, 3) := by decide +kernel
theorem dX10_washesAll_17 : decode cX10_washesAll 17 = .ok (.iconst 2, 1) := by decide +kernel
theorem dX10_washesAll_18 : decode cX10_washesAll 18 = .ok (.ireturn, 1) := by decide +kernel
theorem dX10_washesAll_19 : decode cX10_washesAll 19 = .ok (.aload_n 0, 1) := by decide +kernel
theorem dX10_washesAll_20 : decode cX10_washesAll 20 = .ok (.getfield 7, 3) := by decide +kernel
theorem dX10_washesAll_23 : decode cX10_washesAll 23 = .ok (.iconst 2, 1) := by decide +kernel
theorem dX10_washesAll_24 : decode cX10_washesAll 24 = .ok (.iload_n 1, 1) := by decide +kernel
theorem dX10_washesAll_25 : decode cX10_washesAll 25 = .ok (.iadd, 1) := by decide +kernel
theorem dX10_washesAll_26 : decode cX10_washesAll 26 = .ok (.iaload, 1) := by decide +kernel
theorem dX10_washesAll_27 : decode cX10_washesAll 27 = .ok (.istore_n 2, 1) := by decide +kernel
theorem dX10_washesAll_28 : decode cX10_washesAll 28 = .ok (.iconst 0, 1) := by decide +kernel
theorem dX10_washesAll_29 : decode cX10_washesAll 29 = .ok (.istore_n 3, 1) := by decide +kernel
theorem dX10_washesAll_30 : decode cX10_washesAll 30 = .ok (.iconst 0, 1) := by decide +kernel
theorem dX10_washesAll_31 : decode cX10_washesAll 31 = .ok (.istore 4, 2) := by decide +kernel
theorem dX10_washesAll_33 : decode cX10_washesAll 33 = .ok (.iload 4, 2) := by decide +kernel
theorem dX10_washesAll_35 : decode cX10_washesAll 35 = .ok (.iconst 4, 1) := by decide +kernel
theorem dX10_washesAll_36 : decode cX10_washesAll 36 = .ok (.if_icmp .ge 60, 3) := by decide +kernel
theorem dX10_washesAll_39 : decode cX10_washesAll 39 = .ok (.aload_n 0, 1) := by decide +kernel
theorem dX10_washesAll_40 : decode cX10_washesAll 40 = .ok (.iload 4, 2) := by decide +kernel
theorem dX10_washesAll_42 : decode cX10_washesAll 42 = .ok (.invokevirtual 126, 3) := by decide +kernel
theorem dX10_washesAll_45 : decode cX10_washesAll 45 = .ok (.aload_n 0, 1) := by decide +kernel
theorem dX10_washesAll_46 : decode cX10_washesAll 46 = .ok (.iload_n 1, 1) := by decide +kernel
theorem dX10_washesAll_47 : decode cX10_washesAll 47 = .ok (.iload 4, 2) := by decide +kernel
theorem dX10_washesAll_49 : decode cX10_washesAll 49 = .ok (.invokevirtual 129, 3) := by decide +kernel
theorem dX10_washesAll_52 : decode cX10_washesAll 52 = .ok (.fadd, 1) := by decide +kernel
theorem dX10_washesAll_53 : decode cX10_washesAll 53 = .ok (.fstore 5, 2) := by decide +kernel
theorem dX10_washesAll_55 : decode cX10_washesAll 55 = .ok (.aload_n 0, 1) := by decide +kernel
theorem dX10_washesAll_56 : decode cX10_washesAll 56 = .ok (.getfield 31, 3) := by decide +kernel
theorem dX10_washesAll_59 : decode cX10_washesAll 59 = .ok (.iload 4, 2) := by decide +kernel
theorem dX10_washesAll_61 : decode cX10_washesAll 61 = .ok (.aload_n 0, 1) := by decide +kernel
theorem dX10_washesAll_62 : decode cX10_washesAll 62 = .ok (.iload_n 1, 1) := by decide +kernel
theorem dX10_washesAll_63 : decode cX10_washesAll 63 = .ok (.iload 4, 2) := by decide +kernel
theorem dX10_washesAll_65 : decode cX10_washesAll 65 = .ok (.invokevirtual 95, 3) := by decide +kernel
theorem dX10_washesAll_68 : decode cX10_washesAll 68 = .ok (.ifCond .le 11, 3) := by decide +kernel
theorem dX10_washesAll_71 : decode cX10_washesAll 71 = .ok (.fload 5, 2) := by decide +kernel
theorem dX10_washesAll_73 : decode cX10_washesAll 73 = .ok (.invokestatic 133, 3) := by decide +kernel
theorem dX10_washesAll_76 : decode cX10_washesAll 76 = .ok (.goto 13, 3) := by decide +kernel
theorem dX10_washesAll_79 : decode cX10_washesAll 79 = .ok (.aload_n 0, 1) := by decide +kernel
theorem dX10_washesAll_80 : decode cX10_washesAll 80 = .ok (.getfield 7, 3) := by decide +kernel
theorem dX10_washesAll_83 : decode cX10_washesAll 83 = .ok (.bipush 100, 2) := by decide +kernel
theorem dX10_washesAll_85 : decode cX10_washesAll 85 = .ok (.iload 4, 2) := by decide +kernel
theorem dX10_washesAll_87 : decode cX10_washesAll 87 = .ok (.iadd, 1) := by decide +kernel
theorem dX10_washesAll_88 : decode cX10_washesAll 88 = .ok (.iaload, 1) := by decide +kernel
theorem dX10_washesAll_89 : decode cX10_washesAll 89 = .ok (.iastore, 1) := by decide +kernel
theorem dX10_washesAll_90 : decode cX10_washesAll 90 = .ok (.iinc 4 1, 3) := by decide +kernel
theorem dX10_washesAll_93 : decode cX10_washesAll 93 = .ok (.goto (-60), 3) := by decide +kernel
theorem dX10_washesAll_96 : decode cX10_washesAll 96 = .ok (.iconst 0, 1) := by decide +kernel
theorem dX10_washesAll_97 : decode cX10_washesAll 97 = .ok (.istore 4, 2) := by decide +kernel
theorem dX10_washesAll_99 : decode cX10_washesAll 99 = .ok (.iload 4, 2) := by decide +kernel
theorem dX10_washesAll_101 : decode cX10_washesAll 101 = .ok (.iconst 4, 1) := by decide +kernel
theorem dX10_washesAll_102 : decode cX10_washesAll 102 = .ok (.if_icmp .ge 26, 3) := by decide +kernel
theorem dX10_washesAll_105 : decode cX10_washesAll 105 = .ok (.aload_n 0, 1) := by decide +kernel
theorem dX10_washesAll_106 : decode cX10_washesAll 106 = .ok (.getfield 7, 3) := by decide +kernel
theorem dX10_washesAll_109 : decode cX10_washesAll 109 = .ok (.bipush 100, 2) := by decide +kernel
theorem dX10_washesAll_111 : decode cX10_washesAll 111 = .ok (.iload 4, 2) := by decide +kernel
theorem dX10_washesAll_113 : decode cX10_washesAll 113 = .ok (.iadd, 1) := by decide +kernel
theorem dX10_washesAll_114 : decode cX10_washesAll 114 = .ok (.aload_n 0, 1) := by decide +kernel
theorem dX10_washesAll_115 : decode cX10_washesAll 115 = .ok (.getfield 31, 3) := by decide +kernel
theorem dX10_washesAll_118 : decode cX10_washesAll 118 = .ok (.iload 4, 2) := by decide +kernel
theorem dX10_washesAll_120 : decode cX10_washesAll 120 = .ok (.iaload, 1) := by decide +kernel
theorem dX10_washesAll_121 : decode cX10_washesAll 121 = .ok (.iastore, 1) := by decide +kernel
theorem dX10_washesAll_122 : decode cX10_washesAll 122 = .ok (.iinc 4 1, 3) := by decide +kernel
theorem dX10_washesAll_125 : decode cX10_washesAll 125 = .ok (.goto (-26), 3) := by decide +kernel
theorem dX10_washesAll_128 : decode cX10_washesAll 128 = .ok (.iconst 0, 1) := by decide +kernel
theorem dX10_washesAll_129 : decode cX10_washesAll 129 = .ok (.istore 4, 2) := by decide +kernel
theorem dX10_washesAll_131 : decode cX10_washesAll 131 = .ok (.iload 4, 2) := by decide +kernel
theorem dX10_washesAll_133 : decode cX10_washesAll 133 = .ok (.aload_n 0, 1) := by decide +kernel
theorem dX10_washesAll_134 : decode cX10_washesAll 134 = .ok (.getfield 7, 3) := by decide +kernel
theorem dX10_washesAll_137 : decode cX10_washesAll 137 = .ok (.iconst 0, 1) := by decide +kernel
theorem dX10_washesAll_138 : decode cX10_washesAll 138 = .ok (.iaload, 1) := by decide +kernel
theorem dX10_washesAll_139 : decode cX10_washesAll 139 = .ok (.if_icmp .ge 55, 3) := by decide +kernel
theorem dX10_washesAll_142 : decode cX10_washesAll 142 = .ok (.aload_n 0, 1) := by decide +kernel
theorem dX10_washesAll_143 : decode cX10_washesAll 143 = .ok (.getfield 31, 3) := by decide +kernel
theorem dX10_washesAll_146 : decode cX10_washesAll 146 = .ok (.iload 4, 2) := by decide +kernel
theorem dX10_washesAll_148 : decode cX10_washesAll 148 = .ok (.aload_n 0, 1) := by decide +kernel
theorem dX10_washesAll_149 : decode cX10_washesAll 149 = .ok (.iload 4, 2) := by decide +kernel
theorem dX10_washesAll_151 : decode cX10_washesAll 151 = .ok (.iload_n 1, 1) := by decide +kernel
theorem dX10_washesAll_152 : decode cX10_washesAll 152 = .ok (.invokevirtual 65, 3) := by decide +kernel
theorem dX10_washesAll_155 : decode cX10_washesAll 155 = .ok (.ifCond .ne 7, 3) := by decide +kernel
theorem dX10_washesAll_158 : decode cX10_washesAll 158 = .ok (.iconst (-1), 1) := by decide +kernel
theorem dX10_washesAll_159 : decode cX10_washesAll 159 = .ok (.goto 28, 3) := by decide +kernel
theorem dX10_washesAll_162 : decode cX10_washesAll 162 = .ok (.aload_n 0, 1) := by decide +kernel
theorem dX10_washesAll_163 : decode cX10_washesAll 163 = .ok (.iload 4, 2) := by decide +kernel
theorem dX10_washesAll_165 : decode cX10_washesAll 165 = .ok (.iload_n 1, 1) := by decide +kernel
theorem dX10_washesAll_166 : decode cX10_washesAll 166 = .ok (.iload_n 2, 1) := by decide +kernel
theorem dX10_washesAll_167 : decode cX10_washesAll 167 = .ok (.invokevirtual 91, 3) := by decide +kernel
theorem dX10_washesAll_170 : decode cX10_washesAll 170 = .ok (.ifCond .eq 9, 3) := by decide +kernel
theorem dX10_washesAll_173 : decode cX10_washesAll 173 = .ok (.sipush 256, 3) := by decide +kernel
theorem dX10_washesAll_176 : decode cX10_washesAll 176 = .ok (.goto 11, 3) := by decide +kernel
theorem dX10_washesAll_179 : decode cX10_washesAll 179 = .ok (.aload_n 0, 1) := by decide +kernel
theorem dX10_washesAll_180 : decode cX10_washesAll 180 = .ok (.iload 4, 2) := by decide +kernel
theorem dX10_washesAll_182 : decode cX10_washesAll 182 = .ok (.iload_n 1, 1) := by decide +kernel
theorem dX10_washesAll_183 : decode cX10_washesAll 183 = .ok (.iload_n 2, 1) := by decide +kernel
theorem dX10_washesAll_184 : decode cX10_washesAll 184 = .ok (.invokevirtual 81, 3) := by decide +kernel
theorem dX10_washesAll_187 : decode cX10_washesAll 187 = .ok (.iastore, 1) := by decide +kernel
theorem dX10_washesAll_188 : decode cX10_washesAll 188 = .ok (.iinc 4 1, 3) := by decide +kernel
theorem dX10_washesAll_191 : decode cX10_washesAll 191 = .ok (.goto (-60), 3) := by decide +kernel
theorem dX10_washesAll_194 : decode cX10_washesAll 194 = .ok (.iconst 0, 1) := by decide +kernel
theorem dX10_washesAll_195 : decode cX10_washesAll 195 = .ok (.istore 4, 2) := by decide +kernel
theorem dX10_washesAll_197 : decode cX10_washesAll 197 = .ok (.iload 4, 2) := by decide +kernel
theorem dX10_washesAll_199 : decode cX10_washesAll 199 = .ok (.aload_n 0, 1) := by decide +kernel
theorem dX10_washesAll_200 : decode cX10_washesAll 200 = .ok (.getfield 7, 3) := by decide +kernel
theorem dX10_washesAll_203 : decode cX10_washesAll 203 = .ok (.iconst 0, 1) := by decide +kernel
theorem dX10_washesAll_204 : decode cX10_washesAll 204 = .ok (.iaload, 1) := by decide +kernel
theorem dX10_washesAll_205 : decode cX10_washesAll 205 = .ok (.if_icmp .ge 112, 3) := by decide +kernel
theorem dX10_washesAll_208 : decode cX10_washesAll 208 = .ok (.aload_n 0, 1) := by decide +kernel
theorem dX10_washesAll_209 : decode cX10_washesAll 209 = .ok (.getfield 31, 3) := by decide +kernel
theorem dX10_washesAll_212 : decode cX10_washesAll 212 = .ok (.iload 4, 2) := by decide +kernel
theorem dX10_washesAll_214 : decode cX10_washesAll 214 = .ok (.iaload, 1) := by decide +kernel
theorem dX10_washesAll_215 : decode cX10_washesAll 215 = .ok (.iconst (-1), 1) := by decide +kernel
theorem dX10_washesAll_216 : decode cX10_washesAll 216 = .ok (.if_icmp .ne 6, 3) := by decide +kernel
theorem dX10_washesAll_219 : decode cX10_washesAll 219 = .ok (.goto 92, 3) := by decide +kernel
theorem dX10_washesAll_222 : decode cX10_washesAll 222 = .ok (.aload_n 0, 1) := by decide +kernel
theorem dX10_washesAll_223 : decode cX10_washesAll 223 = .ok (.getfield 31, 3) := by decide +kernel
theorem dX10_washesAll_226 : decode cX10_washesAll 226 = .ok (.iload 4, 2) := by decide +kernel
theorem dX10_washesAll_228 : decode cX10_washesAll 228 = .ok (.iaload, 1) := by decide +kernel
theorem dX10_washesAll_229 : decode cX10_washesAll 229 = .ok (.sipush 256, 3) := by decide +kernel
theorem dX10_washesAll_232 : decode cX10_washesAll 232 = .ok (.if_icmp .ne 7, 3) := by decide +kernel
theorem dX10_washesAll_235 : decode cX10_washesAll 235 = .ok (.iconst 1, 1) := by decide +kernel
theorem dX10_washesAll_236 : decode cX10_washesAll 236 = .ok (.goto 4, 3) := by decide +kernel
theorem dX10_washesAll_239 : decode cX10_washesAll 239 = .ok (.iconst 0, 1) := by decide +kernel
theorem dX10_washesAll_240 : decode cX10_washesAll 240 = .ok (.istore 5, 2) := by decide +kernel
theorem dX10_washesAll_242 : decode cX10_washesAll 242 = .ok (.aload_n 0, 1) := by decide +kernel
theorem dX10_washesAll_243 : decode cX10_washesAll 243 = .ok (.iload 4, 2) := by decide +kernel
theorem dX10_washesAll_245 : decode cX10_washesAll 245 = .ok (.iconst 3, 1) := by decide +kernel
theorem dX10_washesAll_246 : decode cX10_washesAll 246 = .ok (.iload 5, 2) := by decide +kernel
theorem dX10_washesAll_248 : decode cX10_washesAll 248 = .ok (.ifCond .eq 7, 3) := by decide +kernel
theorem dX10_washesAll_251 : decode cX10_washesAll 251 = .ok (.iconst 0, 1) := by decide +kernel
theorem dX10_washesAll_252 : decode cX10_washesAll 252 = .ok (.goto 10, 3) := by decide +kernel
theorem dX10_washesAll_255 : decode cX10_washesAll 255 = .ok (.aload_n 0, 1) := by decide +kernel
theorem dX10_washesAll_256 : decode cX10_washesAll 256 = .ok (.getfield 31, 3) := by decide +kernel
theorem dX10_washesAll_259 : decode cX10_washesAll 259 = .ok (.iload 4, 2) := by decide +kernel
theorem dX10_washesAll_261 : decode cX10_washesAll 261 = .ok (.iaload, 1) := by decide +kernel
theorem dX10_washesAll_262 : decode cX10_washesAll 262 = .ok (.invokevirtual 113, 3) := by decide +kernel
theorem dX10_washesAll_265 : decode cX10_washesAll 265 = .ok (.aload_n 0, 1) := by decide +kernel
theorem dX10_washesAll_266 : decode cX10_washesAll 266 = .ok (.iload 4, 2) := by decide +kernel
theorem dX10_washesAll_268 : decode cX10_washesAll 268 = .ok (.iconst 4, 1) := by decide +kernel
theorem dX10_washesAll_269 : decode cX10_washesAll 269 = .ok (.iload 5, 2) := by decide +kernel
theorem dX10_washesAll_271 : decode cX10_washesAll 271 = .ok (.ifCond .eq 7, 3) := by decide +kernel
theorem dX10_washesAll_274 : decode cX10_washesAll 274 = .ok (.iconst 3, 1) := by decide +kernel
theorem dX10_washesAll_275 : decode cX10_washesAll 275 = .ok (.goto 4, 3) := by decide +kernel
theorem dX10_washesAll_278 : decode cX10_washesAll 278 = .ok (.iconst 0, 1) := by decide +kernel
theorem dX10_washesAll_279 : decode cX10_washesAll 279 = .ok (.invokevirtual 113, 3) := by decide +kernel
theorem dX10_washesAll_282 : decode cX10_washesAll 282 = .ok (.aload_n 0, 1) := by decide +kernel
theorem dX10_washesAll_283 : decode cX10_washesAll 283 = .ok (.iload 4, 2) := by decide +kernel
theorem dX10_washesAll_285 : decode cX10_washesAll 285 = .ok (.iconst 5, 1) := by decide +kernel
theorem dX10_washesAll_286 : decode cX10_washesAll 286 = .ok (.aload_n 0, 1) := by decide +kernel
theorem dX10_washesAll_287 : decode cX10_washesAll 287 = .ok (.iload 4, 2) := by decide +kernel
theorem dX10_washesAll_289 : decode cX10_washesAll 289 = .ok (.iconst 5, 1) := by decide +kernel
theorem dX10_washesAll_290 : decode cX10_washesAll 290 = .ok (.invokevirtual 61, 3) := by decide +kernel
theorem dX10_washesAll_293 : decode cX10_washesAll 293 = .ok (.iconst 1, 1) := by decide +kernel
theorem dX10_washesAll_294 : decode cX10_washesAll 294 = .ok (.iadd, 1) := by decide +kernel
theorem dX10_washesAll_295 : decode cX10_washesAll 295 = .ok (.invokevirtual 113, 3) := by decide +kernel
theorem dX10_washesAll_298 : decode cX10_washesAll 298 = .ok (.iload_n 3, 1) := by decide +kernel
theorem dX10_washesAll_299 : decode cX10_washesAll 299 = .ok (.iload 5, 2) := by decide +kernel
theorem dX10_washesAll_301 : decode cX10_washesAll 301 = .ok (.ifCond .eq 7, 3) := by decide +kernel
theorem dX10_washesAll_304 : decode cX10_washesAll 304 = .ok (.iconst 1, 1) := by decide +kernel
theorem dX10_washesAll_305 : decode cX10_washesAll 305 = .ok (.goto 4, 3) := by decide +kernel
theorem dX10_washesAll_308 : decode cX10_washesAll 308 = .ok (.iconst 0, 1) := by decide +kernel
theorem dX10_washesAll_309 : decode cX10_washesAll 309 = .ok (.iadd, 1) := by decide +kernel
theorem dX10_washesAll_310 : decode cX10_washesAll 310 = .ok (.istore_n 3, 1) := by decide +kernel
theorem dX10_washesAll_311 : decode cX10_washesAll 311 = .ok (.iinc 4 1, 3) := by decide +kernel
theorem dX10_washesAll_314 : decode cX10_washesAll 314 = .ok (.goto (-117), 3) := by decide +kernel
theorem dX10_washesAll_317 : decode cX10_washesAll 317 = .ok (.aload_n 0, 1) := by decide +kernel
theorem dX10_washesAll_318 : decode cX10_washesAll 318 = .ok (.getfield 7, 3) := by decide +kernel
theorem dX10_washesAll_321 : decode cX10_washesAll 321 = .ok (.iconst 1, 1) := by decide +kernel
theorem dX10_washesAll_322 : decode cX10_washesAll 322 = .ok (.dup2, 1) := by decide +kernel
theorem dX10_washesAll_323 : decode cX10_washesAll 323 = .ok (.iaload, 1) := by decide +kernel
theorem dX10_washesAll_324 : decode cX10_washesAll 324 = .ok (.iconst 1, 1) := by decide +kernel
theorem dX10_washesAll_325 : decode cX10_washesAll 325 = .ok (.iadd, 1) := by decide +kernel
theorem dX10_washesAll_326 : decode cX10_washesAll 326 = .ok (.iastore, 1) := by decide +kernel
theorem dX10_washesAll_327 : decode cX10_washesAll 327 = .ok (.aload_n 0, 1) := by decide +kernel
theorem dX10_washesAll_328 : decode cX10_washesAll 328 = .ok (.iload_n 3, 1) := by decide +kernel
theorem dX10_washesAll_329 : decode cX10_washesAll 329 = .ok (.invokevirtual 117, 3) := by decide +kernel
theorem dX10_washesAll_332 : decode cX10_washesAll 332 = .ok (.ireturn, 1) := by decide +kernel
theorem dX10_bring_0 : decode cX10_bring 0 = .ok (.aload_n 0, 1) := by decide +kernel
theorem dX10_bring_1 : decode cX10_bring 1 = .ok (.invokevirtual 137, 3) := by decide +kernel
theorem dX10_bring_4 : decode cX10_bring 4 = .ok (.aload_n 0, 1) := by decide +kernel
theorem dX10_bring_5 : decode cX10_bring 5 = .ok (.aload_n 0, 1) := by decide +kernel
theorem dX10_bring_6 : decode cX10_bring 6 = .ok (.iload_n 1, 1) := by decide +kernel
theorem dX10_bring_7 : decode cX10_bring 7 = .ok (.iload_n 2, 1) := by decide +kernel
theorem dX10_bring_8 : decode cX10_bring 8 = .ok (.ifCond .eq 7, 3) := by decide +kernel
theorem dX10_bring_11 : decode cX10_bring 11 = .ok (.iconst 1, 1) := by decide +kernel
theorem dX10_bring_12 : decode cX10_bring 12 = .ok (.goto 4, 3) := by decide +kernel
theorem dX10_bring_15 : decode cX10_bring 15 = .ok (.iconst 0, 1) := by decide +kernel
theorem dX10_bring_16 : decode cX10_bring 16 = .ok (.iload_n 3, 1) := by decide +kernel
theorem dX10_bring_17 : decode cX10_bring 17 = .ok (.iload 4, 2) := by decide +kernel
theorem dX10_bring_19 : decode cX10_bring 19 = .ok (.invokevirtual 140, 3) := by decide +kernel
theorem dX10_bring_22 : decode cX10_bring 22 = .ok (.invokevirtual 144, 3) := by decide +kernel
theorem dX10_bring_25 : decode cX10_bring 25 = .ok (.ireturn, 1) := by decide +kernel
theorem dX10_load_0 : decode cX10_load 0 = .ok (.aload_n 0, 1) := by decide +kernel
theorem dX10_load_1 : decode cX10_load 1 = .ok (.invokevirtual 137, 3) := by decide +kernel
theorem dX10_load_4 : decode cX10_load 4 = .ok (.aload_n 0, 1) := by decide +kernel
theorem dX10_load_5 : decode cX10_load 5 = .ok (.aload_n 0, 1) := by decide +kernel
theorem dX10_load_6 : decode cX10_load 6 = .ok (.iload_n 1, 1) := by decide +kernel
theorem dX10_load_7 : decode cX10_load 7 = .ok (.iload_n 2, 1) := by decide +kernel
theorem dX10_load_8 : decode cX10_load 8 = .ok (.invokevirtual 147, 3) := by decide +kernel
theorem dX10_load_11 : decode cX10_load 11 = .ok (.invokevirtual 144, 3) := by decide +kernel
theorem dX10_load_14 : decode cX10_load 14 = .ok (.ireturn, 1) := by decide +kernel
theorem dX10_takeOut_0 : decode cX10_takeOut 0 = .ok (.aload_n 0, 1) := by decide +kernel
theorem dX10_takeOut_1 : decode cX10_takeOut 1 = .ok (.invokevirtual 137, 3) := by decide +kernel
theorem dX10_takeOut_4 : decode cX10_takeOut 4 = .ok (.aload_n 0, 1) := by decide +kernel
theorem dX10_takeOut_5 : decode cX10_takeOut 5 = .ok (.aload_n 0, 1) := by decide +kernel
theorem dX10_takeOut_6 : decode cX10_takeOut 6 = .ok (.iload_n 1, 1) := by decide +kernel
theorem dX10_takeOut_7 : decode cX10_takeOut 7 = .ok (.invokevirtual 150, 3) := by decide +kernel
theorem dX10_takeOut_10 : decode cX10_takeOut 10 = .ok (.invokevirtual 144, 3) := by decide +kernel
theorem dX10_takeOut_13 : decode cX10_takeOut 13 = .ok (.ireturn, 1) := by decide +kernel
theorem dX10_setTemperature_0 : decode cX10_setTemperature 0 = .ok (.aload_n 0, 1) := by decide +kernel
theorem dX10_setTemperature_1 : decode cX10_setTemperature 1 = .ok (.invokevirtual 137, 3) := by decide +kernel
theorem dX10_setTemperature_4 : decode cX10_setTemperature 4 = .ok (.aload_n 0, 1) := by decide +kernel
theorem dX10_setTemperature_5 : decode cX10_setTemperature 5 = .ok (.aload_n 0, 1) := by decide +kernel
theorem dX10_setTemperature_6 : decode cX10_setTemperature 6 = .ok (.iload_n 1, 1) := by decide +kernel
theorem dX10_setTemperature_7 : decode cX10_setTemperature 7 = .ok (.iload_n 2, 1) := by decide +kernel
theorem dX10_setTemperature_8 : decode cX10_setTemperature 8 = .ok (.invokevirtual 153, 3) := by decide +kernel
theorem dX10_setTemperature_11 : decode cX10_setTemperature 11 = .ok (.invokevirtual 144, 3) := by decide +kernel
theorem dX10_setTemperature_14 : decode cX10_setTemperature 14 = .ok (.istore_n 3, 1) := by decide +kernel
theorem dX10_setTemperature_15 : decode cX10_setTemperature 15 = .ok (.iload_n 3, 1) := by decide +kernel
theorem dX10_setTemperature_16 : decode cX10_setTemperature 16 = .ok (.i2f, 1) := by decide +kernel
theorem dX10_setTemperature_17 : decode cX10_setTemperature 17 = .ok (.ldc 94, 2) := by decide +kernel
theorem dX10_setTemperature_19 : decode cX10_setTemperature 19 = .ok (.fmul, 1) := by decide +kernel
theorem dX10_setTemperature_20 : decode cX10_setTemperature 20 = .ok (.freturn, 1) := by decide +kernel
theorem dX10_run_0 : decode cX10_run 0 = .ok (.aload_n 0, 1) := by decide +kernel
theorem dX10_run_1 : decode cX10_run 1 = .ok (.invokevirtual 137, 3) := by decide +kernel
theorem dX10_run_4 : decode cX10_run 4 = .ok (.aload_n 0, 1) := by decide +kernel
theorem dX10_run_5 : decode cX10_run 5 = .ok (.aload_n 0, 1) := by decide +kernel
theorem dX10_run_6 : decode cX10_run 6 = .ok (.iload_n 1, 1) := by decide +kernel
theorem dX10_run_7 : decode cX10_run 7 = .ok (.invokevirtual 156, 3) := by decide +kernel
theorem dX10_run_10 : decode cX10_run 10 = .ok (.invokevirtual 144, 3) := by decide +kernel
theorem dX10_run_13 : decode cX10_run 13 = .ok (.ireturn, 1) := by decide +kernel
theorem dX10_garmentCount_0 : decode cX10_garmentCount 0 = .ok (.aload_n 0, 1) := by decide +kernel
theorem dX10_garmentCount_1 : decode cX10_garmentCount 1 = .ok (.iconst 0, 1) := by decide +kernel
theorem dX10_garmentCount_2 : decode cX10_garmentCount 2 = .ok (.putfield 41, 3) := by decide +kernel
theorem dX10_garmentCount_5 : decode cX10_garmentCount 5 = .ok (.aload_n 0, 1) := by decide +kernel
theorem dX10_garmentCount_6 : decode cX10_garmentCount 6 = .ok (.getfield 7, 3) := by decide +kernel
theorem dX10_garmentCount_9 : decode cX10_garmentCount 9 = .ok (.iconst 0, 1) := by decide +kernel
theorem dX10_garmentCount_10 : decode cX10_garmentCount 10 = .ok (.iaload, 1) := by decide +kernel
theorem dX10_garmentCount_11 : decode cX10_garmentCount 11 = .ok (.ireturn, 1) := by decide +kernel
theorem dX10_asked_0 : decode cX10_asked 0 = .ok (.aload_n 0, 1) := by decide +kernel
theorem dX10_asked_1 : decode cX10_asked 1 = .ok (.aload_n 0, 1) := by decide +kernel
theorem dX10_asked_2 : decode cX10_asked 2 = .ok (.iload_n 1, 1) := by decide +kernel
theorem dX10_asked_3 : decode cX10_asked 3 = .ok (.invokevirtual 120, 3) := by decide +kernel
theorem dX10_asked_6 : decode cX10_asked 6 = .ok (.ifCond .eq 7, 3) := by decide +kernel
theorem dX10_asked_9 : decode cX10_asked 9 = .ok (.iconst 0, 1) := by decide +kernel
theorem dX10_asked_10 : decode cX10_asked 10 = .ok (.goto 4, 3) := by decide +kernel
theorem dX10_asked_13 : decode cX10_asked 13 = .ok (.iconst 1, 1) := by decide +kernel
theorem dX10_asked_14 : decode cX10_asked 14 = .ok (.putfield 41, 3) := by decide +kernel
theorem dX10_asked_17 : decode cX10_asked 17 = .ok (.aload_n 0, 1) := by decide +kernel
theorem dX10_asked_18 : decode cX10_asked 18 = .ok (.getfield 41, 3) := by decide +kernel
theorem dX10_asked_21 : decode cX10_asked 21 = .ok (.ifCond .le 7, 3) := by decide +kernel
theorem dX10_asked_24 : decode cX10_asked 24 = .ok (.iconst 0, 1) := by decide +kernel
theorem dX10_asked_25 : decode cX10_asked 25 = .ok (.goto 9, 3) := by decide +kernel
theorem dX10_asked_28 : decode cX10_asked 28 = .ok (.aload_n 0, 1) := by decide +kernel
theorem dX10_asked_29 : decode cX10_asked 29 = .ok (.iload_n 1, 1) := by decide +kernel
theorem dX10_asked_30 : decode cX10_asked 30 = .ok (.iload_n 2, 1) := by decide +kernel
theorem dX10_asked_31 : decode cX10_asked 31 = .ok (.invokevirtual 61, 3) := by decide +kernel
theorem dX10_asked_34 : decode cX10_asked 34 = .ok (.ireturn, 1) := by decide +kernel
theorem dX10_client_0 : decode cX10_client 0 = .ok (.aload_n 0, 1) := by decide +kernel
theorem dX10_client_1 : decode cX10_client 1 = .ok (.iload_n 1, 1) := by decide +kernel
theorem dX10_client_2 : decode cX10_client 2 = .ok (.iconst 0, 1) := by decide +kernel
theorem dX10_client_3 : decode cX10_client 3 = .ok (.invokevirtual 159, 3) := by decide +kernel
theorem dX10_client_6 : decode cX10_client 6 = .ok (.ireturn, 1) := by decide +kernel
