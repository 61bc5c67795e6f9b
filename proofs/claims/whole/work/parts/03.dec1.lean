theorem d_Cm_clear_0 : decode m_Cm_clear.2.1 0 = .ok (.aload_n 0, 1) := by decide +kernel
theorem d_Cm_clear_1 : decode m_Cm_clear.2.1 1 = .ok (.iconst 0, 1) := by decide +kernel
theorem d_Cm_clear_2 : decode m_Cm_clear.2.1 2 = .ok (.putfield 13, 3) := by decide +kernel
theorem d_Cm_clear_5 : decode m_Cm_clear.2.1 5 = .ok (.return_, 1) := by decide +kernel
theorem d_Cm_init_0 : decode m_Cm_init.2.1 0 = .ok (.aload_n 0, 1) := by decide +kernel
theorem d_Cm_init_1 : decode m_Cm_init.2.1 1 = .ok (.invokespecial 1, 3) := by decide +kernel
theorem d_Cm_init_4 : decode m_Cm_init.2.1 4 = .ok (.aload_n 0, 1) := by decide +kernel
theorem d_Cm_init_5 : decode m_Cm_init.2.1 5 = .ok (.bipush 11, 2) := by decide +kernel
theorem d_Cm_init_7 : decode m_Cm_init.2.1 7 = .ok (.newarray .int, 2) := by decide +kernel
theorem d_Cm_init_9 : decode m_Cm_init.2.1 9 = .ok (.putfield 9, 3) := by decide +kernel
theorem d_Cm_init_12 : decode m_Cm_init.2.1 12 = .ok (.return_, 1) := by decide +kernel
theorem d_Cm_isEmpty_0 : decode m_Cm_isEmpty.2.1 0 = .ok (.aload_n 0, 1) := by decide +kernel
theorem d_Cm_isEmpty_1 : decode m_Cm_isEmpty.2.1 1 = .ok (.getfield 13, 3) := by decide +kernel
theorem d_Cm_isEmpty_4 : decode m_Cm_isEmpty.2.1 4 = .ok (.ifCond .ne 7, 3) := by decide +kernel
theorem d_Cm_isEmpty_7 : decode m_Cm_isEmpty.2.1 7 = .ok (.iconst 1, 1) := by decide +kernel
theorem d_Cm_isEmpty_8 : decode m_Cm_isEmpty.2.1 8 = .ok (.goto 4, 3) := by decide +kernel
theorem d_Cm_isEmpty_11 : decode m_Cm_isEmpty.2.1 11 = .ok (.iconst 0, 1) := by decide +kernel
theorem d_Cm_isEmpty_12 : decode m_Cm_isEmpty.2.1 12 = .ok (.ireturn, 1) := by decide +kernel
theorem d_Cm_load_0 : decode m_Cm_load.2.1 0 = .ok (.aload_n 0, 1) := by decide +kernel
theorem d_Cm_load_1 : decode m_Cm_load.2.1 1 = .ok (.iconst 0, 1) := by decide +kernel
theorem d_Cm_load_2 : decode m_Cm_load.2.1 2 = .ok (.putfield 13, 3) := by decide +kernel
theorem d_Cm_load_5 : decode m_Cm_load.2.1 5 = .ok (.iload_n 2, 1) := by decide +kernel
theorem d_Cm_load_6 : decode m_Cm_load.2.1 6 = .ok (.istore 4, 2) := by decide +kernel
theorem d_Cm_load_8 : decode m_Cm_load.2.1 8 = .ok (.iload 4, 2) := by decide +kernel
theorem d_Cm_load_10 : decode m_Cm_load.2.1 10 = .ok (.ifCond .lt 54, 3) := by decide +kernel
theorem d_Cm_load_13 : decode m_Cm_load.2.1 13 = .ok (.iload 4, 2) := by decide +kernel
theorem d_Cm_load_15 : decode m_Cm_load.2.1 15 = .ok (.iload_n 3, 1) := by decide +kernel
theorem d_Cm_load_16 : decode m_Cm_load.2.1 16 = .ok (.if_icmp .ge 48, 3) := by decide +kernel
theorem d_Cm_load_19 : decode m_Cm_load.2.1 19 = .ok (.iload 4, 2) := by decide +kernel
theorem d_Cm_load_21 : decode m_Cm_load.2.1 21 = .ok (.aload_n 1, 1) := by decide +kernel
theorem d_Cm_load_22 : decode m_Cm_load.2.1 22 = .ok (.arraylength, 1) := by decide +kernel
theorem d_Cm_load_23 : decode m_Cm_load.2.1 23 = .ok (.if_icmp .ge 41, 3) := by decide +kernel
theorem d_Cm_load_26 : decode m_Cm_load.2.1 26 = .ok (.aload_n 0, 1) := by decide +kernel
theorem d_Cm_load_27 : decode m_Cm_load.2.1 27 = .ok (.getfield 13, 3) := by decide +kernel
theorem d_Cm_load_30 : decode m_Cm_load.2.1 30 = .ok (.bipush 11, 2) := by decide +kernel
theorem d_Cm_load_32 : decode m_Cm_load.2.1 32 = .ok (.if_icmp .ge 32, 3) := by decide +kernel
theorem d_Cm_load_35 : decode m_Cm_load.2.1 35 = .ok (.aload_n 0, 1) := by decide +kernel
theorem d_Cm_load_36 : decode m_Cm_load.2.1 36 = .ok (.getfield 9, 3) := by decide +kernel
theorem d_Cm_load_39 : decode m_Cm_load.2.1 39 = .ok (.aload_n 0, 1) := by decide +kernel
theorem d_Cm_load_40 : decode m_Cm_load.2.1 40 = .ok (.getfield 13, 3) := by decide +kernel
theorem d_Cm_load_43 : decode m_Cm_load.2.1 43 = .ok (.aload_n 1, 1) := by decide +kernel
theorem d_Cm_load_44 : decode m_Cm_load.2.1 44 = .ok (.iload 4, 2) := by decide +kernel
theorem d_Cm_load_46 : decode m_Cm_load.2.1 46 = .ok (.iaload, 1) := by decide +kernel
theorem d_Cm_load_47 : decode m_Cm_load.2.1 47 = .ok (.iastore, 1) := by decide +kernel
theorem d_Cm_load_48 : decode m_Cm_load.2.1 48 = .ok (.aload_n 0, 1) := by decide +kernel
theorem d_Cm_load_49 : decode m_Cm_load.2.1 49 = .ok (.dup, 1) := by decide +kernel
theorem d_Cm_load_50 : decode m_Cm_load.2.1 50 = .ok (.getfield 13, 3) := by decide +kernel
theorem d_Cm_load_53 : decode m_Cm_load.2.1 53 = .ok (.iconst 1, 1) := by decide +kernel
theorem d_Cm_load_54 : decode m_Cm_load.2.1 54 = .ok (.iadd, 1) := by decide +kernel
theorem d_Cm_load_55 : decode m_Cm_load.2.1 55 = .ok (.putfield 13, 3) := by decide +kernel
theorem d_Cm_load_58 : decode m_Cm_load.2.1 58 = .ok (.iinc 4 1, 3) := by decide +kernel
theorem d_Cm_load_61 : decode m_Cm_load.2.1 61 = .ok (.goto (-53), 3) := by decide +kernel
theorem d_Cm_load_64 : decode m_Cm_load.2.1 64 = .ok (.return_, 1) := by decide +kernel
theorem d_Cm_part_0 : decode m_Cm_part.2.1 0 = .ok (.iload_n 1, 1) := by decide +kernel
theorem d_Cm_part_1 : decode m_Cm_part.2.1 1 = .ok (.ifCond .lt 20, 3) := by decide +kernel
theorem d_Cm_part_4 : decode m_Cm_part.2.1 4 = .ok (.iload_n 1, 1) := by decide +kernel
theorem d_Cm_part_5 : decode m_Cm_part.2.1 5 = .ok (.aload_n 0, 1) := by decide +kernel
theorem d_Cm_part_6 : decode m_Cm_part.2.1 6 = .ok (.getfield 13, 3) := by decide +kernel
theorem d_Cm_part_9 : decode m_Cm_part.2.1 9 = .ok (.if_icmp .ge 12, 3) := by decide +kernel
theorem d_Cm_part_12 : decode m_Cm_part.2.1 12 = .ok (.aload_n 0, 1) := by decide +kernel
theorem d_Cm_part_13 : decode m_Cm_part.2.1 13 = .ok (.getfield 9, 3) := by decide +kernel
theorem d_Cm_part_16 : decode m_Cm_part.2.1 16 = .ok (.iload_n 1, 1) := by decide +kernel
theorem d_Cm_part_17 : decode m_Cm_part.2.1 17 = .ok (.iaload, 1) := by decide +kernel
theorem d_Cm_part_18 : decode m_Cm_part.2.1 18 = .ok (.goto 4, 3) := by decide +kernel
theorem d_Cm_part_21 : decode m_Cm_part.2.1 21 = .ok (.iconst 0, 1) := by decide +kernel
theorem d_Cm_part_22 : decode m_Cm_part.2.1 22 = .ok (.ireturn, 1) := by decide +kernel
theorem d_Cm_service_0 : decode m_Cm_service.2.1 0 = .ok (.aload_n 0, 1) := by decide +kernel
theorem d_Cm_service_1 : decode m_Cm_service.2.1 1 = .ok (.iconst 0, 1) := by decide +kernel
theorem d_Cm_service_2 : decode m_Cm_service.2.1 2 = .ok (.invokevirtual 17, 3) := by decide +kernel
theorem d_Cm_service_5 : decode m_Cm_service.2.1 5 = .ok (.ireturn, 1) := by decide +kernel
theorem d_D_action_0 : decode m_D_action.2.1 0 = .ok (.iload_n 1, 1) := by decide +kernel
theorem d_D_action_1 : decode m_D_action.2.1 1 = .ok (.invokestatic 143, 3) := by decide +kernel
theorem d_D_action_4 : decode m_D_action.2.1 4 = .ok (.ifCond .eq 15, 3) := by decide +kernel
theorem d_D_action_7 : decode m_D_action.2.1 7 = .ok (.aload_n 0, 1) := by decide +kernel
theorem d_D_action_8 : decode m_D_action.2.1 8 = .ok (.getfield 48, 3) := by decide +kernel
theorem d_D_action_11 : decode m_D_action.2.1 11 = .ok (.iload_n 1, 1) := by decide +kernel
theorem d_D_action_12 : decode m_D_action.2.1 12 = .ok (.aaload, 1) := by decide +kernel
theorem d_D_action_13 : decode m_D_action.2.1 13 = .ok (.invokevirtual 134, 3) := by decide +kernel
theorem d_D_action_16 : decode m_D_action.2.1 16 = .ok (.goto 6, 3) := by decide +kernel
theorem d_D_action_19 : decode m_D_action.2.1 19 = .ok (.sipush (-1000), 3) := by decide +kernel
theorem d_D_action_22 : decode m_D_action.2.1 22 = .ok (.ireturn, 1) := by decide +kernel
theorem d_D_argumentsInRange_0 : decode m_D_argumentsInRange.2.1 0 = .ok (.aload_n 0, 1) := by decide +kernel
theorem d_D_argumentsInRange_1 : decode m_D_argumentsInRange.2.1 1 = .ok (.iload_n 1, 1) := by decide +kernel
theorem d_D_argumentsInRange_2 : decode m_D_argumentsInRange.2.1 2 = .ok (.iconst 1, 1) := by decide +kernel
theorem d_D_argumentsInRange_3 : decode m_D_argumentsInRange.2.1 3 = .ok (.iadd, 1) := by decide +kernel
theorem d_D_argumentsInRange_4 : decode m_D_argumentsInRange.2.1 4 = .ok (.invokevirtual 190, 3) := by decide +kernel
theorem d_D_argumentsInRange_7 : decode m_D_argumentsInRange.2.1 7 = .ok (.istore_n 2, 1) := by decide +kernel
theorem d_D_argumentsInRange_8 : decode m_D_argumentsInRange.2.1 8 = .ok (.aload_n 0, 1) := by decide +kernel
theorem d_D_argumentsInRange_9 : decode m_D_argumentsInRange.2.1 9 = .ok (.iload_n 1, 1) := by decide +kernel
theorem d_D_argumentsInRange_10 : decode m_D_argumentsInRange.2.1 10 = .ok (.invokevirtual 190, 3) := by decide +kernel
theorem d_D_argumentsInRange_13 : decode m_D_argumentsInRange.2.1 13 = .ok (.tableswitch 108 2 11 #[55, 108, 60, 108, 71, 77, 82, 87, 92, 97], 55) := by decide +kernel
theorem d_D_argumentsInRange_68 : decode m_D_argumentsInRange.2.1 68 = .ok (.iload_n 2, 1) := by decide +kernel
theorem d_D_argumentsInRange_69 : decode m_D_argumentsInRange.2.1 69 = .ok (.invokestatic 122, 3) := by decide +kernel
theorem d_D_argumentsInRange_72 : decode m_D_argumentsInRange.2.1 72 = .ok (.ireturn, 1) := by decide +kernel
theorem d_D_argumentsInRange_73 : decode m_D_argumentsInRange.2.1 73 = .ok (.iload_n 2, 1) := by decide +kernel
theorem d_D_argumentsInRange_74 : decode m_D_argumentsInRange.2.1 74 = .ok (.iconst 3, 1) := by decide +kernel
theorem d_D_argumentsInRange_75 : decode m_D_argumentsInRange.2.1 75 = .ok (.if_icmp .ge 7, 3) := by decide +kernel
theorem d_D_argumentsInRange_78 : decode m_D_argumentsInRange.2.1 78 = .ok (.iconst 1, 1) := by decide +kernel
theorem d_D_argumentsInRange_79 : decode m_D_argumentsInRange.2.1 79 = .ok (.goto 4, 3) := by decide +kernel
theorem d_D_argumentsInRange_82 : decode m_D_argumentsInRange.2.1 82 = .ok (.iconst 0, 1) := by decide +kernel
theorem d_D_argumentsInRange_83 : decode m_D_argumentsInRange.2.1 83 = .ok (.ireturn, 1) := by decide +kernel
theorem d_D_argumentsInRange_84 : decode m_D_argumentsInRange.2.1 84 = .ok (.aload_n 0, 1) := by decide +kernel
theorem d_D_argumentsInRange_85 : decode m_D_argumentsInRange.2.1 85 = .ok (.iload_n 1, 1) := by decide +kernel
theorem d_D_argumentsInRange_86 : decode m_D_argumentsInRange.2.1 86 = .ok (.invokestatic 207, 3) := by decide +kernel
theorem d_D_argumentsInRange_89 : decode m_D_argumentsInRange.2.1 89 = .ok (.ireturn, 1) := by decide +kernel
theorem d_D_argumentsInRange_90 : decode m_D_argumentsInRange.2.1 90 = .ok (.iload_n 2, 1) := by decide +kernel
theorem d_D_argumentsInRange_91 : decode m_D_argumentsInRange.2.1 91 = .ok (.invokestatic 137, 3) := by decide +kernel
theorem d_D_argumentsInRange_94 : decode m_D_argumentsInRange.2.1 94 = .ok (.ireturn, 1) := by decide +kernel
theorem d_D_argumentsInRange_95 : decode m_D_argumentsInRange.2.1 95 = .ok (.iload_n 2, 1) := by decide +kernel
theorem d_D_argumentsInRange_96 : decode m_D_argumentsInRange.2.1 96 = .ok (.invokestatic 143, 3) := by decide +kernel
theorem d_D_argumentsInRange_99 : decode m_D_argumentsInRange.2.1 99 = .ok (.ireturn, 1) := by decide +kernel
theorem d_D_argumentsInRange_100 : decode m_D_argumentsInRange.2.1 100 = .ok (.iload_n 2, 1) := by decide +kernel
theorem d_D_argumentsInRange_101 : decode m_D_argumentsInRange.2.1 101 = .ok (.invokestatic 143, 3) := by decide +kernel
theorem d_D_argumentsInRange_104 : decode m_D_argumentsInRange.2.1 104 = .ok (.ireturn, 1) := by decide +kernel
theorem d_D_argumentsInRange_105 : decode m_D_argumentsInRange.2.1 105 = .ok (.iload_n 2, 1) := by decide +kernel
theorem d_D_argumentsInRange_106 : decode m_D_argumentsInRange.2.1 106 = .ok (.invokestatic 210, 3) := by decide +kernel
theorem d_D_argumentsInRange_109 : decode m_D_argumentsInRange.2.1 109 = .ok (.ireturn, 1) := by decide +kernel
theorem d_D_argumentsInRange_110 : decode m_D_argumentsInRange.2.1 110 = .ok (.iload_n 2, 1) := by decide +kernel
theorem d_D_argumentsInRange_111 : decode m_D_argumentsInRange.2.1 111 = .ok (.iconst 2, 1) := by decide +kernel
theorem d_D_argumentsInRange_112 : decode m_D_argumentsInRange.2.1 112 = .ok (.if_icmp .ge 7, 3) := by decide +kernel
theorem d_D_argumentsInRange_115 : decode m_D_argumentsInRange.2.1 115 = .ok (.iconst 1, 1) := by decide +kernel
theorem d_D_argumentsInRange_116 : decode m_D_argumentsInRange.2.1 116 = .ok (.goto 4, 3) := by decide +kernel
theorem d_D_argumentsInRange_119 : decode m_D_argumentsInRange.2.1 119 = .ok (.iconst 0, 1) := by decide +kernel
theorem d_D_argumentsInRange_120 : decode m_D_argumentsInRange.2.1 120 = .ok (.ireturn, 1) := by decide +kernel
theorem d_D_argumentsInRange_121 : decode m_D_argumentsInRange.2.1 121 = .ok (.iconst 1, 1) := by decide +kernel
theorem d_D_argumentsInRange_122 : decode m_D_argumentsInRange.2.1 122 = .ok (.ireturn, 1) := by decide +kernel
theorem d_D_brokenCode_0 : decode m_D_brokenCode.2.1 0 = .ok (.iconst 0, 1) := by decide +kernel
theorem d_D_brokenCode_1 : decode m_D_brokenCode.2.1 1 = .ok (.istore_n 1, 1) := by decide +kernel
theorem d_D_brokenCode_2 : decode m_D_brokenCode.2.1 2 = .ok (.iconst 0, 1) := by decide +kernel
theorem d_D_brokenCode_3 : decode m_D_brokenCode.2.1 3 = .ok (.istore_n 2, 1) := by decide +kernel
theorem d_D_brokenCode_4 : decode m_D_brokenCode.2.1 4 = .ok (.iload_n 2, 1) := by decide +kernel
theorem d_D_brokenCode_5 : decode m_D_brokenCode.2.1 5 = .ok (.iconst 3, 1) := by decide +kernel
theorem d_D_brokenCode_6 : decode m_D_brokenCode.2.1 6 = .ok (.if_icmp .ge 43, 3) := by decide +kernel
theorem d_D_brokenCode_9 : decode m_D_brokenCode.2.1 9 = .ok (.aload_n 0, 1) := by decide +kernel
theorem d_D_brokenCode_10 : decode m_D_brokenCode.2.1 10 = .ok (.iload_n 1, 1) := by decide +kernel
theorem d_D_brokenCode_11 : decode m_D_brokenCode.2.1 11 = .ok (.invokestatic 186, 3) := by decide +kernel
theorem d_D_brokenCode_14 : decode m_D_brokenCode.2.1 14 = .ok (.istore_n 3, 1) := by decide +kernel
theorem d_D_brokenCode_15 : decode m_D_brokenCode.2.1 15 = .ok (.iload_n 3, 1) := by decide +kernel
theorem d_D_brokenCode_16 : decode m_D_brokenCode.2.1 16 = .ok (.ifCond .ne 14, 3) := by decide +kernel
theorem d_D_brokenCode_19 : decode m_D_brokenCode.2.1 19 = .ok (.aload_n 0, 1) := by decide +kernel
theorem d_D_brokenCode_20 : decode m_D_brokenCode.2.1 20 = .ok (.iload_n 1, 1) := by decide +kernel
theorem d_D_brokenCode_21 : decode m_D_brokenCode.2.1 21 = .ok (.invokevirtual 190, 3) := by decide +kernel
theorem d_D_brokenCode_24 : decode m_D_brokenCode.2.1 24 = .ok (.invokestatic 193, 3) := by decide +kernel
theorem d_D_brokenCode_27 : decode m_D_brokenCode.2.1 27 = .ok (.ifCond .ne 5, 3) := by decide +kernel
theorem d_D_brokenCode_30 : decode m_D_brokenCode.2.1 30 = .ok (.iload_n 3, 1) := by decide +kernel
theorem d_D_brokenCode_31 : decode m_D_brokenCode.2.1 31 = .ok (.ireturn, 1) := by decide +kernel
theorem d_D_brokenCode_32 : decode m_D_brokenCode.2.1 32 = .ok (.iload_n 1, 1) := by decide +kernel
theorem d_D_brokenCode_33 : decode m_D_brokenCode.2.1 33 = .ok (.aload_n 0, 1) := by decide +kernel
theorem d_D_brokenCode_34 : decode m_D_brokenCode.2.1 34 = .ok (.iload_n 1, 1) := by decide +kernel
theorem d_D_brokenCode_35 : decode m_D_brokenCode.2.1 35 = .ok (.invokevirtual 190, 3) := by decide +kernel
theorem d_D_brokenCode_38 : decode m_D_brokenCode.2.1 38 = .ok (.invokestatic 196, 3) := by decide +kernel
theorem d_D_brokenCode_41 : decode m_D_brokenCode.2.1 41 = .ok (.iadd, 1) := by decide +kernel
theorem d_D_brokenCode_42 : decode m_D_brokenCode.2.1 42 = .ok (.istore_n 1, 1) := by decide +kernel
theorem d_D_brokenCode_43 : decode m_D_brokenCode.2.1 43 = .ok (.iinc 2 1, 3) := by decide +kernel
theorem d_D_brokenCode_46 : decode m_D_brokenCode.2.1 46 = .ok (.goto (-42), 3) := by decide +kernel
theorem d_D_brokenCode_49 : decode m_D_brokenCode.2.1 49 = .ok (.iconst 3, 1) := by decide +kernel
theorem d_D_brokenCode_50 : decode m_D_brokenCode.2.1 50 = .ok (.ireturn, 1) := by decide +kernel
theorem d_D_brokenCodeWithoutInside_0 : decode m_D_brokenCodeWithoutInside.2.1 0 = .ok (.aload_n 0, 1) := by decide +kernel
theorem d_D_brokenCodeWithoutInside_1 : decode m_D_brokenCodeWithoutInside.2.1 1 = .ok (.iload_n 1, 1) := by decide +kernel
theorem d_D_brokenCodeWithoutInside_2 : decode m_D_brokenCodeWithoutInside.2.1 2 = .ok (.invokevirtual 190, 3) := by decide +kernel
theorem d_D_brokenCodeWithoutInside_5 : decode m_D_brokenCodeWithoutInside.2.1 5 = .ok (.istore_n 2, 1) := by decide +kernel
theorem d_D_brokenCodeWithoutInside_6 : decode m_D_brokenCodeWithoutInside.2.1 6 = .ok (.iload_n 2, 1) := by decide +kernel
theorem d_D_brokenCodeWithoutInside_7 : decode m_D_brokenCodeWithoutInside.2.1 7 = .ok (.iconst 1, 1) := by decide +kernel
theorem d_D_brokenCodeWithoutInside_8 : decode m_D_brokenCodeWithoutInside.2.1 8 = .ok (.if_icmp .lt 9, 3) := by decide +kernel
theorem d_D_brokenCodeWithoutInside_11 : decode m_D_brokenCodeWithoutInside.2.1 11 = .ok (.iload_n 2, 1) := by decide +kernel
theorem d_D_brokenCodeWithoutInside_12 : decode m_D_brokenCodeWithoutInside.2.1 12 = .ok (.bipush 11, 2) := by decide +kernel
theorem d_D_brokenCodeWithoutInside_14 : decode m_D_brokenCodeWithoutInside.2.1 14 = .ok (.if_icmp .le 5, 3) := by decide +kernel
theorem d_D_brokenCodeWithoutInside_17 : decode m_D_brokenCodeWithoutInside.2.1 17 = .ok (.iconst 1, 1) := by decide +kernel
theorem d_D_brokenCodeWithoutInside_18 : decode m_D_brokenCodeWithoutInside.2.1 18 = .ok (.ireturn, 1) := by decide +kernel
theorem d_D_brokenCodeWithoutInside_19 : decode m_D_brokenCodeWithoutInside.2.1 19 = .ok (.aload_n 0, 1) := by decide +kernel
theorem d_D_brokenCodeWithoutInside_20 : decode m_D_brokenCodeWithoutInside.2.1 20 = .ok (.getfield 199, 3) := by decide +kernel
theorem d_D_brokenCodeWithoutInside_23 : decode m_D_brokenCodeWithoutInside.2.1 23 = .ok (.iload_n 1, 1) := by decide +kernel
theorem d_D_brokenCodeWithoutInside_24 : decode m_D_brokenCodeWithoutInside.2.1 24 = .ok (.isub, 1) := by decide +kernel
theorem d_D_brokenCodeWithoutInside_25 : decode m_D_brokenCodeWithoutInside.2.1 25 = .ok (.iconst 1, 1) := by decide +kernel
theorem d_D_brokenCodeWithoutInside_26 : decode m_D_brokenCodeWithoutInside.2.1 26 = .ok (.isub, 1) := by decide +kernel
theorem d_D_brokenCodeWithoutInside_27 : decode m_D_brokenCodeWithoutInside.2.1 27 = .ok (.istore_n 3, 1) := by decide +kernel
theorem d_D_brokenCodeWithoutInside_28 : decode m_D_brokenCodeWithoutInside.2.1 28 = .ok (.getstatic 165, 3) := by decide +kernel
theorem d_D_brokenCodeWithoutInside_31 : decode m_D_brokenCodeWithoutInside.2.1 31 = .ok (.iload_n 2, 1) := by decide +kernel
theorem d_D_brokenCodeWithoutInside_32 : decode m_D_brokenCodeWithoutInside.2.1 32 = .ok (.iaload, 1) := by decide +kernel
theorem d_D_brokenCodeWithoutInside_33 : decode m_D_brokenCodeWithoutInside.2.1 33 = .ok (.istore 4, 2) := by decide +kernel
theorem d_D_brokenCodeWithoutInside_35 : decode m_D_brokenCodeWithoutInside.2.1 35 = .ok (.iload_n 2, 1) := by decide +kernel
theorem d_D_brokenCodeWithoutInside_36 : decode m_D_brokenCodeWithoutInside.2.1 36 = .ok (.invokestatic 193, 3) := by decide +kernel
theorem d_D_brokenCodeWithoutInside_39 : decode m_D_brokenCodeWithoutInside.2.1 39 = .ok (.ifCond .eq 17, 3) := by decide +kernel
theorem d_D_brokenCodeWithoutInside_42 : decode m_D_brokenCodeWithoutInside.2.1 42 = .ok (.iload_n 3, 1) := by decide +kernel
theorem d_D_brokenCodeWithoutInside_43 : decode m_D_brokenCodeWithoutInside.2.1 43 = .ok (.iload 4, 2) := by decide +kernel
theorem d_D_brokenCodeWithoutInside_45 : decode m_D_brokenCodeWithoutInside.2.1 45 = .ok (.if_icmp .le 7, 3) := by decide +kernel
theorem d_D_brokenCodeWithoutInside_48 : decode m_D_brokenCodeWithoutInside.2.1 48 = .ok (.iconst 1, 1) := by decide +kernel
theorem d_D_brokenCodeWithoutInside_49 : decode m_D_brokenCodeWithoutInside.2.1 49 = .ok (.goto 18, 3) := by decide +kernel
theorem d_D_brokenCodeWithoutInside_52 : decode m_D_brokenCodeWithoutInside.2.1 52 = .ok (.iconst 0, 1) := by decide +kernel
theorem d_D_brokenCodeWithoutInside_53 : decode m_D_brokenCodeWithoutInside.2.1 53 = .ok (.goto 14, 3) := by decide +kernel
theorem d_D_brokenCodeWithoutInside_56 : decode m_D_brokenCodeWithoutInside.2.1 56 = .ok (.iload_n 3, 1) := by decide +kernel
theorem d_D_brokenCodeWithoutInside_57 : decode m_D_brokenCodeWithoutInside.2.1 57 = .ok (.iload 4, 2) := by decide +kernel
theorem d_D_brokenCodeWithoutInside_59 : decode m_D_brokenCodeWithoutInside.2.1 59 = .ok (.if_icmp .ne 7, 3) := by decide +kernel
theorem d_D_brokenCodeWithoutInside_62 : decode m_D_brokenCodeWithoutInside.2.1 62 = .ok (.iconst 1, 1) := by decide +kernel
theorem d_D_brokenCodeWithoutInside_63 : decode m_D_brokenCodeWithoutInside.2.1 63 = .ok (.goto 4, 3) := by decide +kernel
theorem d_D_brokenCodeWithoutInside_66 : decode m_D_brokenCodeWithoutInside.2.1 66 = .ok (.iconst 0, 1) := by decide +kernel
theorem d_D_brokenCodeWithoutInside_67 : decode m_D_brokenCodeWithoutInside.2.1 67 = .ok (.istore 5, 2) := by decide +kernel
theorem d_D_brokenCodeWithoutInside_69 : decode m_D_brokenCodeWithoutInside.2.1 69 = .ok (.iload 5, 2) := by decide +kernel
theorem d_D_brokenCodeWithoutInside_71 : decode m_D_brokenCodeWithoutInside.2.1 71 = .ok (.ifCond .ne 5, 3) := by decide +kernel
theorem d_D_brokenCodeWithoutInside_74 : decode m_D_brokenCodeWithoutInside.2.1 74 = .ok (.iconst 2, 1) := by decide +kernel
theorem d_D_brokenCodeWithoutInside_75 : decode m_D_brokenCodeWithoutInside.2.1 75 = .ok (.ireturn, 1) := by decide +kernel
theorem d_D_brokenCodeWithoutInside_76 : decode m_D_brokenCodeWithoutInside.2.1 76 = .ok (.aload_n 0, 1) := by decide +kernel
theorem d_D_brokenCodeWithoutInside_77 : decode m_D_brokenCodeWithoutInside.2.1 77 = .ok (.iload_n 1, 1) := by decide +kernel
theorem d_D_brokenCodeWithoutInside_78 : decode m_D_brokenCodeWithoutInside.2.1 78 = .ok (.invokestatic 200, 3) := by decide +kernel
theorem d_D_brokenCodeWithoutInside_81 : decode m_D_brokenCodeWithoutInside.2.1 81 = .ok (.ifCond .ne 5, 3) := by decide +kernel
theorem d_D_brokenCodeWithoutInside_84 : decode m_D_brokenCodeWithoutInside.2.1 84 = .ok (.iconst 3, 1) := by decide +kernel
theorem d_D_brokenCodeWithoutInside_85 : decode m_D_brokenCodeWithoutInside.2.1 85 = .ok (.ireturn, 1) := by decide +kernel
theorem d_D_brokenCodeWithoutInside_86 : decode m_D_brokenCodeWithoutInside.2.1 86 = .ok (.iload_n 2, 1) := by decide +kernel
theorem d_D_brokenCodeWithoutInside_87 : decode m_D_brokenCodeWithoutInside.2.1 87 = .ok (.invokestatic 193, 3) := by decide +kernel
theorem d_D_brokenCodeWithoutInside_90 : decode m_D_brokenCodeWithoutInside.2.1 90 = .ok (.ifCond .eq 22, 3) := by decide +kernel
theorem d_D_brokenCodeWithoutInside_93 : decode m_D_brokenCodeWithoutInside.2.1 93 = .ok (.iload_n 2, 1) := by decide +kernel
theorem d_D_brokenCodeWithoutInside_94 : decode m_D_brokenCodeWithoutInside.2.1 94 = .ok (.aload_n 0, 1) := by decide +kernel
theorem d_D_brokenCodeWithoutInside_95 : decode m_D_brokenCodeWithoutInside.2.1 95 = .ok (.iload_n 1, 1) := by decide +kernel
theorem d_D_brokenCodeWithoutInside_96 : decode m_D_brokenCodeWithoutInside.2.1 96 = .ok (.iload_n 2, 1) := by decide +kernel
theorem d_D_brokenCodeWithoutInside_97 : decode m_D_brokenCodeWithoutInside.2.1 97 = .ok (.invokestatic 196, 3) := by decide +kernel
theorem d_D_brokenCodeWithoutInside_100 : decode m_D_brokenCodeWithoutInside.2.1 100 = .ok (.iadd, 1) := by decide +kernel
theorem d_D_brokenCodeWithoutInside_101 : decode m_D_brokenCodeWithoutInside.2.1 101 = .ok (.invokevirtual 190, 3) := by decide +kernel
theorem d_D_brokenCodeWithoutInside_104 : decode m_D_brokenCodeWithoutInside.2.1 104 = .ok (.invokestatic 203, 3) := by decide +kernel
theorem d_D_brokenCodeWithoutInside_107 : decode m_D_brokenCodeWithoutInside.2.1 107 = .ok (.ifCond .ne 5, 3) := by decide +kernel
theorem d_D_brokenCodeWithoutInside_110 : decode m_D_brokenCodeWithoutInside.2.1 110 = .ok (.iconst 3, 1) := by decide +kernel
theorem d_D_brokenCodeWithoutInside_111 : decode m_D_brokenCodeWithoutInside.2.1 111 = .ok (.ireturn, 1) := by decide +kernel
theorem d_D_brokenCodeWithoutInside_112 : decode m_D_brokenCodeWithoutInside.2.1 112 = .ok (.iconst 0, 1) := by decide +kernel
theorem d_D_brokenCodeWithoutInside_113 : decode m_D_brokenCodeWithoutInside.2.1 113 = .ok (.ireturn, 1) := by decide +kernel
theorem d_D_carryOut_0 : decode m_D_carryOut.2.1 0 = .ok (.aload_n 1, 1) := by decide +kernel
theorem d_D_carryOut_1 : decode m_D_carryOut.2.1 1 = .ok (.invokevirtual 134, 3) := by decide +kernel
theorem d_D_carryOut_4 : decode m_D_carryOut.2.1 4 = .ok (.istore_n 3, 1) := by decide +kernel
theorem d_D_carryOut_5 : decode m_D_carryOut.2.1 5 = .ok (.aload_n 0, 1) := by decide +kernel
theorem d_D_carryOut_6 : decode m_D_carryOut.2.1 6 = .ok (.aload_n 1, 1) := by decide +kernel
theorem d_D_carryOut_7 : decode m_D_carryOut.2.1 7 = .ok (.invokevirtual 216, 3) := by decide +kernel
theorem d_D_carryOut_10 : decode m_D_carryOut.2.1 10 = .ok (.istore 4, 2) := by decide +kernel
theorem d_D_carryOut_12 : decode m_D_carryOut.2.1 12 = .ok (.iload 4, 2) := by decide +kernel
theorem d_D_carryOut_14 : decode m_D_carryOut.2.1 14 = .ok (.ifCond .eq 20, 3) := by decide +kernel
theorem d_D_carryOut_17 : decode m_D_carryOut.2.1 17 = .ok (.aload_n 0, 1) := by decide +kernel
theorem d_D_carryOut_18 : decode m_D_carryOut.2.1 18 = .ok (.getfield 33, 3) := by decide +kernel
theorem d_D_carryOut_21 : decode m_D_carryOut.2.1 21 = .ok (.iconst 2, 1) := by decide +kernel
theorem d_D_carryOut_22 : decode m_D_carryOut.2.1 22 = .ok (.aload_n 0, 1) := by decide +kernel
theorem d_D_carryOut_23 : decode m_D_carryOut.2.1 23 = .ok (.getfield 67, 3) := by decide +kernel
theorem d_D_carryOut_26 : decode m_D_carryOut.2.1 26 = .ok (.iload_n 2, 1) := by decide +kernel
theorem d_D_carryOut_27 : decode m_D_carryOut.2.1 27 = .ok (.iload 4, 2) := by decide +kernel
theorem d_D_carryOut_29 : decode m_D_carryOut.2.1 29 = .ok (.invokevirtual 96, 3) := by decide +kernel
theorem d_D_carryOut_32 : decode m_D_carryOut.2.1 32 = .ok (.iconst 0, 1) := by decide +kernel
theorem d_D_carryOut_33 : decode m_D_carryOut.2.1 33 = .ok (.ireturn, 1) := by decide +kernel
theorem d_D_carryOut_34 : decode m_D_carryOut.2.1 34 = .ok (.iload_n 3, 1) := by decide +kernel
theorem d_D_carryOut_35 : decode m_D_carryOut.2.1 35 = .ok (.iconst 1, 1) := by decide +kernel
theorem d_D_carryOut_36 : decode m_D_carryOut.2.1 36 = .ok (.if_icmp .ne 20, 3) := by decide +kernel
theorem d_D_carryOut_39 : decode m_D_carryOut.2.1 39 = .ok (.aload_n 0, 1) := by decide +kernel
theorem d_D_carryOut_40 : decode m_D_carryOut.2.1 40 = .ok (.getfield 33, 3) := by decide +kernel
theorem d_D_carryOut_43 : decode m_D_carryOut.2.1 43 = .ok (.iconst 3, 1) := by decide +kernel
theorem d_D_carryOut_44 : decode m_D_carryOut.2.1 44 = .ok (.aload_n 0, 1) := by decide +kernel
theorem d_D_carryOut_45 : decode m_D_carryOut.2.1 45 = .ok (.getfield 67, 3) := by decide +kernel
theorem d_D_carryOut_48 : decode m_D_carryOut.2.1 48 = .ok (.iload_n 2, 1) := by decide +kernel
theorem d_D_carryOut_49 : decode m_D_carryOut.2.1 49 = .ok (.aload_n 0, 1) := by decide +kernel
theorem d_D_carryOut_50 : decode m_D_carryOut.2.1 50 = .ok (.invokevirtual 219, 3) := by decide +kernel
theorem d_D_carryOut_53 : decode m_D_carryOut.2.1 53 = .ok (.invokevirtual 96, 3) := by decide +kernel
theorem d_D_carryOut_56 : decode m_D_carryOut.2.1 56 = .ok (.aload_n 0, 1) := by decide +kernel
theorem d_D_carryOut_57 : decode m_D_carryOut.2.1 57 = .ok (.aload_n 1, 1) := by decide +kernel
theorem d_D_carryOut_58 : decode m_D_carryOut.2.1 58 = .ok (.invokevirtual 222, 3) := by decide +kernel
theorem d_D_carryOut_61 : decode m_D_carryOut.2.1 61 = .ok (.aload_n 0, 1) := by decide +kernel
theorem d_D_carryOut_62 : decode m_D_carryOut.2.1 62 = .ok (.dup, 1) := by decide +kernel
theorem d_D_carryOut_63 : decode m_D_carryOut.2.1 63 = .ok (.getfield 162, 3) := by decide +kernel
theorem d_D_carryOut_66 : decode m_D_carryOut.2.1 66 = .ok (.iconst 1, 1) := by decide +kernel
theorem d_D_carryOut_67 : decode m_D_carryOut.2.1 67 = .ok (.iadd, 1) := by decide +kernel
theorem d_D_carryOut_68 : decode m_D_carryOut.2.1 68 = .ok (.putfield 162, 3) := by decide +kernel
theorem d_D_carryOut_71 : decode m_D_carryOut.2.1 71 = .ok (.aload_n 0, 1) := by decide +kernel
theorem d_D_carryOut_72 : decode m_D_carryOut.2.1 72 = .ok (.getfield 33, 3) := by decide +kernel
theorem d_D_carryOut_75 : decode m_D_carryOut.2.1 75 = .ok (.iconst 1, 1) := by decide +kernel
theorem d_D_carryOut_76 : decode m_D_carryOut.2.1 76 = .ok (.aload_n 0, 1) := by decide +kernel
theorem d_D_carryOut_77 : decode m_D_carryOut.2.1 77 = .ok (.getfield 67, 3) := by decide +kernel
theorem d_D_carryOut_80 : decode m_D_carryOut.2.1 80 = .ok (.iload_n 2, 1) := by decide +kernel
theorem d_D_carryOut_81 : decode m_D_carryOut.2.1 81 = .ok (.iload_n 3, 1) := by decide +kernel
theorem d_D_carryOut_82 : decode m_D_carryOut.2.1 82 = .ok (.invokevirtual 96, 3) := by decide +kernel
theorem d_D_carryOut_85 : decode m_D_carryOut.2.1 85 = .ok (.iconst 1, 1) := by decide +kernel
theorem d_D_carryOut_86 : decode m_D_carryOut.2.1 86 = .ok (.ireturn, 1) := by decide +kernel
theorem d_D_carryOutDue_0 : decode m_D_carryOutDue.2.1 0 = .ok (.aload_n 0, 1) := by decide +kernel
theorem d_D_carryOutDue_1 : decode m_D_carryOutDue.2.1 1 = .ok (.getfield 26, 3) := by decide +kernel
theorem d_D_carryOutDue_4 : decode m_D_carryOutDue.2.1 4 = .ok (.aload_n 0, 1) := by decide +kernel
theorem d_D_carryOutDue_5 : decode m_D_carryOutDue.2.1 5 = .ok (.getfield 67, 3) := by decide +kernel
theorem d_D_carryOutDue_8 : decode m_D_carryOutDue.2.1 8 = .ok (.invokevirtual 285, 3) := by decide +kernel
theorem d_D_carryOutDue_11 : decode m_D_carryOutDue.2.1 11 = .ok (.istore_n 1, 1) := by decide +kernel
theorem d_D_carryOutDue_12 : decode m_D_carryOutDue.2.1 12 = .ok (.iconst 0, 1) := by decide +kernel
theorem d_D_carryOutDue_13 : decode m_D_carryOutDue.2.1 13 = .ok (.istore_n 2, 1) := by decide +kernel
theorem d_D_carryOutDue_14 : decode m_D_carryOutDue.2.1 14 = .ok (.iload_n 2, 1) := by decide +kernel
theorem d_D_carryOutDue_15 : decode m_D_carryOutDue.2.1 15 = .ok (.iload_n 1, 1) := by decide +kernel
theorem d_D_carryOutDue_16 : decode m_D_carryOutDue.2.1 16 = .ok (.if_icmp .ge 26, 3) := by decide +kernel
theorem d_D_carryOutDue_19 : decode m_D_carryOutDue.2.1 19 = .ok (.aload_n 0, 1) := by decide +kernel
theorem d_D_carryOutDue_20 : decode m_D_carryOutDue.2.1 20 = .ok (.aload_n 0, 1) := by decide +kernel
theorem d_D_carryOutDue_21 : decode m_D_carryOutDue.2.1 21 = .ok (.getfield 26, 3) := by decide +kernel
theorem d_D_carryOutDue_24 : decode m_D_carryOutDue.2.1 24 = .ok (.getfield 288, 3) := by decide +kernel
theorem d_D_carryOutDue_27 : decode m_D_carryOutDue.2.1 27 = .ok (.iload_n 2, 1) := by decide +kernel
theorem d_D_carryOutDue_28 : decode m_D_carryOutDue.2.1 28 = .ok (.aaload, 1) := by decide +kernel
theorem d_D_carryOutDue_29 : decode m_D_carryOutDue.2.1 29 = .ok (.sipush 256, 3) := by decide +kernel
theorem d_D_carryOutDue_32 : decode m_D_carryOutDue.2.1 32 = .ok (.invokevirtual 182, 3) := by decide +kernel
theorem d_D_carryOutDue_35 : decode m_D_carryOutDue.2.1 35 = .ok (.pop, 1) := by decide +kernel
theorem d_D_carryOutDue_36 : decode m_D_carryOutDue.2.1 36 = .ok (.iinc 2 1, 3) := by decide +kernel
theorem d_D_carryOutDue_39 : decode m_D_carryOutDue.2.1 39 = .ok (.goto (-25), 3) := by decide +kernel
theorem d_D_carryOutDue_42 : decode m_D_carryOutDue.2.1 42 = .ok (.return_, 1) := by decide +kernel
theorem d_D_count_0 : decode m_D_count.2.1 0 = .ok (.iload_n 1, 1) := by decide +kernel
theorem d_D_count_1 : decode m_D_count.2.1 1 = .ok (.tableswitch 142 0 9 #[55, 60, 73, 89, 97, 105, 113, 121, 129, 137], 55) := by decide +kernel
theorem d_D_count_56 : decode m_D_count.2.1 56 = .ok (.aload_n 0, 1) := by decide +kernel
theorem d_D_count_57 : decode m_D_count.2.1 57 = .ok (.getfield 67, 3) := by decide +kernel
theorem d_D_count_60 : decode m_D_count.2.1 60 = .ok (.ireturn, 1) := by decide +kernel
theorem d_D_count_61 : decode m_D_count.2.1 61 = .ok (.aload_n 0, 1) := by decide +kernel
theorem d_D_count_62 : decode m_D_count.2.1 62 = .ok (.getfield 146, 3) := by decide +kernel
theorem d_D_count_65 : decode m_D_count.2.1 65 = .ok (.ifCond .eq 7, 3) := by decide +kernel
theorem d_D_count_68 : decode m_D_count.2.1 68 = .ok (.iconst 1, 1) := by decide +kernel
theorem d_D_count_69 : decode m_D_count.2.1 69 = .ok (.goto 4, 3) := by decide +kernel
theorem d_D_count_72 : decode m_D_count.2.1 72 = .ok (.iconst 0, 1) := by decide +kernel
theorem d_D_count_73 : decode m_D_count.2.1 73 = .ok (.ireturn, 1) := by decide +kernel
theorem d_D_count_74 : decode m_D_count.2.1 74 = .ok (.aload_n 0, 1) := by decide +kernel
theorem d_D_count_75 : decode m_D_count.2.1 75 = .ok (.getfield 26, 3) := by decide +kernel
theorem d_D_count_78 : decode m_D_count.2.1 78 = .ok (.getfield 72, 3) := by decide +kernel
theorem d_D_count_81 : decode m_D_count.2.1 81 = .ok (.ifCond .eq 7, 3) := by decide +kernel
theorem d_D_count_84 : decode m_D_count.2.1 84 = .ok (.iconst 1, 1) := by decide +kernel
theorem d_D_count_85 : decode m_D_count.2.1 85 = .ok (.goto 4, 3) := by decide +kernel
theorem d_D_count_88 : decode m_D_count.2.1 88 = .ok (.iconst 0, 1) := by decide +kernel
theorem d_D_count_89 : decode m_D_count.2.1 89 = .ok (.ireturn, 1) := by decide +kernel
theorem d_D_count_90 : decode m_D_count.2.1 90 = .ok (.aload_n 0, 1) := by decide +kernel
theorem d_D_count_91 : decode m_D_count.2.1 91 = .ok (.getfield 26, 3) := by decide +kernel
theorem d_D_count_94 : decode m_D_count.2.1 94 = .ok (.getfield 149, 3) := by decide +kernel
theorem d_D_count_97 : decode m_D_count.2.1 97 = .ok (.ireturn, 1) := by decide +kernel
theorem d_D_count_98 : decode m_D_count.2.1 98 = .ok (.aload_n 0, 1) := by decide +kernel
theorem d_D_count_99 : decode m_D_count.2.1 99 = .ok (.getfield 33, 3) := by decide +kernel
theorem d_D_count_102 : decode m_D_count.2.1 102 = .ok (.getfield 119, 3) := by decide +kernel
theorem d_D_count_105 : decode m_D_count.2.1 105 = .ok (.ireturn, 1) := by decide +kernel
theorem d_D_count_106 : decode m_D_count.2.1 106 = .ok (.aload_n 0, 1) := by decide +kernel
theorem d_D_count_107 : decode m_D_count.2.1 107 = .ok (.getfield 33, 3) := by decide +kernel
theorem d_D_count_110 : decode m_D_count.2.1 110 = .ok (.getfield 150, 3) := by decide +kernel
theorem d_D_count_113 : decode m_D_count.2.1 113 = .ok (.ireturn, 1) := by decide +kernel
theorem d_D_count_114 : decode m_D_count.2.1 114 = .ok (.aload_n 0, 1) := by decide +kernel
theorem d_D_count_115 : decode m_D_count.2.1 115 = .ok (.getfield 10, 3) := by decide +kernel
theorem d_D_count_118 : decode m_D_count.2.1 118 = .ok (.getfield 153, 3) := by decide +kernel
theorem d_D_count_121 : decode m_D_count.2.1 121 = .ok (.ireturn, 1) := by decide +kernel
theorem d_D_count_122 : decode m_D_count.2.1 122 = .ok (.aload_n 0, 1) := by decide +kernel
theorem d_D_count_123 : decode m_D_count.2.1 123 = .ok (.getfield 10, 3) := by decide +kernel
theorem d_D_count_126 : decode m_D_count.2.1 126 = .ok (.getfield 156, 3) := by decide +kernel
theorem d_D_count_129 : decode m_D_count.2.1 129 = .ok (.ireturn, 1) := by decide +kernel
theorem d_D_count_130 : decode m_D_count.2.1 130 = .ok (.aload_n 0, 1) := by decide +kernel
theorem d_D_count_131 : decode m_D_count.2.1 131 = .ok (.getfield 10, 3) := by decide +kernel
theorem d_D_count_134 : decode m_D_count.2.1 134 = .ok (.getfield 159, 3) := by decide +kernel
theorem d_D_count_137 : decode m_D_count.2.1 137 = .ok (.ireturn, 1) := by decide +kernel
theorem d_D_count_138 : decode m_D_count.2.1 138 = .ok (.aload_n 0, 1) := by decide +kernel
theorem d_D_count_139 : decode m_D_count.2.1 139 = .ok (.getfield 162, 3) := by decide +kernel
theorem d_D_count_142 : decode m_D_count.2.1 142 = .ok (.ireturn, 1) := by decide +kernel
theorem d_D_count_143 : decode m_D_count.2.1 143 = .ok (.sipush (-1000), 3) := by decide +kernel
theorem d_D_count_146 : decode m_D_count.2.1 146 = .ok (.ireturn, 1) := by decide +kernel
theorem d_D_dropAction_0 : decode m_D_dropAction.2.1 0 = .ok (.iload_n 1, 1) := by decide +kernel
theorem d_D_dropAction_1 : decode m_D_dropAction.2.1 1 = .ok (.invokestatic 143, 3) := by decide +kernel
theorem d_D_dropAction_4 : decode m_D_dropAction.2.1 4 = .ok (.ifCond .eq 12, 3) := by decide +kernel
theorem d_D_dropAction_7 : decode m_D_dropAction.2.1 7 = .ok (.aload_n 0, 1) := by decide +kernel
theorem d_D_dropAction_8 : decode m_D_dropAction.2.1 8 = .ok (.getfield 48, 3) := by decide +kernel
theorem d_D_dropAction_11 : decode m_D_dropAction.2.1 11 = .ok (.iload_n 1, 1) := by decide +kernel
theorem d_D_dropAction_12 : decode m_D_dropAction.2.1 12 = .ok (.aaload, 1) := by decide +kernel
theorem d_D_dropAction_13 : decode m_D_dropAction.2.1 13 = .ok (.invokevirtual 281, 3) := by decide +kernel
theorem d_D_dropAction_16 : decode m_D_dropAction.2.1 16 = .ok (.return_, 1) := by decide +kernel
theorem d_D_holdsCommand_0 : decode m_D_holdsCommand.2.1 0 = .ok (.iload_n 0, 1) := by decide +kernel
theorem d_D_holdsCommand_1 : decode m_D_holdsCommand.2.1 1 = .ok (.iconst 3, 1) := by decide +kernel
theorem d_D_holdsCommand_2 : decode m_D_holdsCommand.2.1 2 = .ok (.if_icmp .eq 9, 3) := by decide +kernel
theorem d_D_holdsCommand_5 : decode m_D_holdsCommand.2.1 5 = .ok (.iload_n 0, 1) := by decide +kernel
theorem d_D_holdsCommand_6 : decode m_D_holdsCommand.2.1 6 = .ok (.bipush 8, 2) := by decide +kernel
theorem d_D_holdsCommand_8 : decode m_D_holdsCommand.2.1 8 = .ok (.if_icmp .ne 7, 3) := by decide +kernel
theorem d_D_holdsCommand_11 : decode m_D_holdsCommand.2.1 11 = .ok (.iconst 1, 1) := by decide +kernel
theorem d_D_holdsCommand_12 : decode m_D_holdsCommand.2.1 12 = .ok (.goto 4, 3) := by decide +kernel
theorem d_D_holdsCommand_15 : decode m_D_holdsCommand.2.1 15 = .ok (.iconst 0, 1) := by decide +kernel
theorem d_D_holdsCommand_16 : decode m_D_holdsCommand.2.1 16 = .ok (.ireturn, 1) := by decide +kernel
theorem d_D_init_0 : decode m_D_init.2.1 0 = .ok (.aload_n 0, 1) := by decide +kernel
theorem d_D_init_1 : decode m_D_init.2.1 1 = .ok (.invokespecial 1, 3) := by decide +kernel
theorem d_D_init_4 : decode m_D_init.2.1 4 = .ok (.aload_n 0, 1) := by decide +kernel
theorem d_D_init_5 : decode m_D_init.2.1 5 = .ok (.new 7, 3) := by decide +kernel
theorem d_D_init_8 : decode m_D_init.2.1 8 = .ok (.dup, 1) := by decide +kernel
theorem d_D_init_9 : decode m_D_init.2.1 9 = .ok (.invokespecial 9, 3) := by decide +kernel
theorem d_D_init_12 : decode m_D_init.2.1 12 = .ok (.putfield 10, 3) := by decide +kernel
theorem d_D_init_15 : decode m_D_init.2.1 15 = .ok (.aload_n 0, 1) := by decide +kernel
theorem d_D_init_16 : decode m_D_init.2.1 16 = .ok (.new 16, 3) := by decide +kernel
theorem d_D_init_19 : decode m_D_init.2.1 19 = .ok (.dup, 1) := by decide +kernel
theorem d_D_init_20 : decode m_D_init.2.1 20 = .ok (.invokespecial 18, 3) := by decide +kernel
theorem d_D_init_23 : decode m_D_init.2.1 23 = .ok (.putfield 19, 3) := by decide +kernel
theorem d_D_init_26 : decode m_D_init.2.1 26 = .ok (.aload_n 0, 1) := by decide +kernel
theorem d_D_init_27 : decode m_D_init.2.1 27 = .ok (.new 23, 3) := by decide +kernel
theorem d_D_init_30 : decode m_D_init.2.1 30 = .ok (.dup, 1) := by decide +kernel
theorem d_D_init_31 : decode m_D_init.2.1 31 = .ok (.invokespecial 25, 3) := by decide +kernel
theorem d_D_init_34 : decode m_D_init.2.1 34 = .ok (.putfield 26, 3) := by decide +kernel
theorem d_D_init_37 : decode m_D_init.2.1 37 = .ok (.aload_n 0, 1) := by decide +kernel
theorem d_D_init_38 : decode m_D_init.2.1 38 = .ok (.new 30, 3) := by decide +kernel
theorem d_D_init_41 : decode m_D_init.2.1 41 = .ok (.dup, 1) := by decide +kernel
theorem d_D_init_42 : decode m_D_init.2.1 42 = .ok (.invokespecial 32, 3) := by decide +kernel
theorem d_D_init_45 : decode m_D_init.2.1 45 = .ok (.putfield 33, 3) := by decide +kernel
theorem d_D_init_48 : decode m_D_init.2.1 48 = .ok (.aload_n 0, 1) := by decide +kernel
theorem d_D_init_49 : decode m_D_init.2.1 49 = .ok (.bipush 8, 2) := by decide +kernel
theorem d_D_init_51 : decode m_D_init.2.1 51 = .ok (.newarray .int, 2) := by decide +kernel
theorem d_D_init_53 : decode m_D_init.2.1 53 = .ok (.putfield 37, 3) := by decide +kernel
theorem d_D_init_56 : decode m_D_init.2.1 56 = .ok (.aload_n 0, 1) := by decide +kernel
theorem d_D_init_57 : decode m_D_init.2.1 57 = .ok (.iconst 4, 1) := by decide +kernel
theorem d_D_init_58 : decode m_D_init.2.1 58 = .ok (.anewarray 41, 3) := by decide +kernel
theorem d_D_init_61 : decode m_D_init.2.1 61 = .ok (.putfield 43, 3) := by decide +kernel
theorem d_D_init_64 : decode m_D_init.2.1 64 = .ok (.iconst 0, 1) := by decide +kernel
theorem d_D_init_65 : decode m_D_init.2.1 65 = .ok (.istore_n 1, 1) := by decide +kernel
theorem d_D_init_66 : decode m_D_init.2.1 66 = .ok (.iload_n 1, 1) := by decide +kernel
theorem d_D_init_67 : decode m_D_init.2.1 67 = .ok (.iconst 4, 1) := by decide +kernel
theorem d_D_init_68 : decode m_D_init.2.1 68 = .ok (.if_icmp .ge 22, 3) := by decide +kernel
theorem d_D_init_71 : decode m_D_init.2.1 71 = .ok (.aload_n 0, 1) := by decide +kernel
theorem d_D_init_72 : decode m_D_init.2.1 72 = .ok (.getfield 43, 3) := by decide +kernel
theorem d_D_init_75 : decode m_D_init.2.1 75 = .ok (.iload_n 1, 1) := by decide +kernel
theorem d_D_init_76 : decode m_D_init.2.1 76 = .ok (.new 41, 3) := by decide +kernel
theorem d_D_init_79 : decode m_D_init.2.1 79 = .ok (.dup, 1) := by decide +kernel
theorem d_D_init_80 : decode m_D_init.2.1 80 = .ok (.invokespecial 47, 3) := by decide +kernel
theorem d_D_init_83 : decode m_D_init.2.1 83 = .ok (.aastore, 1) := by decide +kernel
theorem d_D_init_84 : decode m_D_init.2.1 84 = .ok (.iinc 1 1, 3) := by decide +kernel
theorem d_D_init_87 : decode m_D_init.2.1 87 = .ok (.goto (-21), 3) := by decide +kernel
theorem d_D_init_90 : decode m_D_init.2.1 90 = .ok (.aload_n 0, 1) := by decide +kernel
theorem d_D_init_91 : decode m_D_init.2.1 91 = .ok (.iconst 4, 1) := by decide +kernel
theorem d_D_init_92 : decode m_D_init.2.1 92 = .ok (.anewarray 16, 3) := by decide +kernel
theorem d_D_init_95 : decode m_D_init.2.1 95 = .ok (.putfield 48, 3) := by decide +kernel
theorem d_D_init_98 : decode m_D_init.2.1 98 = .ok (.iconst 0, 1) := by decide +kernel
theorem d_D_init_99 : decode m_D_init.2.1 99 = .ok (.istore_n 1, 1) := by decide +kernel
theorem d_D_init_100 : decode m_D_init.2.1 100 = .ok (.iload_n 1, 1) := by decide +kernel
theorem d_D_init_101 : decode m_D_init.2.1 101 = .ok (.iconst 4, 1) := by decide +kernel
theorem d_D_init_102 : decode m_D_init.2.1 102 = .ok (.if_icmp .ge 22, 3) := by decide +kernel
theorem d_D_init_105 : decode m_D_init.2.1 105 = .ok (.aload_n 0, 1) := by decide +kernel
theorem d_D_init_106 : decode m_D_init.2.1 106 = .ok (.getfield 48, 3) := by decide +kernel
theorem d_D_init_109 : decode m_D_init.2.1 109 = .ok (.iload_n 1, 1) := by decide +kernel
theorem d_D_init_110 : decode m_D_init.2.1 110 = .ok (.new 16, 3) := by decide +kernel
theorem d_D_init_113 : decode m_D_init.2.1 113 = .ok (.dup, 1) := by decide +kernel
theorem d_D_init_114 : decode m_D_init.2.1 114 = .ok (.invokespecial 18, 3) := by decide +kernel
theorem d_D_init_117 : decode m_D_init.2.1 117 = .ok (.aastore, 1) := by decide +kernel
theorem d_D_init_118 : decode m_D_init.2.1 118 = .ok (.iinc 1 1, 3) := by decide +kernel
theorem d_D_init_121 : decode m_D_init.2.1 121 = .ok (.goto (-21), 3) := by decide +kernel
theorem d_D_init_124 : decode m_D_init.2.1 124 = .ok (.aload_n 0, 1) := by decide +kernel
theorem d_D_init_125 : decode m_D_init.2.1 125 = .ok (.iconst 2, 1) := by decide +kernel
theorem d_D_init_126 : decode m_D_init.2.1 126 = .ok (.anewarray 52, 3) := by decide +kernel
theorem d_D_init_129 : decode m_D_init.2.1 129 = .ok (.putfield 54, 3) := by decide +kernel
theorem d_D_init_132 : decode m_D_init.2.1 132 = .ok (.iconst 0, 1) := by decide +kernel
theorem d_D_init_133 : decode m_D_init.2.1 133 = .ok (.istore_n 1, 1) := by decide +kernel
theorem d_D_init_134 : decode m_D_init.2.1 134 = .ok (.iload_n 1, 1) := by decide +kernel
theorem d_D_init_135 : decode m_D_init.2.1 135 = .ok (.iconst 2, 1) := by decide +kernel
theorem d_D_init_136 : decode m_D_init.2.1 136 = .ok (.if_icmp .ge 22, 3) := by decide +kernel
theorem d_D_init_139 : decode m_D_init.2.1 139 = .ok (.aload_n 0, 1) := by decide +kernel
theorem d_D_init_140 : decode m_D_init.2.1 140 = .ok (.getfield 54, 3) := by decide +kernel
theorem d_D_init_143 : decode m_D_init.2.1 143 = .ok (.iload_n 1, 1) := by decide +kernel
theorem d_D_init_144 : decode m_D_init.2.1 144 = .ok (.new 52, 3) := by decide +kernel
theorem d_D_init_147 : decode m_D_init.2.1 147 = .ok (.dup, 1) := by decide +kernel
theorem d_D_init_148 : decode m_D_init.2.1 148 = .ok (.invokespecial 58, 3) := by decide +kernel
theorem d_D_init_151 : decode m_D_init.2.1 151 = .ok (.aastore, 1) := by decide +kernel
theorem d_D_init_152 : decode m_D_init.2.1 152 = .ok (.iinc 1 1, 3) := by decide +kernel
theorem d_D_init_155 : decode m_D_init.2.1 155 = .ok (.goto (-21), 3) := by decide +kernel
theorem d_D_init_158 : decode m_D_init.2.1 158 = .ok (.return_, 1) := by decide +kernel
theorem d_D_insideOf_0 : decode m_D_insideOf.2.1 0 = .ok (.iconst 1, 1) := by decide +kernel
theorem d_D_insideOf_1 : decode m_D_insideOf.2.1 1 = .ok (.iload_n 0, 1) := by decide +kernel
theorem d_D_insideOf_2 : decode m_D_insideOf.2.1 2 = .ok (.iconst 3, 1) := by decide +kernel
theorem d_D_insideOf_3 : decode m_D_insideOf.2.1 3 = .ok (.if_icmp .ne 11, 3) := by decide +kernel
theorem d_D_insideOf_6 : decode m_D_insideOf.2.1 6 = .ok (.getstatic 165, 3) := by decide +kernel
theorem d_D_insideOf_9 : decode m_D_insideOf.2.1 9 = .ok (.iconst 3, 1) := by decide +kernel
theorem d_D_insideOf_10 : decode m_D_insideOf.2.1 10 = .ok (.iaload, 1) := by decide +kernel
theorem d_D_insideOf_11 : decode m_D_insideOf.2.1 11 = .ok (.goto 9, 3) := by decide +kernel
theorem d_D_insideOf_14 : decode m_D_insideOf.2.1 14 = .ok (.getstatic 165, 3) := by decide +kernel
theorem d_D_insideOf_17 : decode m_D_insideOf.2.1 17 = .ok (.bipush 8, 2) := by decide +kernel
theorem d_D_insideOf_19 : decode m_D_insideOf.2.1 19 = .ok (.iaload, 1) := by decide +kernel
theorem d_D_insideOf_20 : decode m_D_insideOf.2.1 20 = .ok (.iadd, 1) := by decide +kernel
theorem d_D_insideOf_21 : decode m_D_insideOf.2.1 21 = .ok (.ireturn, 1) := by decide +kernel
theorem d_D_isAllowedWhenSafe_0 : decode m_D_isAllowedWhenSafe.2.1 0 = .ok (.iload_n 0, 1) := by decide +kernel
theorem d_D_isAllowedWhenSafe_1 : decode m_D_isAllowedWhenSafe.2.1 1 = .ok (.iconst 1, 1) := by decide +kernel
theorem d_D_isAllowedWhenSafe_2 : decode m_D_isAllowedWhenSafe.2.1 2 = .ok (.if_icmp .eq 20, 3) := by decide +kernel
theorem d_D_isAllowedWhenSafe_5 : decode m_D_isAllowedWhenSafe.2.1 5 = .ok (.iload_n 0, 1) := by decide +kernel
theorem d_D_isAllowedWhenSafe_6 : decode m_D_isAllowedWhenSafe.2.1 6 = .ok (.iconst 2, 1) := by decide +kernel
theorem d_D_isAllowedWhenSafe_7 : decode m_D_isAllowedWhenSafe.2.1 7 = .ok (.if_icmp .eq 15, 3) := by decide +kernel
theorem d_D_isAllowedWhenSafe_10 : decode m_D_isAllowedWhenSafe.2.1 10 = .ok (.iload_n 0, 1) := by decide +kernel
theorem d_D_isAllowedWhenSafe_11 : decode m_D_isAllowedWhenSafe.2.1 11 = .ok (.bipush 7, 2) := by decide +kernel
theorem d_D_isAllowedWhenSafe_13 : decode m_D_isAllowedWhenSafe.2.1 13 = .ok (.if_icmp .eq 9, 3) := by decide +kernel
theorem d_D_isAllowedWhenSafe_16 : decode m_D_isAllowedWhenSafe.2.1 16 = .ok (.iload_n 0, 1) := by decide +kernel
theorem d_D_isAllowedWhenSafe_17 : decode m_D_isAllowedWhenSafe.2.1 17 = .ok (.bipush 11, 2) := by decide +kernel
theorem d_D_isAllowedWhenSafe_19 : decode m_D_isAllowedWhenSafe.2.1 19 = .ok (.if_icmp .ne 7, 3) := by decide +kernel
theorem d_D_isAllowedWhenSafe_22 : decode m_D_isAllowedWhenSafe.2.1 22 = .ok (.iconst 1, 1) := by decide +kernel
theorem d_D_isAllowedWhenSafe_23 : decode m_D_isAllowedWhenSafe.2.1 23 = .ok (.goto 4, 3) := by decide +kernel
theorem d_D_isAllowedWhenSafe_26 : decode m_D_isAllowedWhenSafe.2.1 26 = .ok (.iconst 0, 1) := by decide +kernel
theorem d_D_isAllowedWhenSafe_27 : decode m_D_isAllowedWhenSafe.2.1 27 = .ok (.ireturn, 1) := by decide +kernel
theorem d_D_isEvent_0 : decode m_D_isEvent.2.1 0 = .ok (.iload_n 0, 1) := by decide +kernel
theorem d_D_isEvent_1 : decode m_D_isEvent.2.1 1 = .ok (.ifCond .lt 12, 3) := by decide +kernel
theorem d_D_isEvent_4 : decode m_D_isEvent.2.1 4 = .ok (.iload_n 0, 1) := by decide +kernel
theorem d_D_isEvent_5 : decode m_D_isEvent.2.1 5 = .ok (.iconst 4, 1) := by decide +kernel
theorem d_D_isEvent_6 : decode m_D_isEvent.2.1 6 = .ok (.if_icmp .ge 7, 3) := by decide +kernel
theorem d_D_isEvent_9 : decode m_D_isEvent.2.1 9 = .ok (.iconst 1, 1) := by decide +kernel
theorem d_D_isEvent_10 : decode m_D_isEvent.2.1 10 = .ok (.goto 4, 3) := by decide +kernel
theorem d_D_isEvent_13 : decode m_D_isEvent.2.1 13 = .ok (.iconst 0, 1) := by decide +kernel
theorem d_D_isEvent_14 : decode m_D_isEvent.2.1 14 = .ok (.ireturn, 1) := by decide +kernel
theorem d_D_isList_0 : decode m_D_isList.2.1 0 = .ok (.iload_n 0, 1) := by decide +kernel
theorem d_D_isList_1 : decode m_D_isList.2.1 1 = .ok (.ifCond .lt 12, 3) := by decide +kernel
theorem d_D_isList_4 : decode m_D_isList.2.1 4 = .ok (.iload_n 0, 1) := by decide +kernel
theorem d_D_isList_5 : decode m_D_isList.2.1 5 = .ok (.iconst 2, 1) := by decide +kernel
theorem d_D_isList_6 : decode m_D_isList.2.1 6 = .ok (.if_icmp .ge 7, 3) := by decide +kernel
theorem d_D_isList_9 : decode m_D_isList.2.1 9 = .ok (.iconst 1, 1) := by decide +kernel
theorem d_D_isList_10 : decode m_D_isList.2.1 10 = .ok (.goto 4, 3) := by decide +kernel
theorem d_D_isList_13 : decode m_D_isList.2.1 13 = .ok (.iconst 0, 1) := by decide +kernel
theorem d_D_isList_14 : decode m_D_isList.2.1 14 = .ok (.ireturn, 1) := by decide +kernel
theorem d_D_isParameter_0 : decode m_D_isParameter.2.1 0 = .ok (.iload_n 0, 1) := by decide +kernel
theorem d_D_isParameter_1 : decode m_D_isParameter.2.1 1 = .ok (.ifCond .lt 13, 3) := by decide +kernel
theorem d_D_isParameter_4 : decode m_D_isParameter.2.1 4 = .ok (.iload_n 0, 1) := by decide +kernel
theorem d_D_isParameter_5 : decode m_D_isParameter.2.1 5 = .ok (.bipush 8, 2) := by decide +kernel
theorem d_D_isParameter_7 : decode m_D_isParameter.2.1 7 = .ok (.if_icmp .ge 7, 3) := by decide +kernel
theorem d_D_isParameter_10 : decode m_D_isParameter.2.1 10 = .ok (.iconst 1, 1) := by decide +kernel
theorem d_D_isParameter_11 : decode m_D_isParameter.2.1 11 = .ok (.goto 4, 3) := by decide +kernel
theorem d_D_isParameter_14 : decode m_D_isParameter.2.1 14 = .ok (.iconst 0, 1) := by decide +kernel
theorem d_D_isParameter_15 : decode m_D_isParameter.2.1 15 = .ok (.ireturn, 1) := by decide +kernel
theorem d_D_isWatch_0 : decode m_D_isWatch.2.1 0 = .ok (.iload_n 0, 1) := by decide +kernel
theorem d_D_isWatch_1 : decode m_D_isWatch.2.1 1 = .ok (.ifCond .lt 12, 3) := by decide +kernel
theorem d_D_isWatch_4 : decode m_D_isWatch.2.1 4 = .ok (.iload_n 0, 1) := by decide +kernel
theorem d_D_isWatch_5 : decode m_D_isWatch.2.1 5 = .ok (.iconst 4, 1) := by decide +kernel
theorem d_D_isWatch_6 : decode m_D_isWatch.2.1 6 = .ok (.if_icmp .ge 7, 3) := by decide +kernel
theorem d_D_isWatch_9 : decode m_D_isWatch.2.1 9 = .ok (.iconst 1, 1) := by decide +kernel
theorem d_D_isWatch_10 : decode m_D_isWatch.2.1 10 = .ok (.goto 4, 3) := by decide +kernel
theorem d_D_isWatch_13 : decode m_D_isWatch.2.1 13 = .ok (.iconst 0, 1) := by decide +kernel
theorem d_D_isWatch_14 : decode m_D_isWatch.2.1 14 = .ok (.ireturn, 1) := by decide +kernel
theorem d_D_look_0 : decode m_D_look.2.1 0 = .ok (.aload_n 0, 1) := by decide +kernel
theorem d_D_look_1 : decode m_D_look.2.1 1 = .ok (.aload_n 1, 1) := by decide +kernel
theorem d_D_look_2 : decode m_D_look.2.1 2 = .ok (.getfield 291, 3) := by decide +kernel
theorem d_D_look_5 : decode m_D_look.2.1 5 = .ok (.invokevirtual 294, 3) := by decide +kernel
theorem d_D_look_8 : decode m_D_look.2.1 8 = .ok (.istore_n 2, 1) := by decide +kernel
theorem d_D_look_9 : decode m_D_look.2.1 9 = .ok (.aload_n 1, 1) := by decide +kernel
theorem d_D_look_10 : decode m_D_look.2.1 10 = .ok (.iload_n 2, 1) := by decide +kernel
theorem d_D_look_11 : decode m_D_look.2.1 11 = .ok (.invokevirtual 297, 3) := by decide +kernel
theorem d_D_look_14 : decode m_D_look.2.1 14 = .ok (.ifCond .ne 4, 3) := by decide +kernel
theorem d_D_look_17 : decode m_D_look.2.1 17 = .ok (.return_, 1) := by decide +kernel
theorem d_D_look_18 : decode m_D_look.2.1 18 = .ok (.aload_n 1, 1) := by decide +kernel
theorem d_D_look_19 : decode m_D_look.2.1 19 = .ok (.getfield 300, 3) := by decide +kernel
theorem d_D_look_22 : decode m_D_look.2.1 22 = .ok (.istore_n 3, 1) := by decide +kernel
theorem d_D_look_23 : decode m_D_look.2.1 23 = .ok (.aload_n 0, 1) := by decide +kernel
theorem d_D_look_24 : decode m_D_look.2.1 24 = .ok (.getfield 33, 3) := by decide +kernel
theorem d_D_look_27 : decode m_D_look.2.1 27 = .ok (.iconst 4, 1) := by decide +kernel
theorem d_D_look_28 : decode m_D_look.2.1 28 = .ok (.aload_n 0, 1) := by decide +kernel
theorem d_D_look_29 : decode m_D_look.2.1 29 = .ok (.getfield 67, 3) := by decide +kernel
theorem d_D_look_32 : decode m_D_look.2.1 32 = .ok (.iload_n 3, 1) := by decide +kernel
theorem d_D_look_33 : decode m_D_look.2.1 33 = .ok (.iload_n 2, 1) := by decide +kernel
theorem d_D_look_34 : decode m_D_look.2.1 34 = .ok (.invokevirtual 96, 3) := by decide +kernel
theorem d_D_look_37 : decode m_D_look.2.1 37 = .ok (.iload_n 3, 1) := by decide +kernel
theorem d_D_look_38 : decode m_D_look.2.1 38 = .ok (.invokestatic 143, 3) := by decide +kernel
theorem d_D_look_41 : decode m_D_look.2.1 41 = .ok (.ifCond .eq 29, 3) := by decide +kernel
theorem d_D_look_44 : decode m_D_look.2.1 44 = .ok (.aload_n 0, 1) := by decide +kernel
theorem d_D_look_45 : decode m_D_look.2.1 45 = .ok (.getfield 48, 3) := by decide +kernel
theorem d_D_look_48 : decode m_D_look.2.1 48 = .ok (.iload_n 3, 1) := by decide +kernel
theorem d_D_look_49 : decode m_D_look.2.1 49 = .ok (.aaload, 1) := by decide +kernel
theorem d_D_look_50 : decode m_D_look.2.1 50 = .ok (.invokevirtual 303, 3) := by decide +kernel
theorem d_D_look_53 : decode m_D_look.2.1 53 = .ok (.ifCond .ne 17, 3) := by decide +kernel
theorem d_D_look_56 : decode m_D_look.2.1 56 = .ok (.aload_n 0, 1) := by decide +kernel
theorem d_D_look_57 : decode m_D_look.2.1 57 = .ok (.aload_n 0, 1) := by decide +kernel
theorem d_D_look_58 : decode m_D_look.2.1 58 = .ok (.getfield 48, 3) := by decide +kernel
theorem d_D_look_61 : decode m_D_look.2.1 61 = .ok (.iload_n 3, 1) := by decide +kernel
theorem d_D_look_62 : decode m_D_look.2.1 62 = .ok (.aaload, 1) := by decide +kernel
theorem d_D_look_63 : decode m_D_look.2.1 63 = .ok (.sipush 257, 3) := by decide +kernel
theorem d_D_look_66 : decode m_D_look.2.1 66 = .ok (.invokevirtual 182, 3) := by decide +kernel
theorem d_D_look_69 : decode m_D_look.2.1 69 = .ok (.pop, 1) := by decide +kernel
theorem d_D_look_70 : decode m_D_look.2.1 70 = .ok (.return_, 1) := by decide +kernel
theorem d_D_mayStandInside_0 : decode m_D_mayStandInside.2.1 0 = .ok (.iload_n 1, 1) := by decide +kernel
theorem d_D_mayStandInside_1 : decode m_D_mayStandInside.2.1 1 = .ok (.iconst 3, 1) := by decide +kernel
theorem d_D_mayStandInside_2 : decode m_D_mayStandInside.2.1 2 = .ok (.if_icmp .eq 18, 3) := by decide +kernel
theorem d_D_mayStandInside_5 : decode m_D_mayStandInside.2.1 5 = .ok (.iload_n 0, 1) := by decide +kernel
theorem d_D_mayStandInside_6 : decode m_D_mayStandInside.2.1 6 = .ok (.iconst 3, 1) := by decide +kernel
theorem d_D_mayStandInside_7 : decode m_D_mayStandInside.2.1 7 = .ok (.if_icmp .eq 9, 3) := by decide +kernel
theorem d_D_mayStandInside_10 : decode m_D_mayStandInside.2.1 10 = .ok (.iload_n 1, 1) := by decide +kernel
theorem d_D_mayStandInside_11 : decode m_D_mayStandInside.2.1 11 = .ok (.bipush 8, 2) := by decide +kernel
theorem d_D_mayStandInside_13 : decode m_D_mayStandInside.2.1 13 = .ok (.if_icmp .eq 7, 3) := by decide +kernel
theorem d_D_mayStandInside_16 : decode m_D_mayStandInside.2.1 16 = .ok (.iconst 1, 1) := by decide +kernel
theorem d_D_mayStandInside_17 : decode m_D_mayStandInside.2.1 17 = .ok (.goto 4, 3) := by decide +kernel
theorem d_D_mayStandInside_20 : decode m_D_mayStandInside.2.1 20 = .ok (.iconst 0, 1) := by decide +kernel
theorem d_D_mayStandInside_21 : decode m_D_mayStandInside.2.1 21 = .ok (.ireturn, 1) := by decide +kernel
theorem d_D_obeyFrame_0 : decode m_D_obeyFrame.2.1 0 = .ok (.aload_n 0, 1) := by decide +kernel
theorem d_D_obeyFrame_1 : decode m_D_obeyFrame.2.1 1 = .ok (.getfield 19, 3) := by decide +kernel
theorem d_D_obeyFrame_4 : decode m_D_obeyFrame.2.1 4 = .ok (.aload_n 0, 1) := by decide +kernel
theorem d_D_obeyFrame_5 : decode m_D_obeyFrame.2.1 5 = .ok (.getfield 10, 3) := by decide +kernel
theorem d_D_obeyFrame_8 : decode m_D_obeyFrame.2.1 8 = .ok (.getfield 168, 3) := by decide +kernel
theorem d_D_obeyFrame_11 : decode m_D_obeyFrame.2.1 11 = .ok (.iconst 1, 1) := by decide +kernel
theorem d_D_obeyFrame_12 : decode m_D_obeyFrame.2.1 12 = .ok (.aload_n 0, 1) := by decide +kernel
theorem d_D_obeyFrame_13 : decode m_D_obeyFrame.2.1 13 = .ok (.getfield 10, 3) := by decide +kernel
theorem d_D_obeyFrame_16 : decode m_D_obeyFrame.2.1 16 = .ok (.getfield 171, 3) := by decide +kernel
theorem d_D_obeyFrame_19 : decode m_D_obeyFrame.2.1 19 = .ok (.invokevirtual 174, 3) := by decide +kernel
theorem d_D_obeyFrame_22 : decode m_D_obeyFrame.2.1 22 = .ok (.aload_n 0, 1) := by decide +kernel
theorem d_D_obeyFrame_23 : decode m_D_obeyFrame.2.1 23 = .ok (.getfield 10, 3) := by decide +kernel
theorem d_D_obeyFrame_26 : decode m_D_obeyFrame.2.1 26 = .ok (.getfield 168, 3) := by decide +kernel
theorem d_D_obeyFrame_29 : decode m_D_obeyFrame.2.1 29 = .ok (.iconst 0, 1) := by decide +kernel
theorem d_D_obeyFrame_30 : decode m_D_obeyFrame.2.1 30 = .ok (.iaload, 1) := by decide +kernel
theorem d_D_obeyFrame_31 : decode m_D_obeyFrame.2.1 31 = .ok (.istore_n 1, 1) := by decide +kernel
theorem d_D_obeyFrame_32 : decode m_D_obeyFrame.2.1 32 = .ok (.aload_n 0, 1) := by decide +kernel
theorem d_D_obeyFrame_33 : decode m_D_obeyFrame.2.1 33 = .ok (.getfield 19, 3) := by decide +kernel
theorem d_D_obeyFrame_36 : decode m_D_obeyFrame.2.1 36 = .ok (.invokestatic 178, 3) := by decide +kernel
theorem d_D_obeyFrame_39 : decode m_D_obeyFrame.2.1 39 = .ok (.istore_n 2, 1) := by decide +kernel
theorem d_D_obeyFrame_40 : decode m_D_obeyFrame.2.1 40 = .ok (.iload_n 2, 1) := by decide +kernel
theorem d_D_obeyFrame_41 : decode m_D_obeyFrame.2.1 41 = .ok (.ifCond .eq 19, 3) := by decide +kernel
theorem d_D_obeyFrame_44 : decode m_D_obeyFrame.2.1 44 = .ok (.aload_n 0, 1) := by decide +kernel
theorem d_D_obeyFrame_45 : decode m_D_obeyFrame.2.1 45 = .ok (.getfield 33, 3) := by decide +kernel
theorem d_D_obeyFrame_48 : decode m_D_obeyFrame.2.1 48 = .ok (.iconst 2, 1) := by decide +kernel
theorem d_D_obeyFrame_49 : decode m_D_obeyFrame.2.1 49 = .ok (.aload_n 0, 1) := by decide +kernel
theorem d_D_obeyFrame_50 : decode m_D_obeyFrame.2.1 50 = .ok (.getfield 67, 3) := by decide +kernel
theorem d_D_obeyFrame_53 : decode m_D_obeyFrame.2.1 53 = .ok (.iload_n 1, 1) := by decide +kernel
theorem d_D_obeyFrame_54 : decode m_D_obeyFrame.2.1 54 = .ok (.iload_n 2, 1) := by decide +kernel
theorem d_D_obeyFrame_55 : decode m_D_obeyFrame.2.1 55 = .ok (.invokevirtual 96, 3) := by decide +kernel
theorem d_D_obeyFrame_58 : decode m_D_obeyFrame.2.1 58 = .ok (.iconst 0, 1) := by decide +kernel
theorem d_D_obeyFrame_59 : decode m_D_obeyFrame.2.1 59 = .ok (.ireturn, 1) := by decide +kernel
theorem d_D_obeyFrame_60 : decode m_D_obeyFrame.2.1 60 = .ok (.aload_n 0, 1) := by decide +kernel
theorem d_D_obeyFrame_61 : decode m_D_obeyFrame.2.1 61 = .ok (.aload_n 0, 1) := by decide +kernel
theorem d_D_obeyFrame_62 : decode m_D_obeyFrame.2.1 62 = .ok (.getfield 19, 3) := by decide +kernel
theorem d_D_obeyFrame_65 : decode m_D_obeyFrame.2.1 65 = .ok (.iload_n 1, 1) := by decide +kernel
theorem d_D_obeyFrame_66 : decode m_D_obeyFrame.2.1 66 = .ok (.invokevirtual 182, 3) := by decide +kernel
theorem d_D_obeyFrame_69 : decode m_D_obeyFrame.2.1 69 = .ok (.ireturn, 1) := by decide +kernel
theorem d_D_parameter_0 : decode m_D_parameter.2.1 0 = .ok (.iload_n 1, 1) := by decide +kernel
theorem d_D_parameter_1 : decode m_D_parameter.2.1 1 = .ok (.invokestatic 122, 3) := by decide +kernel
theorem d_D_parameter_4 : decode m_D_parameter.2.1 4 = .ok (.ifCond .eq 12, 3) := by decide +kernel
theorem d_D_parameter_7 : decode m_D_parameter.2.1 7 = .ok (.aload_n 0, 1) := by decide +kernel
theorem d_D_parameter_8 : decode m_D_parameter.2.1 8 = .ok (.getfield 37, 3) := by decide +kernel
theorem d_D_parameter_11 : decode m_D_parameter.2.1 11 = .ok (.iload_n 1, 1) := by decide +kernel
theorem d_D_parameter_12 : decode m_D_parameter.2.1 12 = .ok (.iaload, 1) := by decide +kernel
theorem d_D_parameter_13 : decode m_D_parameter.2.1 13 = .ok (.goto 6, 3) := by decide +kernel
theorem d_D_parameter_16 : decode m_D_parameter.2.1 16 = .ok (.sipush (-1000), 3) := by decide +kernel
theorem d_D_parameter_19 : decode m_D_parameter.2.1 19 = .ok (.ireturn, 1) := by decide +kernel
theorem d_D_parametersNotZero_0 : decode m_D_parametersNotZero.2.1 0 = .ok (.iconst 0, 1) := by decide +kernel
theorem d_D_parametersNotZero_1 : decode m_D_parametersNotZero.2.1 1 = .ok (.istore_n 1, 1) := by decide +kernel
theorem d_D_parametersNotZero_2 : decode m_D_parametersNotZero.2.1 2 = .ok (.iconst 0, 1) := by decide +kernel
theorem d_D_parametersNotZero_3 : decode m_D_parametersNotZero.2.1 3 = .ok (.istore_n 2, 1) := by decide +kernel
theorem d_D_parametersNotZero_4 : decode m_D_parametersNotZero.2.1 4 = .ok (.iload_n 2, 1) := by decide +kernel
theorem d_D_parametersNotZero_5 : decode m_D_parametersNotZero.2.1 5 = .ok (.bipush 8, 2) := by decide +kernel
theorem d_D_parametersNotZero_7 : decode m_D_parametersNotZero.2.1 7 = .ok (.if_icmp .ge 21, 3) := by decide +kernel
theorem d_D_parametersNotZero_10 : decode m_D_parametersNotZero.2.1 10 = .ok (.aload_n 0, 1) := by decide +kernel
theorem d_D_parametersNotZero_11 : decode m_D_parametersNotZero.2.1 11 = .ok (.getfield 37, 3) := by decide +kernel
theorem d_D_parametersNotZero_14 : decode m_D_parametersNotZero.2.1 14 = .ok (.iload_n 2, 1) := by decide +kernel
theorem d_D_parametersNotZero_15 : decode m_D_parametersNotZero.2.1 15 = .ok (.iaload, 1) := by decide +kernel
theorem d_D_parametersNotZero_16 : decode m_D_parametersNotZero.2.1 16 = .ok (.ifCond .eq 6, 3) := by decide +kernel
theorem d_D_parametersNotZero_19 : decode m_D_parametersNotZero.2.1 19 = .ok (.iinc 1 1, 3) := by decide +kernel
theorem d_D_parametersNotZero_22 : decode m_D_parametersNotZero.2.1 22 = .ok (.iinc 2 1, 3) := by decide +kernel
theorem d_D_parametersNotZero_25 : decode m_D_parametersNotZero.2.1 25 = .ok (.goto (-21), 3) := by decide +kernel
theorem d_D_parametersNotZero_28 : decode m_D_parametersNotZero.2.1 28 = .ok (.iload_n 1, 1) := by decide +kernel
theorem d_D_parametersNotZero_29 : decode m_D_parametersNotZero.2.1 29 = .ok (.ireturn, 1) := by decide +kernel
theorem d_D_perform_0 : decode m_D_perform.2.1 0 = .ok (.aload_n 1, 1) := by decide +kernel
theorem d_D_perform_1 : decode m_D_perform.2.1 1 = .ok (.invokevirtual 134, 3) := by decide +kernel
theorem d_D_perform_4 : decode m_D_perform.2.1 4 = .ok (.tableswitch 195 2 11 #[56, 76, 91, 103, 121, 129, 141, 149, 161, 183], 56) := by decide +kernel
theorem d_D_perform_60 : decode m_D_perform.2.1 60 = .ok (.aload_n 0, 1) := by decide +kernel
theorem d_D_perform_61 : decode m_D_perform.2.1 61 = .ok (.aload_n 1, 1) := by decide +kernel
theorem d_D_perform_62 : decode m_D_perform.2.1 62 = .ok (.iconst 1, 1) := by decide +kernel
theorem d_D_perform_63 : decode m_D_perform.2.1 63 = .ok (.invokevirtual 190, 3) := by decide +kernel
theorem d_D_perform_66 : decode m_D_perform.2.1 66 = .ok (.aload_n 1, 1) := by decide +kernel
theorem d_D_perform_67 : decode m_D_perform.2.1 67 = .ok (.iconst 2, 1) := by decide +kernel
theorem d_D_perform_68 : decode m_D_perform.2.1 68 = .ok (.invokevirtual 190, 3) := by decide +kernel
theorem d_D_perform_71 : decode m_D_perform.2.1 71 = .ok (.invokestatic 213, 3) := by decide +kernel
theorem d_D_perform_74 : decode m_D_perform.2.1 74 = .ok (.invokevirtual 238, 3) := by decide +kernel
theorem d_D_perform_77 : decode m_D_perform.2.1 77 = .ok (.goto 122, 3) := by decide +kernel
theorem d_D_perform_80 : decode m_D_perform.2.1 80 = .ok (.aload_n 0, 1) := by decide +kernel
theorem d_D_perform_81 : decode m_D_perform.2.1 81 = .ok (.getfield 26, 3) := by decide +kernel
theorem d_D_perform_84 : decode m_D_perform.2.1 84 = .ok (.aload_n 1, 1) := by decide +kernel
theorem d_D_perform_85 : decode m_D_perform.2.1 85 = .ok (.invokestatic 232, 3) := by decide +kernel
theorem d_D_perform_88 : decode m_D_perform.2.1 88 = .ok (.aload_n 1, 1) := by decide +kernel
theorem d_D_perform_89 : decode m_D_perform.2.1 89 = .ok (.invokevirtual 242, 3) := by decide +kernel
theorem d_D_perform_92 : decode m_D_perform.2.1 92 = .ok (.goto 107, 3) := by decide +kernel
theorem d_D_perform_95 : decode m_D_perform.2.1 95 = .ok (.aload_n 0, 1) := by decide +kernel
theorem d_D_perform_96 : decode m_D_perform.2.1 96 = .ok (.aload_n 1, 1) := by decide +kernel
theorem d_D_perform_97 : decode m_D_perform.2.1 97 = .ok (.iconst 1, 1) := by decide +kernel
theorem d_D_perform_98 : decode m_D_perform.2.1 98 = .ok (.invokevirtual 190, 3) := by decide +kernel
theorem d_D_perform_101 : decode m_D_perform.2.1 101 = .ok (.invokevirtual 246, 3) := by decide +kernel
theorem d_D_perform_104 : decode m_D_perform.2.1 104 = .ok (.goto 95, 3) := by decide +kernel
theorem d_D_perform_107 : decode m_D_perform.2.1 107 = .ok (.aload_n 0, 1) := by decide +kernel
theorem d_D_perform_108 : decode m_D_perform.2.1 108 = .ok (.getfield 26, 3) := by decide +kernel
theorem d_D_perform_111 : decode m_D_perform.2.1 111 = .ok (.aload_n 1, 1) := by decide +kernel
theorem d_D_perform_112 : decode m_D_perform.2.1 112 = .ok (.iconst 1, 1) := by decide +kernel
theorem d_D_perform_113 : decode m_D_perform.2.1 113 = .ok (.invokevirtual 190, 3) := by decide +kernel
theorem d_D_perform_116 : decode m_D_perform.2.1 116 = .ok (.invokestatic 213, 3) := by decide +kernel
theorem d_D_perform_119 : decode m_D_perform.2.1 119 = .ok (.invokevirtual 250, 3) := by decide +kernel
theorem d_D_perform_122 : decode m_D_perform.2.1 122 = .ok (.goto 77, 3) := by decide +kernel
theorem d_D_perform_125 : decode m_D_perform.2.1 125 = .ok (.aload_n 0, 1) := by decide +kernel
theorem d_D_perform_126 : decode m_D_perform.2.1 126 = .ok (.aload_n 1, 1) := by decide +kernel
theorem d_D_perform_127 : decode m_D_perform.2.1 127 = .ok (.invokevirtual 253, 3) := by decide +kernel
theorem d_D_perform_130 : decode m_D_perform.2.1 130 = .ok (.goto 69, 3) := by decide +kernel
theorem d_D_perform_133 : decode m_D_perform.2.1 133 = .ok (.aload_n 0, 1) := by decide +kernel
theorem d_D_perform_134 : decode m_D_perform.2.1 134 = .ok (.aload_n 1, 1) := by decide +kernel
theorem d_D_perform_135 : decode m_D_perform.2.1 135 = .ok (.iconst 1, 1) := by decide +kernel
theorem d_D_perform_136 : decode m_D_perform.2.1 136 = .ok (.invokevirtual 190, 3) := by decide +kernel
theorem d_D_perform_139 : decode m_D_perform.2.1 139 = .ok (.invokevirtual 256, 3) := by decide +kernel
theorem d_D_perform_142 : decode m_D_perform.2.1 142 = .ok (.goto 57, 3) := by decide +kernel
theorem d_D_perform_145 : decode m_D_perform.2.1 145 = .ok (.aload_n 0, 1) := by decide +kernel
theorem d_D_perform_146 : decode m_D_perform.2.1 146 = .ok (.aload_n 1, 1) := by decide +kernel
theorem d_D_perform_147 : decode m_D_perform.2.1 147 = .ok (.invokevirtual 259, 3) := by decide +kernel
theorem d_D_perform_150 : decode m_D_perform.2.1 150 = .ok (.goto 49, 3) := by decide +kernel
theorem d_D_perform_153 : decode m_D_perform.2.1 153 = .ok (.aload_n 0, 1) := by decide +kernel
theorem d_D_perform_154 : decode m_D_perform.2.1 154 = .ok (.aload_n 1, 1) := by decide +kernel
theorem d_D_perform_155 : decode m_D_perform.2.1 155 = .ok (.iconst 1, 1) := by decide +kernel
theorem d_D_perform_156 : decode m_D_perform.2.1 156 = .ok (.invokevirtual 190, 3) := by decide +kernel
theorem d_D_perform_159 : decode m_D_perform.2.1 159 = .ok (.invokevirtual 262, 3) := by decide +kernel
theorem d_D_perform_162 : decode m_D_perform.2.1 162 = .ok (.goto 37, 3) := by decide +kernel
theorem d_D_perform_165 : decode m_D_perform.2.1 165 = .ok (.aload_n 0, 1) := by decide +kernel
theorem d_D_perform_166 : decode m_D_perform.2.1 166 = .ok (.aload_n 1, 1) := by decide +kernel
theorem d_D_perform_167 : decode m_D_perform.2.1 167 = .ok (.iconst 1, 1) := by decide +kernel
theorem d_D_perform_168 : decode m_D_perform.2.1 168 = .ok (.invokevirtual 190, 3) := by decide +kernel
theorem d_D_perform_171 : decode m_D_perform.2.1 171 = .ok (.aload_n 1, 1) := by decide +kernel
theorem d_D_perform_172 : decode m_D_perform.2.1 172 = .ok (.iconst 2, 1) := by decide +kernel
theorem d_D_perform_173 : decode m_D_perform.2.1 173 = .ok (.invokevirtual 190, 3) := by decide +kernel
theorem d_D_perform_176 : decode m_D_perform.2.1 176 = .ok (.aload_n 1, 1) := by decide +kernel
theorem d_D_perform_177 : decode m_D_perform.2.1 177 = .ok (.iconst 3, 1) := by decide +kernel
theorem d_D_perform_178 : decode m_D_perform.2.1 178 = .ok (.invokevirtual 190, 3) := by decide +kernel
theorem d_D_perform_181 : decode m_D_perform.2.1 181 = .ok (.invokevirtual 265, 3) := by decide +kernel
theorem d_D_perform_184 : decode m_D_perform.2.1 184 = .ok (.goto 15, 3) := by decide +kernel
theorem d_D_perform_187 : decode m_D_perform.2.1 187 = .ok (.aload_n 0, 1) := by decide +kernel
theorem d_D_perform_188 : decode m_D_perform.2.1 188 = .ok (.aload_n 1, 1) := by decide +kernel
theorem d_D_perform_189 : decode m_D_perform.2.1 189 = .ok (.iconst 1, 1) := by decide +kernel
theorem d_D_perform_190 : decode m_D_perform.2.1 190 = .ok (.invokevirtual 190, 3) := by decide +kernel
theorem d_D_perform_193 : decode m_D_perform.2.1 193 = .ok (.invokevirtual 269, 3) := by decide +kernel
theorem d_D_perform_196 : decode m_D_perform.2.1 196 = .ok (.goto 3, 3) := by decide +kernel
theorem d_D_perform_199 : decode m_D_perform.2.1 199 = .ok (.return_, 1) := by decide +kernel
theorem d_D_planned_0 : decode m_D_planned.2.1 0 = .ok (.aload_n 0, 1) := by decide +kernel
theorem d_D_planned_1 : decode m_D_planned.2.1 1 = .ok (.getfield 26, 3) := by decide +kernel
theorem d_D_planned_4 : decode m_D_planned.2.1 4 = .ok (.iload_n 1, 1) := by decide +kernel
theorem d_D_planned_5 : decode m_D_planned.2.1 5 = .ok (.invokevirtual 125, 3) := by decide +kernel
theorem d_D_planned_8 : decode m_D_planned.2.1 8 = .ok (.ifCond .eq 15, 3) := by decide +kernel
theorem d_D_planned_11 : decode m_D_planned.2.1 11 = .ok (.aload_n 0, 1) := by decide +kernel
theorem d_D_planned_12 : decode m_D_planned.2.1 12 = .ok (.getfield 26, 3) := by decide +kernel
theorem d_D_planned_15 : decode m_D_planned.2.1 15 = .ok (.getfield 128, 3) := by decide +kernel
theorem d_D_planned_18 : decode m_D_planned.2.1 18 = .ok (.iload_n 1, 1) := by decide +kernel
theorem d_D_planned_19 : decode m_D_planned.2.1 19 = .ok (.iaload, 1) := by decide +kernel
theorem d_D_planned_20 : decode m_D_planned.2.1 20 = .ok (.goto 6, 3) := by decide +kernel
theorem d_D_planned_23 : decode m_D_planned.2.1 23 = .ok (.sipush (-1000), 3) := by decide +kernel
theorem d_D_planned_26 : decode m_D_planned.2.1 26 = .ok (.ireturn, 1) := by decide +kernel
theorem d_D_plannedService_0 : decode m_D_plannedService.2.1 0 = .ok (.aload_n 0, 1) := by decide +kernel
theorem d_D_plannedService_1 : decode m_D_plannedService.2.1 1 = .ok (.getfield 26, 3) := by decide +kernel
theorem d_D_plannedService_4 : decode m_D_plannedService.2.1 4 = .ok (.iload_n 1, 1) := by decide +kernel
theorem d_D_plannedService_5 : decode m_D_plannedService.2.1 5 = .ok (.invokevirtual 125, 3) := by decide +kernel
theorem d_D_plannedService_8 : decode m_D_plannedService.2.1 8 = .ok (.ifCond .eq 18, 3) := by decide +kernel
theorem d_D_plannedService_11 : decode m_D_plannedService.2.1 11 = .ok (.aload_n 0, 1) := by decide +kernel
theorem d_D_plannedService_12 : decode m_D_plannedService.2.1 12 = .ok (.getfield 26, 3) := by decide +kernel
theorem d_D_plannedService_15 : decode m_D_plannedService.2.1 15 = .ok (.getfield 131, 3) := by decide +kernel
theorem d_D_plannedService_18 : decode m_D_plannedService.2.1 18 = .ok (.iload_n 1, 1) := by decide +kernel
theorem d_D_plannedService_19 : decode m_D_plannedService.2.1 19 = .ok (.aaload, 1) := by decide +kernel
theorem d_D_plannedService_20 : decode m_D_plannedService.2.1 20 = .ok (.invokevirtual 134, 3) := by decide +kernel
theorem d_D_plannedService_23 : decode m_D_plannedService.2.1 23 = .ok (.goto 6, 3) := by decide +kernel
theorem d_D_plannedService_26 : decode m_D_plannedService.2.1 26 = .ok (.sipush (-1000), 3) := by decide +kernel
theorem d_D_plannedService_29 : decode m_D_plannedService.2.1 29 = .ok (.ireturn, 1) := by decide +kernel
theorem d_D_refusalCode_0 : decode m_D_refusalCode.2.1 0 = .ok (.aload_n 1, 1) := by decide +kernel
theorem d_D_refusalCode_1 : decode m_D_refusalCode.2.1 1 = .ok (.invokevirtual 134, 3) := by decide +kernel
theorem d_D_refusalCode_4 : decode m_D_refusalCode.2.1 4 = .ok (.istore_n 2, 1) := by decide +kernel
theorem d_D_refusalCode_5 : decode m_D_refusalCode.2.1 5 = .ok (.aload_n 0, 1) := by decide +kernel
theorem d_D_refusalCode_6 : decode m_D_refusalCode.2.1 6 = .ok (.getfield 146, 3) := by decide +kernel
theorem d_D_refusalCode_9 : decode m_D_refusalCode.2.1 9 = .ok (.ifCond .eq 12, 3) := by decide +kernel
theorem d_D_refusalCode_12 : decode m_D_refusalCode.2.1 12 = .ok (.iload_n 2, 1) := by decide +kernel
theorem d_D_refusalCode_13 : decode m_D_refusalCode.2.1 13 = .ok (.invokestatic 226, 3) := by decide +kernel
theorem d_D_refusalCode_16 : decode m_D_refusalCode.2.1 16 = .ok (.ifCond .ne 5, 3) := by decide +kernel
theorem d_D_refusalCode_19 : decode m_D_refusalCode.2.1 19 = .ok (.iconst 4, 1) := by decide +kernel
theorem d_D_refusalCode_20 : decode m_D_refusalCode.2.1 20 = .ok (.ireturn, 1) := by decide +kernel
theorem d_D_refusalCode_21 : decode m_D_refusalCode.2.1 21 = .ok (.iload_n 2, 1) := by decide +kernel
theorem d_D_refusalCode_22 : decode m_D_refusalCode.2.1 22 = .ok (.iconst 3, 1) := by decide +kernel
theorem d_D_refusalCode_23 : decode m_D_refusalCode.2.1 23 = .ok (.if_icmp .ne 15, 3) := by decide +kernel
theorem d_D_refusalCode_26 : decode m_D_refusalCode.2.1 26 = .ok (.aload_n 0, 1) := by decide +kernel
theorem d_D_refusalCode_27 : decode m_D_refusalCode.2.1 27 = .ok (.getfield 26, 3) := by decide +kernel
theorem d_D_refusalCode_30 : decode m_D_refusalCode.2.1 30 = .ok (.invokevirtual 229, 3) := by decide +kernel
theorem d_D_refusalCode_33 : decode m_D_refusalCode.2.1 33 = .ok (.ifCond .eq 5, 3) := by decide +kernel
theorem d_D_refusalCode_36 : decode m_D_refusalCode.2.1 36 = .ok (.iconst 5, 1) := by decide +kernel
theorem d_D_refusalCode_37 : decode m_D_refusalCode.2.1 37 = .ok (.ireturn, 1) := by decide +kernel
theorem d_D_refusalCode_38 : decode m_D_refusalCode.2.1 38 = .ok (.iload_n 2, 1) := by decide +kernel
theorem d_D_refusalCode_39 : decode m_D_refusalCode.2.1 39 = .ok (.iconst 3, 1) := by decide +kernel
theorem d_D_refusalCode_40 : decode m_D_refusalCode.2.1 40 = .ok (.if_icmp .ne 17, 3) := by decide +kernel
theorem d_D_refusalCode_43 : decode m_D_refusalCode.2.1 43 = .ok (.aload_n 1, 1) := by decide +kernel
theorem d_D_refusalCode_44 : decode m_D_refusalCode.2.1 44 = .ok (.invokestatic 232, 3) := by decide +kernel
theorem d_D_refusalCode_47 : decode m_D_refusalCode.2.1 47 = .ok (.aload_n 0, 1) := by decide +kernel
theorem d_D_refusalCode_48 : decode m_D_refusalCode.2.1 48 = .ok (.getfield 67, 3) := by decide +kernel
theorem d_D_refusalCode_51 : decode m_D_refusalCode.2.1 51 = .ok (.if_icmp .gt 6, 3) := by decide +kernel
theorem d_D_refusalCode_54 : decode m_D_refusalCode.2.1 54 = .ok (.bipush 6, 2) := by decide +kernel
theorem d_D_refusalCode_56 : decode m_D_refusalCode.2.1 56 = .ok (.ireturn, 1) := by decide +kernel
theorem d_D_refusalCode_57 : decode m_D_refusalCode.2.1 57 = .ok (.iload_n 2, 1) := by decide +kernel
theorem d_D_refusalCode_58 : decode m_D_refusalCode.2.1 58 = .ok (.iconst 5, 1) := by decide +kernel
theorem d_D_refusalCode_59 : decode m_D_refusalCode.2.1 59 = .ok (.if_icmp .ne 28, 3) := by decide +kernel
theorem d_D_refusalCode_62 : decode m_D_refusalCode.2.1 62 = .ok (.aload_n 0, 1) := by decide +kernel
theorem d_D_refusalCode_63 : decode m_D_refusalCode.2.1 63 = .ok (.getfield 26, 3) := by decide +kernel
theorem d_D_refusalCode_66 : decode m_D_refusalCode.2.1 66 = .ok (.aload_n 1, 1) := by decide +kernel
theorem d_D_refusalCode_67 : decode m_D_refusalCode.2.1 67 = .ok (.iconst 1, 1) := by decide +kernel
theorem d_D_refusalCode_68 : decode m_D_refusalCode.2.1 68 = .ok (.invokevirtual 190, 3) := by decide +kernel
theorem d_D_refusalCode_71 : decode m_D_refusalCode.2.1 71 = .ok (.invokestatic 213, 3) := by decide +kernel
theorem d_D_refusalCode_74 : decode m_D_refusalCode.2.1 74 = .ok (.aload_n 0, 1) := by decide +kernel
theorem d_D_refusalCode_75 : decode m_D_refusalCode.2.1 75 = .ok (.getfield 67, 3) := by decide +kernel
theorem d_D_refusalCode_78 : decode m_D_refusalCode.2.1 78 = .ok (.invokevirtual 235, 3) := by decide +kernel
theorem d_D_refusalCode_81 : decode m_D_refusalCode.2.1 81 = .ok (.ifCond .ne 6, 3) := by decide +kernel
theorem d_D_refusalCode_84 : decode m_D_refusalCode.2.1 84 = .ok (.bipush 6, 2) := by decide +kernel
theorem d_D_refusalCode_86 : decode m_D_refusalCode.2.1 86 = .ok (.ireturn, 1) := by decide +kernel
theorem d_D_refusalCode_87 : decode m_D_refusalCode.2.1 87 = .ok (.iconst 0, 1) := by decide +kernel
theorem d_D_refusalCode_88 : decode m_D_refusalCode.2.1 88 = .ok (.ireturn, 1) := by decide +kernel
theorem d_D_report_0 : decode m_D_report.2.1 0 = .ok (.aload_n 0, 1) := by decide +kernel
theorem d_D_report_1 : decode m_D_report.2.1 1 = .ok (.getfield 33, 3) := by decide +kernel
theorem d_D_report_4 : decode m_D_report.2.1 4 = .ok (.invokevirtual 100, 3) := by decide +kernel
theorem d_D_report_7 : decode m_D_report.2.1 7 = .ok (.ifCond .eq 7, 3) := by decide +kernel
theorem d_D_report_10 : decode m_D_report.2.1 10 = .ok (.sipush (-1000), 3) := by decide +kernel
theorem d_D_report_13 : decode m_D_report.2.1 13 = .ok (.ireturn, 1) := by decide +kernel
theorem d_D_report_14 : decode m_D_report.2.1 14 = .ok (.iload_n 1, 1) := by decide +kernel
theorem d_D_report_15 : decode m_D_report.2.1 15 = .ok (.tableswitch 61 0 3 #[29, 37, 45, 53], 29) := by decide +kernel
theorem d_D_report_44 : decode m_D_report.2.1 44 = .ok (.aload_n 0, 1) := by decide +kernel
theorem d_D_report_45 : decode m_D_report.2.1 45 = .ok (.getfield 33, 3) := by decide +kernel
theorem d_D_report_48 : decode m_D_report.2.1 48 = .ok (.invokevirtual 103, 3) := by decide +kernel
theorem d_D_report_51 : decode m_D_report.2.1 51 = .ok (.ireturn, 1) := by decide +kernel
theorem d_D_report_52 : decode m_D_report.2.1 52 = .ok (.aload_n 0, 1) := by decide +kernel
theorem d_D_report_53 : decode m_D_report.2.1 53 = .ok (.getfield 33, 3) := by decide +kernel
theorem d_D_report_56 : decode m_D_report.2.1 56 = .ok (.invokevirtual 107, 3) := by decide +kernel
theorem d_D_report_59 : decode m_D_report.2.1 59 = .ok (.ireturn, 1) := by decide +kernel
theorem d_D_report_60 : decode m_D_report.2.1 60 = .ok (.aload_n 0, 1) := by decide +kernel
theorem d_D_report_61 : decode m_D_report.2.1 61 = .ok (.getfield 33, 3) := by decide +kernel
theorem d_D_report_64 : decode m_D_report.2.1 64 = .ok (.invokevirtual 110, 3) := by decide +kernel
theorem d_D_report_67 : decode m_D_report.2.1 67 = .ok (.ireturn, 1) := by decide +kernel
theorem d_D_report_68 : decode m_D_report.2.1 68 = .ok (.aload_n 0, 1) := by decide +kernel
theorem d_D_report_69 : decode m_D_report.2.1 69 = .ok (.getfield 33, 3) := by decide +kernel
theorem d_D_report_72 : decode m_D_report.2.1 72 = .ok (.invokevirtual 113, 3) := by decide +kernel
theorem d_D_report_75 : decode m_D_report.2.1 75 = .ok (.ireturn, 1) := by decide +kernel
theorem d_D_report_76 : decode m_D_report.2.1 76 = .ok (.sipush (-1000), 3) := by decide +kernel
theorem d_D_report_79 : decode m_D_report.2.1 79 = .ok (.ireturn, 1) := by decide +kernel
theorem d_D_sense_0 : decode m_D_sense.2.1 0 = .ok (.iload_n 1, 1) := by decide +kernel
theorem d_D_sense_1 : decode m_D_sense.2.1 1 = .ok (.invokestatic 122, 3) := by decide +kernel
theorem d_D_sense_4 : decode m_D_sense.2.1 4 = .ok (.ifCond .eq 15, 3) := by decide +kernel
theorem d_D_sense_7 : decode m_D_sense.2.1 7 = .ok (.iload_n 2, 1) := by decide +kernel
theorem d_D_sense_8 : decode m_D_sense.2.1 8 = .ok (.bipush (-128), 2) := by decide +kernel
theorem d_D_sense_10 : decode m_D_sense.2.1 10 = .ok (.if_icmp .lt 9, 3) := by decide +kernel
theorem d_D_sense_13 : decode m_D_sense.2.1 13 = .ok (.iload_n 2, 1) := by decide +kernel
theorem d_D_sense_14 : decode m_D_sense.2.1 14 = .ok (.bipush 127, 2) := by decide +kernel
theorem d_D_sense_16 : decode m_D_sense.2.1 16 = .ok (.if_icmp .le 7, 3) := by decide +kernel
theorem d_D_sense_19 : decode m_D_sense.2.1 19 = .ok (.sipush (-1000), 3) := by decide +kernel
theorem d_D_sense_22 : decode m_D_sense.2.1 22 = .ok (.ireturn, 1) := by decide +kernel
theorem d_D_sense_23 : decode m_D_sense.2.1 23 = .ok (.aload_n 0, 1) := by decide +kernel
theorem d_D_sense_24 : decode m_D_sense.2.1 24 = .ok (.getfield 37, 3) := by decide +kernel
theorem d_D_sense_27 : decode m_D_sense.2.1 27 = .ok (.iload_n 1, 1) := by decide +kernel
theorem d_D_sense_28 : decode m_D_sense.2.1 28 = .ok (.iaload, 1) := by decide +kernel
theorem d_D_sense_29 : decode m_D_sense.2.1 29 = .ok (.istore_n 3, 1) := by decide +kernel
theorem d_D_sense_30 : decode m_D_sense.2.1 30 = .ok (.aload_n 0, 1) := by decide +kernel
theorem d_D_sense_31 : decode m_D_sense.2.1 31 = .ok (.getfield 37, 3) := by decide +kernel
theorem d_D_sense_34 : decode m_D_sense.2.1 34 = .ok (.iload_n 1, 1) := by decide +kernel
theorem d_D_sense_35 : decode m_D_sense.2.1 35 = .ok (.iload_n 2, 1) := by decide +kernel
theorem d_D_sense_36 : decode m_D_sense.2.1 36 = .ok (.iastore, 1) := by decide +kernel
theorem d_D_sense_37 : decode m_D_sense.2.1 37 = .ok (.iload_n 3, 1) := by decide +kernel
theorem d_D_sense_38 : decode m_D_sense.2.1 38 = .ok (.ireturn, 1) := by decide +kernel
theorem d_D_setAction_0 : decode m_D_setAction.2.1 0 = .ok (.aload_n 1, 1) := by decide +kernel
theorem d_D_setAction_1 : decode m_D_setAction.2.1 1 = .ok (.iconst 1, 1) := by decide +kernel
theorem d_D_setAction_2 : decode m_D_setAction.2.1 2 = .ok (.invokevirtual 190, 3) := by decide +kernel
theorem d_D_setAction_5 : decode m_D_setAction.2.1 5 = .ok (.istore_n 2, 1) := by decide +kernel
theorem d_D_setAction_6 : decode m_D_setAction.2.1 6 = .ok (.iload_n 2, 1) := by decide +kernel
theorem d_D_setAction_7 : decode m_D_setAction.2.1 7 = .ok (.invokestatic 143, 3) := by decide +kernel
theorem d_D_setAction_10 : decode m_D_setAction.2.1 10 = .ok (.ifCond .eq 25, 3) := by decide +kernel
theorem d_D_setAction_13 : decode m_D_setAction.2.1 13 = .ok (.aload_n 0, 1) := by decide +kernel
theorem d_D_setAction_14 : decode m_D_setAction.2.1 14 = .ok (.getfield 48, 3) := by decide +kernel
theorem d_D_setAction_17 : decode m_D_setAction.2.1 17 = .ok (.iload_n 2, 1) := by decide +kernel
theorem d_D_setAction_18 : decode m_D_setAction.2.1 18 = .ok (.aaload, 1) := by decide +kernel
theorem d_D_setAction_19 : decode m_D_setAction.2.1 19 = .ok (.aload_n 1, 1) := by decide +kernel
theorem d_D_setAction_20 : decode m_D_setAction.2.1 20 = .ok (.getfield 278, 3) := by decide +kernel
theorem d_D_setAction_23 : decode m_D_setAction.2.1 23 = .ok (.bipush 8, 2) := by decide +kernel
theorem d_D_setAction_25 : decode m_D_setAction.2.1 25 = .ok (.invokestatic 196, 3) := by decide +kernel
theorem d_D_setAction_28 : decode m_D_setAction.2.1 28 = .ok (.aload_n 1, 1) := by decide +kernel
theorem d_D_setAction_29 : decode m_D_setAction.2.1 29 = .ok (.getfield 199, 3) := by decide +kernel
theorem d_D_setAction_32 : decode m_D_setAction.2.1 32 = .ok (.invokevirtual 174, 3) := by decide +kernel
theorem d_D_setAction_35 : decode m_D_setAction.2.1 35 = .ok (.return_, 1) := by decide +kernel
theorem d_D_setList_0 : decode m_D_setList.2.1 0 = .ok (.iload_n 1, 1) := by decide +kernel
theorem d_D_setList_1 : decode m_D_setList.2.1 1 = .ok (.invokestatic 210, 3) := by decide +kernel
theorem d_D_setList_4 : decode m_D_setList.2.1 4 = .ok (.ifCond .eq 23, 3) := by decide +kernel
theorem d_D_setList_7 : decode m_D_setList.2.1 7 = .ok (.aload_n 0, 1) := by decide +kernel
theorem d_D_setList_8 : decode m_D_setList.2.1 8 = .ok (.getfield 54, 3) := by decide +kernel
theorem d_D_setList_11 : decode m_D_setList.2.1 11 = .ok (.iload_n 1, 1) := by decide +kernel
theorem d_D_setList_12 : decode m_D_setList.2.1 12 = .ok (.aaload, 1) := by decide +kernel
theorem d_D_setList_13 : decode m_D_setList.2.1 13 = .ok (.iload_n 2, 1) := by decide +kernel
theorem d_D_setList_14 : decode m_D_setList.2.1 14 = .ok (.putfield 282, 3) := by decide +kernel
theorem d_D_setList_17 : decode m_D_setList.2.1 17 = .ok (.aload_n 0, 1) := by decide +kernel
theorem d_D_setList_18 : decode m_D_setList.2.1 18 = .ok (.getfield 54, 3) := by decide +kernel
theorem d_D_setList_21 : decode m_D_setList.2.1 21 = .ok (.iload_n 1, 1) := by decide +kernel
theorem d_D_setList_22 : decode m_D_setList.2.1 22 = .ok (.aaload, 1) := by decide +kernel
theorem d_D_setList_23 : decode m_D_setList.2.1 23 = .ok (.iload_n 3, 1) := by decide +kernel
theorem d_D_setList_24 : decode m_D_setList.2.1 24 = .ok (.putfield 90, 3) := by decide +kernel
theorem d_D_setList_27 : decode m_D_setList.2.1 27 = .ok (.return_, 1) := by decide +kernel
theorem d_D_setMode_0 : decode m_D_setMode.2.1 0 = .ok (.aload_n 0, 1) := by decide +kernel
theorem d_D_setMode_1 : decode m_D_setMode.2.1 1 = .ok (.iload_n 1, 1) := by decide +kernel
theorem d_D_setMode_2 : decode m_D_setMode.2.1 2 = .ok (.iconst 1, 1) := by decide +kernel
theorem d_D_setMode_3 : decode m_D_setMode.2.1 3 = .ok (.if_icmp .ne 7, 3) := by decide +kernel
theorem d_D_setMode_6 : decode m_D_setMode.2.1 6 = .ok (.iconst 1, 1) := by decide +kernel
theorem d_D_setMode_7 : decode m_D_setMode.2.1 7 = .ok (.goto 4, 3) := by decide +kernel
theorem d_D_setMode_10 : decode m_D_setMode.2.1 10 = .ok (.iconst 0, 1) := by decide +kernel
theorem d_D_setMode_11 : decode m_D_setMode.2.1 11 = .ok (.putfield 146, 3) := by decide +kernel
theorem d_D_setMode_14 : decode m_D_setMode.2.1 14 = .ok (.aload_n 0, 1) := by decide +kernel
theorem d_D_setMode_15 : decode m_D_setMode.2.1 15 = .ok (.getfield 146, 3) := by decide +kernel
theorem d_D_setMode_18 : decode m_D_setMode.2.1 18 = .ok (.ifCond .eq 11, 3) := by decide +kernel
theorem d_D_setMode_21 : decode m_D_setMode.2.1 21 = .ok (.aload_n 0, 1) := by decide +kernel
theorem d_D_setMode_22 : decode m_D_setMode.2.1 22 = .ok (.getfield 26, 3) := by decide +kernel
theorem d_D_setMode_25 : decode m_D_setMode.2.1 25 = .ok (.iconst 0, 1) := by decide +kernel
theorem d_D_setMode_26 : decode m_D_setMode.2.1 26 = .ok (.putfield 72, 3) := by decide +kernel
theorem d_D_setMode_29 : decode m_D_setMode.2.1 29 = .ok (.return_, 1) := by decide +kernel
theorem d_D_setParameter_0 : decode m_D_setParameter.2.1 0 = .ok (.iload_n 1, 1) := by decide +kernel
theorem d_D_setParameter_1 : decode m_D_setParameter.2.1 1 = .ok (.invokestatic 122, 3) := by decide +kernel
theorem d_D_setParameter_4 : decode m_D_setParameter.2.1 4 = .ok (.ifCond .eq 10, 3) := by decide +kernel
theorem d_D_setParameter_7 : decode m_D_setParameter.2.1 7 = .ok (.aload_n 0, 1) := by decide +kernel
theorem d_D_setParameter_8 : decode m_D_setParameter.2.1 8 = .ok (.getfield 37, 3) := by decide +kernel
theorem d_D_setParameter_11 : decode m_D_setParameter.2.1 11 = .ok (.iload_n 1, 1) := by decide +kernel
theorem d_D_setParameter_12 : decode m_D_setParameter.2.1 12 = .ok (.iload_n 2, 1) := by decide +kernel
theorem d_D_setParameter_13 : decode m_D_setParameter.2.1 13 = .ok (.iastore, 1) := by decide +kernel
theorem d_D_setParameter_14 : decode m_D_setParameter.2.1 14 = .ok (.return_, 1) := by decide +kernel
