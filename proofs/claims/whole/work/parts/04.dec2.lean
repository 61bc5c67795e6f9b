theorem d_D_signed_0 : decode m_D_signed.2.1 0 = .ok (.iload_n 0, 1) := by decide +kernel
theorem d_D_signed_1 : decode m_D_signed.2.1 1 = .ok (.sipush 128, 3) := by decide +kernel
theorem d_D_signed_4 : decode m_D_signed.2.1 4 = .ok (.if_icmp .ge 7, 3) := by decide +kernel
theorem d_D_signed_7 : decode m_D_signed.2.1 7 = .ok (.iload_n 0, 1) := by decide +kernel
theorem d_D_signed_8 : decode m_D_signed.2.1 8 = .ok (.goto 8, 3) := by decide +kernel
theorem d_D_signed_11 : decode m_D_signed.2.1 11 = .ok (.iload_n 0, 1) := by decide +kernel
theorem d_D_signed_12 : decode m_D_signed.2.1 12 = .ok (.sipush 256, 3) := by decide +kernel
theorem d_D_signed_15 : decode m_D_signed.2.1 15 = .ok (.isub, 1) := by decide +kernel
theorem d_D_signed_16 : decode m_D_signed.2.1 16 = .ok (.ireturn, 1) := by decide +kernel
theorem d_D_startWatch_0 : decode m_D_startWatch.2.1 0 = .ok (.aload_n 1, 1) := by decide +kernel
theorem d_D_startWatch_1 : decode m_D_startWatch.2.1 1 = .ok (.iconst 1, 1) := by decide +kernel
theorem d_D_startWatch_2 : decode m_D_startWatch.2.1 2 = .ok (.invokevirtual 190, 3) := by decide +kernel
theorem d_D_startWatch_5 : decode m_D_startWatch.2.1 5 = .ok (.istore_n 2, 1) := by decide +kernel
theorem d_D_startWatch_6 : decode m_D_startWatch.2.1 6 = .ok (.iload_n 2, 1) := by decide +kernel
theorem d_D_startWatch_7 : decode m_D_startWatch.2.1 7 = .ok (.invokestatic 137, 3) := by decide +kernel
theorem d_D_startWatch_10 : decode m_D_startWatch.2.1 10 = .ok (.ifCond .eq 13, 3) := by decide +kernel
theorem d_D_startWatch_13 : decode m_D_startWatch.2.1 13 = .ok (.aload_n 0, 1) := by decide +kernel
theorem d_D_startWatch_14 : decode m_D_startWatch.2.1 14 = .ok (.getfield 43, 3) := by decide +kernel
theorem d_D_startWatch_17 : decode m_D_startWatch.2.1 17 = .ok (.iload_n 2, 1) := by decide +kernel
theorem d_D_startWatch_18 : decode m_D_startWatch.2.1 18 = .ok (.aaload, 1) := by decide +kernel
theorem d_D_startWatch_19 : decode m_D_startWatch.2.1 19 = .ok (.aload_n 1, 1) := by decide +kernel
theorem d_D_startWatch_20 : decode m_D_startWatch.2.1 20 = .ok (.invokevirtual 275, 3) := by decide +kernel
theorem d_D_startWatch_23 : decode m_D_startWatch.2.1 23 = .ok (.return_, 1) := by decide +kernel
theorem d_D_steerPlan_0 : decode m_D_steerPlan.2.1 0 = .ok (.iload_n 1, 1) := by decide +kernel
theorem d_D_steerPlan_1 : decode m_D_steerPlan.2.1 1 = .ok (.iconst 2, 1) := by decide +kernel
theorem d_D_steerPlan_2 : decode m_D_steerPlan.2.1 2 = .ok (.if_icmp .ne 13, 3) := by decide +kernel
theorem d_D_steerPlan_5 : decode m_D_steerPlan.2.1 5 = .ok (.aload_n 0, 1) := by decide +kernel
theorem d_D_steerPlan_6 : decode m_D_steerPlan.2.1 6 = .ok (.getfield 26, 3) := by decide +kernel
theorem d_D_steerPlan_9 : decode m_D_steerPlan.2.1 9 = .ok (.invokevirtual 272, 3) := by decide +kernel
theorem d_D_steerPlan_12 : decode m_D_steerPlan.2.1 12 = .ok (.goto 20, 3) := by decide +kernel
theorem d_D_steerPlan_15 : decode m_D_steerPlan.2.1 15 = .ok (.aload_n 0, 1) := by decide +kernel
theorem d_D_steerPlan_16 : decode m_D_steerPlan.2.1 16 = .ok (.getfield 26, 3) := by decide +kernel
theorem d_D_steerPlan_19 : decode m_D_steerPlan.2.1 19 = .ok (.iload_n 1, 1) := by decide +kernel
theorem d_D_steerPlan_20 : decode m_D_steerPlan.2.1 20 = .ok (.iconst 1, 1) := by decide +kernel
theorem d_D_steerPlan_21 : decode m_D_steerPlan.2.1 21 = .ok (.if_icmp .ne 7, 3) := by decide +kernel
theorem d_D_steerPlan_24 : decode m_D_steerPlan.2.1 24 = .ok (.iconst 1, 1) := by decide +kernel
theorem d_D_steerPlan_25 : decode m_D_steerPlan.2.1 25 = .ok (.goto 4, 3) := by decide +kernel
theorem d_D_steerPlan_28 : decode m_D_steerPlan.2.1 28 = .ok (.iconst 0, 1) := by decide +kernel
theorem d_D_steerPlan_29 : decode m_D_steerPlan.2.1 29 = .ok (.putfield 72, 3) := by decide +kernel
theorem d_D_steerPlan_32 : decode m_D_steerPlan.2.1 32 = .ok (.return_, 1) := by decide +kernel
theorem d_D_stopWatch_0 : decode m_D_stopWatch.2.1 0 = .ok (.iload_n 1, 1) := by decide +kernel
theorem d_D_stopWatch_1 : decode m_D_stopWatch.2.1 1 = .ok (.invokestatic 137, 3) := by decide +kernel
theorem d_D_stopWatch_4 : decode m_D_stopWatch.2.1 4 = .ok (.ifCond .eq 13, 3) := by decide +kernel
theorem d_D_stopWatch_7 : decode m_D_stopWatch.2.1 7 = .ok (.aload_n 0, 1) := by decide +kernel
theorem d_D_stopWatch_8 : decode m_D_stopWatch.2.1 8 = .ok (.getfield 43, 3) := by decide +kernel
theorem d_D_stopWatch_11 : decode m_D_stopWatch.2.1 11 = .ok (.iload_n 1, 1) := by decide +kernel
theorem d_D_stopWatch_12 : decode m_D_stopWatch.2.1 12 = .ok (.aaload, 1) := by decide +kernel
theorem d_D_stopWatch_13 : decode m_D_stopWatch.2.1 13 = .ok (.iconst 0, 1) := by decide +kernel
theorem d_D_stopWatch_14 : decode m_D_stopWatch.2.1 14 = .ok (.putfield 79, 3) := by decide +kernel
theorem d_D_stopWatch_17 : decode m_D_stopWatch.2.1 17 = .ok (.return_, 1) := by decide +kernel
theorem d_D_sumOf_0 : decode m_D_sumOf.2.1 0 = .ok (.iconst 0, 1) := by decide +kernel
theorem d_D_sumOf_1 : decode m_D_sumOf.2.1 1 = .ok (.istore_n 2, 1) := by decide +kernel
theorem d_D_sumOf_2 : decode m_D_sumOf.2.1 2 = .ok (.iconst 0, 1) := by decide +kernel
theorem d_D_sumOf_3 : decode m_D_sumOf.2.1 3 = .ok (.istore_n 3, 1) := by decide +kernel
theorem d_D_sumOf_4 : decode m_D_sumOf.2.1 4 = .ok (.iload_n 3, 1) := by decide +kernel
theorem d_D_sumOf_5 : decode m_D_sumOf.2.1 5 = .ok (.bipush 8, 2) := by decide +kernel
theorem d_D_sumOf_7 : decode m_D_sumOf.2.1 7 = .ok (.if_icmp .ge 27, 3) := by decide +kernel
theorem d_D_sumOf_10 : decode m_D_sumOf.2.1 10 = .ok (.iload_n 1, 1) := by decide +kernel
theorem d_D_sumOf_11 : decode m_D_sumOf.2.1 11 = .ok (.iload_n 3, 1) := by decide +kernel
theorem d_D_sumOf_12 : decode m_D_sumOf.2.1 12 = .ok (.ishr, 1) := by decide +kernel
theorem d_D_sumOf_13 : decode m_D_sumOf.2.1 13 = .ok (.iconst 1, 1) := by decide +kernel
theorem d_D_sumOf_14 : decode m_D_sumOf.2.1 14 = .ok (.iand, 1) := by decide +kernel
theorem d_D_sumOf_15 : decode m_D_sumOf.2.1 15 = .ok (.iconst 1, 1) := by decide +kernel
theorem d_D_sumOf_16 : decode m_D_sumOf.2.1 16 = .ok (.if_icmp .ne 12, 3) := by decide +kernel
theorem d_D_sumOf_19 : decode m_D_sumOf.2.1 19 = .ok (.iload_n 2, 1) := by decide +kernel
theorem d_D_sumOf_20 : decode m_D_sumOf.2.1 20 = .ok (.aload_n 0, 1) := by decide +kernel
theorem d_D_sumOf_21 : decode m_D_sumOf.2.1 21 = .ok (.getfield 37, 3) := by decide +kernel
theorem d_D_sumOf_24 : decode m_D_sumOf.2.1 24 = .ok (.iload_n 3, 1) := by decide +kernel
theorem d_D_sumOf_25 : decode m_D_sumOf.2.1 25 = .ok (.iaload, 1) := by decide +kernel
theorem d_D_sumOf_26 : decode m_D_sumOf.2.1 26 = .ok (.iadd, 1) := by decide +kernel
theorem d_D_sumOf_27 : decode m_D_sumOf.2.1 27 = .ok (.istore_n 2, 1) := by decide +kernel
theorem d_D_sumOf_28 : decode m_D_sumOf.2.1 28 = .ok (.iinc 3 1, 3) := by decide +kernel
theorem d_D_sumOf_31 : decode m_D_sumOf.2.1 31 = .ok (.goto (-27), 3) := by decide +kernel
theorem d_D_sumOf_34 : decode m_D_sumOf.2.1 34 = .ok (.iload_n 2, 1) := by decide +kernel
theorem d_D_sumOf_35 : decode m_D_sumOf.2.1 35 = .ok (.ireturn, 1) := by decide +kernel
theorem d_D_take_0 : decode m_D_take.2.1 0 = .ok (.aload_n 0, 1) := by decide +kernel
theorem d_D_take_1 : decode m_D_take.2.1 1 = .ok (.getfield 33, 3) := by decide +kernel
theorem d_D_take_4 : decode m_D_take.2.1 4 = .ok (.invokevirtual 100, 3) := by decide +kernel
theorem d_D_take_7 : decode m_D_take.2.1 7 = .ok (.ifCond .eq 7, 3) := by decide +kernel
theorem d_D_take_10 : decode m_D_take.2.1 10 = .ok (.sipush (-1000), 3) := by decide +kernel
theorem d_D_take_13 : decode m_D_take.2.1 13 = .ok (.ireturn, 1) := by decide +kernel
theorem d_D_take_14 : decode m_D_take.2.1 14 = .ok (.aload_n 0, 1) := by decide +kernel
theorem d_D_take_15 : decode m_D_take.2.1 15 = .ok (.getfield 33, 3) := by decide +kernel
theorem d_D_take_18 : decode m_D_take.2.1 18 = .ok (.invokevirtual 116, 3) := by decide +kernel
theorem d_D_take_21 : decode m_D_take.2.1 21 = .ok (.aload_n 0, 1) := by decide +kernel
theorem d_D_take_22 : decode m_D_take.2.1 22 = .ok (.getfield 33, 3) := by decide +kernel
theorem d_D_take_25 : decode m_D_take.2.1 25 = .ok (.getfield 119, 3) := by decide +kernel
theorem d_D_take_28 : decode m_D_take.2.1 28 = .ok (.ireturn, 1) := by decide +kernel
theorem d_D_tick_0 : decode m_D_tick.2.1 0 = .ok (.aload_n 0, 1) := by decide +kernel
theorem d_D_tick_1 : decode m_D_tick.2.1 1 = .ok (.getfield 67, 3) := by decide +kernel
theorem d_D_tick_4 : decode m_D_tick.2.1 4 = .ok (.ldc 71, 2) := by decide +kernel
theorem d_D_tick_6 : decode m_D_tick.2.1 6 = .ok (.if_icmp .lt 7, 3) := by decide +kernel
theorem d_D_tick_9 : decode m_D_tick.2.1 9 = .ok (.sipush (-1000), 3) := by decide +kernel
theorem d_D_tick_12 : decode m_D_tick.2.1 12 = .ok (.ireturn, 1) := by decide +kernel
theorem d_D_tick_13 : decode m_D_tick.2.1 13 = .ok (.aload_n 0, 1) := by decide +kernel
theorem d_D_tick_14 : decode m_D_tick.2.1 14 = .ok (.dup, 1) := by decide +kernel
theorem d_D_tick_15 : decode m_D_tick.2.1 15 = .ok (.getfield 67, 3) := by decide +kernel
theorem d_D_tick_18 : decode m_D_tick.2.1 18 = .ok (.iconst 1, 1) := by decide +kernel
theorem d_D_tick_19 : decode m_D_tick.2.1 19 = .ok (.iadd, 1) := by decide +kernel
theorem d_D_tick_20 : decode m_D_tick.2.1 20 = .ok (.putfield 67, 3) := by decide +kernel
theorem d_D_tick_23 : decode m_D_tick.2.1 23 = .ok (.aload_n 0, 1) := by decide +kernel
theorem d_D_tick_24 : decode m_D_tick.2.1 24 = .ok (.getfield 26, 3) := by decide +kernel
theorem d_D_tick_27 : decode m_D_tick.2.1 27 = .ok (.getfield 72, 3) := by decide +kernel
theorem d_D_tick_30 : decode m_D_tick.2.1 30 = .ok (.ifCond .eq 7, 3) := by decide +kernel
theorem d_D_tick_33 : decode m_D_tick.2.1 33 = .ok (.aload_n 0, 1) := by decide +kernel
theorem d_D_tick_34 : decode m_D_tick.2.1 34 = .ok (.invokevirtual 76, 3) := by decide +kernel
theorem d_D_tick_37 : decode m_D_tick.2.1 37 = .ok (.iconst 0, 1) := by decide +kernel
theorem d_D_tick_38 : decode m_D_tick.2.1 38 = .ok (.istore_n 1, 1) := by decide +kernel
theorem d_D_tick_39 : decode m_D_tick.2.1 39 = .ok (.iload_n 1, 1) := by decide +kernel
theorem d_D_tick_40 : decode m_D_tick.2.1 40 = .ok (.iconst 4, 1) := by decide +kernel
theorem d_D_tick_41 : decode m_D_tick.2.1 41 = .ok (.if_icmp .ge 31, 3) := by decide +kernel
theorem d_D_tick_44 : decode m_D_tick.2.1 44 = .ok (.aload_n 0, 1) := by decide +kernel
theorem d_D_tick_45 : decode m_D_tick.2.1 45 = .ok (.getfield 43, 3) := by decide +kernel
theorem d_D_tick_48 : decode m_D_tick.2.1 48 = .ok (.iload_n 1, 1) := by decide +kernel
theorem d_D_tick_49 : decode m_D_tick.2.1 49 = .ok (.aaload, 1) := by decide +kernel
theorem d_D_tick_50 : decode m_D_tick.2.1 50 = .ok (.getfield 79, 3) := by decide +kernel
theorem d_D_tick_53 : decode m_D_tick.2.1 53 = .ok (.ifCond .eq 13, 3) := by decide +kernel
theorem d_D_tick_56 : decode m_D_tick.2.1 56 = .ok (.aload_n 0, 1) := by decide +kernel
theorem d_D_tick_57 : decode m_D_tick.2.1 57 = .ok (.aload_n 0, 1) := by decide +kernel
theorem d_D_tick_58 : decode m_D_tick.2.1 58 = .ok (.getfield 43, 3) := by decide +kernel
theorem d_D_tick_61 : decode m_D_tick.2.1 61 = .ok (.iload_n 1, 1) := by decide +kernel
theorem d_D_tick_62 : decode m_D_tick.2.1 62 = .ok (.aaload, 1) := by decide +kernel
theorem d_D_tick_63 : decode m_D_tick.2.1 63 = .ok (.invokevirtual 82, 3) := by decide +kernel
theorem d_D_tick_66 : decode m_D_tick.2.1 66 = .ok (.iinc 1 1, 3) := by decide +kernel
theorem d_D_tick_69 : decode m_D_tick.2.1 69 = .ok (.goto (-30), 3) := by decide +kernel
theorem d_D_tick_72 : decode m_D_tick.2.1 72 = .ok (.iconst 0, 1) := by decide +kernel
theorem d_D_tick_73 : decode m_D_tick.2.1 73 = .ok (.istore_n 1, 1) := by decide +kernel
theorem d_D_tick_74 : decode m_D_tick.2.1 74 = .ok (.iload_n 1, 1) := by decide +kernel
theorem d_D_tick_75 : decode m_D_tick.2.1 75 = .ok (.iconst 2, 1) := by decide +kernel
theorem d_D_tick_76 : decode m_D_tick.2.1 76 = .ok (.if_icmp .ge 51, 3) := by decide +kernel
theorem d_D_tick_79 : decode m_D_tick.2.1 79 = .ok (.aload_n 0, 1) := by decide +kernel
theorem d_D_tick_80 : decode m_D_tick.2.1 80 = .ok (.getfield 54, 3) := by decide +kernel
theorem d_D_tick_83 : decode m_D_tick.2.1 83 = .ok (.iload_n 1, 1) := by decide +kernel
theorem d_D_tick_84 : decode m_D_tick.2.1 84 = .ok (.aaload, 1) := by decide +kernel
theorem d_D_tick_85 : decode m_D_tick.2.1 85 = .ok (.aload_n 0, 1) := by decide +kernel
theorem d_D_tick_86 : decode m_D_tick.2.1 86 = .ok (.getfield 67, 3) := by decide +kernel
theorem d_D_tick_89 : decode m_D_tick.2.1 89 = .ok (.invokevirtual 86, 3) := by decide +kernel
theorem d_D_tick_92 : decode m_D_tick.2.1 92 = .ok (.ifCond .eq 29, 3) := by decide +kernel
theorem d_D_tick_95 : decode m_D_tick.2.1 95 = .ok (.aload_n 0, 1) := by decide +kernel
theorem d_D_tick_96 : decode m_D_tick.2.1 96 = .ok (.getfield 33, 3) := by decide +kernel
theorem d_D_tick_99 : decode m_D_tick.2.1 99 = .ok (.iconst 5, 1) := by decide +kernel
theorem d_D_tick_100 : decode m_D_tick.2.1 100 = .ok (.aload_n 0, 1) := by decide +kernel
theorem d_D_tick_101 : decode m_D_tick.2.1 101 = .ok (.getfield 67, 3) := by decide +kernel
theorem d_D_tick_104 : decode m_D_tick.2.1 104 = .ok (.iload_n 1, 1) := by decide +kernel
theorem d_D_tick_105 : decode m_D_tick.2.1 105 = .ok (.aload_n 0, 1) := by decide +kernel
theorem d_D_tick_106 : decode m_D_tick.2.1 106 = .ok (.aload_n 0, 1) := by decide +kernel
theorem d_D_tick_107 : decode m_D_tick.2.1 107 = .ok (.getfield 54, 3) := by decide +kernel
theorem d_D_tick_110 : decode m_D_tick.2.1 110 = .ok (.iload_n 1, 1) := by decide +kernel
theorem d_D_tick_111 : decode m_D_tick.2.1 111 = .ok (.aaload, 1) := by decide +kernel
theorem d_D_tick_112 : decode m_D_tick.2.1 112 = .ok (.getfield 90, 3) := by decide +kernel
theorem d_D_tick_115 : decode m_D_tick.2.1 115 = .ok (.invokevirtual 93, 3) := by decide +kernel
theorem d_D_tick_118 : decode m_D_tick.2.1 118 = .ok (.invokevirtual 96, 3) := by decide +kernel
theorem d_D_tick_121 : decode m_D_tick.2.1 121 = .ok (.iinc 1 1, 3) := by decide +kernel
theorem d_D_tick_124 : decode m_D_tick.2.1 124 = .ok (.goto (-50), 3) := by decide +kernel
theorem d_D_tick_127 : decode m_D_tick.2.1 127 = .ok (.aload_n 0, 1) := by decide +kernel
theorem d_D_tick_128 : decode m_D_tick.2.1 128 = .ok (.getfield 67, 3) := by decide +kernel
theorem d_D_tick_131 : decode m_D_tick.2.1 131 = .ok (.ireturn, 1) := by decide +kernel
theorem d_D_timeOf_0 : decode m_D_timeOf.2.1 0 = .ok (.aload_n 0, 1) := by decide +kernel
theorem d_D_timeOf_1 : decode m_D_timeOf.2.1 1 = .ok (.iconst 1, 1) := by decide +kernel
theorem d_D_timeOf_2 : decode m_D_timeOf.2.1 2 = .ok (.invokevirtual 190, 3) := by decide +kernel
theorem d_D_timeOf_5 : decode m_D_timeOf.2.1 5 = .ok (.sipush 256, 3) := by decide +kernel
theorem d_D_timeOf_8 : decode m_D_timeOf.2.1 8 = .ok (.imul, 1) := by decide +kernel
theorem d_D_timeOf_9 : decode m_D_timeOf.2.1 9 = .ok (.aload_n 0, 1) := by decide +kernel
theorem d_D_timeOf_10 : decode m_D_timeOf.2.1 10 = .ok (.iconst 2, 1) := by decide +kernel
theorem d_D_timeOf_11 : decode m_D_timeOf.2.1 11 = .ok (.invokevirtual 190, 3) := by decide +kernel
theorem d_D_timeOf_14 : decode m_D_timeOf.2.1 14 = .ok (.iadd, 1) := by decide +kernel
theorem d_D_timeOf_15 : decode m_D_timeOf.2.1 15 = .ok (.ireturn, 1) := by decide +kernel
theorem d_D_uplink_0 : decode m_D_uplink.2.1 0 = .ok (.iload_n 1, 1) := by decide +kernel
theorem d_D_uplink_1 : decode m_D_uplink.2.1 1 = .ok (.ifCond .lt 10, 3) := by decide +kernel
theorem d_D_uplink_4 : decode m_D_uplink.2.1 4 = .ok (.iload_n 1, 1) := by decide +kernel
theorem d_D_uplink_5 : decode m_D_uplink.2.1 5 = .ok (.sipush 255, 3) := by decide +kernel
theorem d_D_uplink_8 : decode m_D_uplink.2.1 8 = .ok (.if_icmp .le 7, 3) := by decide +kernel
theorem d_D_uplink_11 : decode m_D_uplink.2.1 11 = .ok (.sipush (-1000), 3) := by decide +kernel
theorem d_D_uplink_14 : decode m_D_uplink.2.1 14 = .ok (.ireturn, 1) := by decide +kernel
theorem d_D_uplink_15 : decode m_D_uplink.2.1 15 = .ok (.aload_n 0, 1) := by decide +kernel
theorem d_D_uplink_16 : decode m_D_uplink.2.1 16 = .ok (.getfield 10, 3) := by decide +kernel
theorem d_D_uplink_19 : decode m_D_uplink.2.1 19 = .ok (.iload_n 1, 1) := by decide +kernel
theorem d_D_uplink_20 : decode m_D_uplink.2.1 20 = .ok (.invokevirtual 59, 3) := by decide +kernel
theorem d_D_uplink_23 : decode m_D_uplink.2.1 23 = .ok (.istore_n 2, 1) := by decide +kernel
theorem d_D_uplink_24 : decode m_D_uplink.2.1 24 = .ok (.iload_n 2, 1) := by decide +kernel
theorem d_D_uplink_25 : decode m_D_uplink.2.1 25 = .ok (.iconst (-1), 1) := by decide +kernel
theorem d_D_uplink_26 : decode m_D_uplink.2.1 26 = .ok (.if_icmp .eq 5, 3) := by decide +kernel
theorem d_D_uplink_29 : decode m_D_uplink.2.1 29 = .ok (.iload_n 2, 1) := by decide +kernel
theorem d_D_uplink_30 : decode m_D_uplink.2.1 30 = .ok (.ireturn, 1) := by decide +kernel
theorem d_D_uplink_31 : decode m_D_uplink.2.1 31 = .ok (.aload_n 0, 1) := by decide +kernel
theorem d_D_uplink_32 : decode m_D_uplink.2.1 32 = .ok (.invokevirtual 63, 3) := by decide +kernel
theorem d_D_uplink_35 : decode m_D_uplink.2.1 35 = .ok (.ifCond .eq 7, 3) := by decide +kernel
theorem d_D_uplink_38 : decode m_D_uplink.2.1 38 = .ok (.iconst 1, 1) := by decide +kernel
theorem d_D_uplink_39 : decode m_D_uplink.2.1 39 = .ok (.goto 4, 3) := by decide +kernel
theorem d_D_uplink_42 : decode m_D_uplink.2.1 42 = .ok (.iconst 2, 1) := by decide +kernel
theorem d_D_uplink_43 : decode m_D_uplink.2.1 43 = .ok (.ireturn, 1) := by decide +kernel
theorem d_D_watch_0 : decode m_D_watch.2.1 0 = .ok (.iload_n 1, 1) := by decide +kernel
theorem d_D_watch_1 : decode m_D_watch.2.1 1 = .ok (.invokestatic 137, 3) := by decide +kernel
theorem d_D_watch_4 : decode m_D_watch.2.1 4 = .ok (.ifCond .ne 7, 3) := by decide +kernel
theorem d_D_watch_7 : decode m_D_watch.2.1 7 = .ok (.sipush (-1000), 3) := by decide +kernel
theorem d_D_watch_10 : decode m_D_watch.2.1 10 = .ok (.ireturn, 1) := by decide +kernel
theorem d_D_watch_11 : decode m_D_watch.2.1 11 = .ok (.aload_n 0, 1) := by decide +kernel
theorem d_D_watch_12 : decode m_D_watch.2.1 12 = .ok (.getfield 43, 3) := by decide +kernel
theorem d_D_watch_15 : decode m_D_watch.2.1 15 = .ok (.iload_n 1, 1) := by decide +kernel
theorem d_D_watch_16 : decode m_D_watch.2.1 16 = .ok (.aaload, 1) := by decide +kernel
theorem d_D_watch_17 : decode m_D_watch.2.1 17 = .ok (.getfield 79, 3) := by decide +kernel
theorem d_D_watch_20 : decode m_D_watch.2.1 20 = .ok (.ifCond .eq 15, 3) := by decide +kernel
theorem d_D_watch_23 : decode m_D_watch.2.1 23 = .ok (.aload_n 0, 1) := by decide +kernel
theorem d_D_watch_24 : decode m_D_watch.2.1 24 = .ok (.getfield 43, 3) := by decide +kernel
theorem d_D_watch_27 : decode m_D_watch.2.1 27 = .ok (.iload_n 1, 1) := by decide +kernel
theorem d_D_watch_28 : decode m_D_watch.2.1 28 = .ok (.aaload, 1) := by decide +kernel
theorem d_D_watch_29 : decode m_D_watch.2.1 29 = .ok (.getfield 140, 3) := by decide +kernel
theorem d_D_watch_32 : decode m_D_watch.2.1 32 = .ok (.goto 4, 3) := by decide +kernel
theorem d_D_watch_35 : decode m_D_watch.2.1 35 = .ok (.iconst (-1), 1) := by decide +kernel
theorem d_D_watch_36 : decode m_D_watch.2.1 36 = .ok (.ireturn, 1) := by decide +kernel
theorem d_D_watchInRange_0 : decode m_D_watchInRange.2.1 0 = .ok (.aload_n 0, 1) := by decide +kernel
theorem d_D_watchInRange_1 : decode m_D_watchInRange.2.1 1 = .ok (.iload_n 1, 1) := by decide +kernel
theorem d_D_watchInRange_2 : decode m_D_watchInRange.2.1 2 = .ok (.iconst 3, 1) := by decide +kernel
theorem d_D_watchInRange_3 : decode m_D_watchInRange.2.1 3 = .ok (.iadd, 1) := by decide +kernel
theorem d_D_watchInRange_4 : decode m_D_watchInRange.2.1 4 = .ok (.invokevirtual 190, 3) := by decide +kernel
theorem d_D_watchInRange_7 : decode m_D_watchInRange.2.1 7 = .ok (.invokestatic 213, 3) := by decide +kernel
theorem d_D_watchInRange_10 : decode m_D_watchInRange.2.1 10 = .ok (.istore_n 2, 1) := by decide +kernel
theorem d_D_watchInRange_11 : decode m_D_watchInRange.2.1 11 = .ok (.aload_n 0, 1) := by decide +kernel
theorem d_D_watchInRange_12 : decode m_D_watchInRange.2.1 12 = .ok (.iload_n 1, 1) := by decide +kernel
theorem d_D_watchInRange_13 : decode m_D_watchInRange.2.1 13 = .ok (.iconst 4, 1) := by decide +kernel
theorem d_D_watchInRange_14 : decode m_D_watchInRange.2.1 14 = .ok (.iadd, 1) := by decide +kernel
theorem d_D_watchInRange_15 : decode m_D_watchInRange.2.1 15 = .ok (.invokevirtual 190, 3) := by decide +kernel
theorem d_D_watchInRange_18 : decode m_D_watchInRange.2.1 18 = .ok (.invokestatic 213, 3) := by decide +kernel
theorem d_D_watchInRange_21 : decode m_D_watchInRange.2.1 21 = .ok (.istore_n 3, 1) := by decide +kernel
theorem d_D_watchInRange_22 : decode m_D_watchInRange.2.1 22 = .ok (.aload_n 0, 1) := by decide +kernel
theorem d_D_watchInRange_23 : decode m_D_watchInRange.2.1 23 = .ok (.iload_n 1, 1) := by decide +kernel
theorem d_D_watchInRange_24 : decode m_D_watchInRange.2.1 24 = .ok (.iconst 5, 1) := by decide +kernel
theorem d_D_watchInRange_25 : decode m_D_watchInRange.2.1 25 = .ok (.iadd, 1) := by decide +kernel
theorem d_D_watchInRange_26 : decode m_D_watchInRange.2.1 26 = .ok (.invokevirtual 190, 3) := by decide +kernel
theorem d_D_watchInRange_29 : decode m_D_watchInRange.2.1 29 = .ok (.istore 4, 2) := by decide +kernel
theorem d_D_watchInRange_31 : decode m_D_watchInRange.2.1 31 = .ok (.aload_n 0, 1) := by decide +kernel
theorem d_D_watchInRange_32 : decode m_D_watchInRange.2.1 32 = .ok (.iload_n 1, 1) := by decide +kernel
theorem d_D_watchInRange_33 : decode m_D_watchInRange.2.1 33 = .ok (.iconst 1, 1) := by decide +kernel
theorem d_D_watchInRange_34 : decode m_D_watchInRange.2.1 34 = .ok (.iadd, 1) := by decide +kernel
theorem d_D_watchInRange_35 : decode m_D_watchInRange.2.1 35 = .ok (.invokevirtual 190, 3) := by decide +kernel
theorem d_D_watchInRange_38 : decode m_D_watchInRange.2.1 38 = .ok (.invokestatic 137, 3) := by decide +kernel
theorem d_D_watchInRange_41 : decode m_D_watchInRange.2.1 41 = .ok (.ifCond .eq 51, 3) := by decide +kernel
theorem d_D_watchInRange_44 : decode m_D_watchInRange.2.1 44 = .ok (.aload_n 0, 1) := by decide +kernel
theorem d_D_watchInRange_45 : decode m_D_watchInRange.2.1 45 = .ok (.iload_n 1, 1) := by decide +kernel
theorem d_D_watchInRange_46 : decode m_D_watchInRange.2.1 46 = .ok (.iconst 2, 1) := by decide +kernel
theorem d_D_watchInRange_47 : decode m_D_watchInRange.2.1 47 = .ok (.iadd, 1) := by decide +kernel
theorem d_D_watchInRange_48 : decode m_D_watchInRange.2.1 48 = .ok (.invokevirtual 190, 3) := by decide +kernel
theorem d_D_watchInRange_51 : decode m_D_watchInRange.2.1 51 = .ok (.invokestatic 122, 3) := by decide +kernel
theorem d_D_watchInRange_54 : decode m_D_watchInRange.2.1 54 = .ok (.ifCond .eq 38, 3) := by decide +kernel
theorem d_D_watchInRange_57 : decode m_D_watchInRange.2.1 57 = .ok (.iload_n 3, 1) := by decide +kernel
theorem d_D_watchInRange_58 : decode m_D_watchInRange.2.1 58 = .ok (.iload_n 2, 1) := by decide +kernel
theorem d_D_watchInRange_59 : decode m_D_watchInRange.2.1 59 = .ok (.if_icmp .lt 33, 3) := by decide +kernel
theorem d_D_watchInRange_62 : decode m_D_watchInRange.2.1 62 = .ok (.iload 4, 2) := by decide +kernel
theorem d_D_watchInRange_64 : decode m_D_watchInRange.2.1 64 = .ok (.iconst 1, 1) := by decide +kernel
theorem d_D_watchInRange_65 : decode m_D_watchInRange.2.1 65 = .ok (.if_icmp .lt 27, 3) := by decide +kernel
theorem d_D_watchInRange_68 : decode m_D_watchInRange.2.1 68 = .ok (.iload 4, 2) := by decide +kernel
theorem d_D_watchInRange_70 : decode m_D_watchInRange.2.1 70 = .ok (.iconst 3, 1) := by decide +kernel
theorem d_D_watchInRange_71 : decode m_D_watchInRange.2.1 71 = .ok (.if_icmp .gt 21, 3) := by decide +kernel
theorem d_D_watchInRange_74 : decode m_D_watchInRange.2.1 74 = .ok (.aload_n 0, 1) := by decide +kernel
theorem d_D_watchInRange_75 : decode m_D_watchInRange.2.1 75 = .ok (.iload_n 1, 1) := by decide +kernel
theorem d_D_watchInRange_76 : decode m_D_watchInRange.2.1 76 = .ok (.bipush 6, 2) := by decide +kernel
theorem d_D_watchInRange_78 : decode m_D_watchInRange.2.1 78 = .ok (.iadd, 1) := by decide +kernel
theorem d_D_watchInRange_79 : decode m_D_watchInRange.2.1 79 = .ok (.invokevirtual 190, 3) := by decide +kernel
theorem d_D_watchInRange_82 : decode m_D_watchInRange.2.1 82 = .ok (.invokestatic 143, 3) := by decide +kernel
theorem d_D_watchInRange_85 : decode m_D_watchInRange.2.1 85 = .ok (.ifCond .eq 7, 3) := by decide +kernel
theorem d_D_watchInRange_88 : decode m_D_watchInRange.2.1 88 = .ok (.iconst 1, 1) := by decide +kernel
theorem d_D_watchInRange_89 : decode m_D_watchInRange.2.1 89 = .ok (.goto 4, 3) := by decide +kernel
theorem d_D_watchInRange_92 : decode m_D_watchInRange.2.1 92 = .ok (.iconst 0, 1) := by decide +kernel
theorem d_D_watchInRange_93 : decode m_D_watchInRange.2.1 93 = .ok (.ireturn, 1) := by decide +kernel
theorem d_Hl_init_0 : decode m_Hl_init.2.1 0 = .ok (.aload_n 0, 1) := by decide +kernel
theorem d_Hl_init_1 : decode m_Hl_init.2.1 1 = .ok (.invokespecial 1, 3) := by decide +kernel
theorem d_Hl_init_4 : decode m_Hl_init.2.1 4 = .ok (.return_, 1) := by decide +kernel
theorem d_Hl_isDue_0 : decode m_Hl_isDue.2.1 0 = .ok (.aload_n 0, 1) := by decide +kernel
theorem d_Hl_isDue_1 : decode m_Hl_isDue.2.1 1 = .ok (.getfield 7, 3) := by decide +kernel
theorem d_Hl_isDue_4 : decode m_Hl_isDue.2.1 4 = .ok (.ifCond .eq 16, 3) := by decide +kernel
theorem d_Hl_isDue_7 : decode m_Hl_isDue.2.1 7 = .ok (.iload_n 1, 1) := by decide +kernel
theorem d_Hl_isDue_8 : decode m_Hl_isDue.2.1 8 = .ok (.aload_n 0, 1) := by decide +kernel
theorem d_Hl_isDue_9 : decode m_Hl_isDue.2.1 9 = .ok (.getfield 7, 3) := by decide +kernel
theorem d_Hl_isDue_12 : decode m_Hl_isDue.2.1 12 = .ok (.irem, 1) := by decide +kernel
theorem d_Hl_isDue_13 : decode m_Hl_isDue.2.1 13 = .ok (.ifCond .ne 7, 3) := by decide +kernel
theorem d_Hl_isDue_16 : decode m_Hl_isDue.2.1 16 = .ok (.iconst 1, 1) := by decide +kernel
theorem d_Hl_isDue_17 : decode m_Hl_isDue.2.1 17 = .ok (.goto 4, 3) := by decide +kernel
theorem d_Hl_isDue_20 : decode m_Hl_isDue.2.1 20 = .ok (.iconst 0, 1) := by decide +kernel
theorem d_Hl_isDue_21 : decode m_Hl_isDue.2.1 21 = .ok (.ireturn, 1) := by decide +kernel
theorem d_Pl_canShift_0 : decode m_Pl_canShift.2.1 0 = .ok (.iconst 0, 1) := by decide +kernel
theorem d_Pl_canShift_1 : decode m_Pl_canShift.2.1 1 = .ok (.istore_n 3, 1) := by decide +kernel
theorem d_Pl_canShift_2 : decode m_Pl_canShift.2.1 2 = .ok (.iload_n 3, 1) := by decide +kernel
theorem d_Pl_canShift_3 : decode m_Pl_canShift.2.1 3 = .ok (.aload_n 0, 1) := by decide +kernel
theorem d_Pl_canShift_4 : decode m_Pl_canShift.2.1 4 = .ok (.getfield 29, 3) := by decide +kernel
theorem d_Pl_canShift_7 : decode m_Pl_canShift.2.1 7 = .ok (.if_icmp .ge 34, 3) := by decide +kernel
theorem d_Pl_canShift_10 : decode m_Pl_canShift.2.1 10 = .ok (.aload_n 0, 1) := by decide +kernel
theorem d_Pl_canShift_11 : decode m_Pl_canShift.2.1 11 = .ok (.getfield 11, 3) := by decide +kernel
theorem d_Pl_canShift_14 : decode m_Pl_canShift.2.1 14 = .ok (.iload_n 3, 1) := by decide +kernel
theorem d_Pl_canShift_15 : decode m_Pl_canShift.2.1 15 = .ok (.iaload, 1) := by decide +kernel
theorem d_Pl_canShift_16 : decode m_Pl_canShift.2.1 16 = .ok (.iload_n 1, 1) := by decide +kernel
theorem d_Pl_canShift_17 : decode m_Pl_canShift.2.1 17 = .ok (.iadd, 1) := by decide +kernel
theorem d_Pl_canShift_18 : decode m_Pl_canShift.2.1 18 = .ok (.istore 4, 2) := by decide +kernel
theorem d_Pl_canShift_20 : decode m_Pl_canShift.2.1 20 = .ok (.iload 4, 2) := by decide +kernel
theorem d_Pl_canShift_22 : decode m_Pl_canShift.2.1 22 = .ok (.iload_n 2, 1) := by decide +kernel
theorem d_Pl_canShift_23 : decode m_Pl_canShift.2.1 23 = .ok (.if_icmp .le 10, 3) := by decide +kernel
theorem d_Pl_canShift_26 : decode m_Pl_canShift.2.1 26 = .ok (.iload 4, 2) := by decide +kernel
theorem d_Pl_canShift_28 : decode m_Pl_canShift.2.1 28 = .ok (.ldc 49, 2) := by decide +kernel
theorem d_Pl_canShift_30 : decode m_Pl_canShift.2.1 30 = .ok (.if_icmp .le 5, 3) := by decide +kernel
theorem d_Pl_canShift_33 : decode m_Pl_canShift.2.1 33 = .ok (.iconst 0, 1) := by decide +kernel
theorem d_Pl_canShift_34 : decode m_Pl_canShift.2.1 34 = .ok (.ireturn, 1) := by decide +kernel
theorem d_Pl_canShift_35 : decode m_Pl_canShift.2.1 35 = .ok (.iinc 3 1, 3) := by decide +kernel
theorem d_Pl_canShift_38 : decode m_Pl_canShift.2.1 38 = .ok (.goto (-36), 3) := by decide +kernel
theorem d_Pl_canShift_41 : decode m_Pl_canShift.2.1 41 = .ok (.iconst 1, 1) := by decide +kernel
theorem d_Pl_canShift_42 : decode m_Pl_canShift.2.1 42 = .ok (.ireturn, 1) := by decide +kernel
theorem d_Pl_clear_0 : decode m_Pl_clear.2.1 0 = .ok (.aload_n 0, 1) := by decide +kernel
theorem d_Pl_clear_1 : decode m_Pl_clear.2.1 1 = .ok (.iconst 0, 1) := by decide +kernel
theorem d_Pl_clear_2 : decode m_Pl_clear.2.1 2 = .ok (.putfield 29, 3) := by decide +kernel
theorem d_Pl_clear_5 : decode m_Pl_clear.2.1 5 = .ok (.return_, 1) := by decide +kernel
theorem d_Pl_has_0 : decode m_Pl_has.2.1 0 = .ok (.iload_n 1, 1) := by decide +kernel
theorem d_Pl_has_1 : decode m_Pl_has.2.1 1 = .ok (.ifCond .lt 15, 3) := by decide +kernel
theorem d_Pl_has_4 : decode m_Pl_has.2.1 4 = .ok (.iload_n 1, 1) := by decide +kernel
theorem d_Pl_has_5 : decode m_Pl_has.2.1 5 = .ok (.aload_n 0, 1) := by decide +kernel
theorem d_Pl_has_6 : decode m_Pl_has.2.1 6 = .ok (.getfield 29, 3) := by decide +kernel
theorem d_Pl_has_9 : decode m_Pl_has.2.1 9 = .ok (.if_icmp .ge 7, 3) := by decide +kernel
theorem d_Pl_has_12 : decode m_Pl_has.2.1 12 = .ok (.iconst 1, 1) := by decide +kernel
theorem d_Pl_has_13 : decode m_Pl_has.2.1 13 = .ok (.goto 4, 3) := by decide +kernel
theorem d_Pl_has_16 : decode m_Pl_has.2.1 16 = .ok (.iconst 0, 1) := by decide +kernel
theorem d_Pl_has_17 : decode m_Pl_has.2.1 17 = .ok (.ireturn, 1) := by decide +kernel
theorem d_Pl_init_0 : decode m_Pl_init.2.1 0 = .ok (.aload_n 0, 1) := by decide +kernel
theorem d_Pl_init_1 : decode m_Pl_init.2.1 1 = .ok (.invokespecial 3, 3) := by decide +kernel
theorem d_Pl_init_4 : decode m_Pl_init.2.1 4 = .ok (.aload_n 0, 1) := by decide +kernel
theorem d_Pl_init_5 : decode m_Pl_init.2.1 5 = .ok (.bipush 6, 2) := by decide +kernel
theorem d_Pl_init_7 : decode m_Pl_init.2.1 7 = .ok (.newarray .int, 2) := by decide +kernel
theorem d_Pl_init_9 : decode m_Pl_init.2.1 9 = .ok (.putfield 11, 3) := by decide +kernel
theorem d_Pl_init_12 : decode m_Pl_init.2.1 12 = .ok (.aload_n 0, 1) := by decide +kernel
theorem d_Pl_init_13 : decode m_Pl_init.2.1 13 = .ok (.bipush 6, 2) := by decide +kernel
theorem d_Pl_init_15 : decode m_Pl_init.2.1 15 = .ok (.anewarray 15, 3) := by decide +kernel
theorem d_Pl_init_18 : decode m_Pl_init.2.1 18 = .ok (.putfield 17, 3) := by decide +kernel
theorem d_Pl_init_21 : decode m_Pl_init.2.1 21 = .ok (.aload_n 0, 1) := by decide +kernel
theorem d_Pl_init_22 : decode m_Pl_init.2.1 22 = .ok (.bipush 6, 2) := by decide +kernel
theorem d_Pl_init_24 : decode m_Pl_init.2.1 24 = .ok (.anewarray 15, 3) := by decide +kernel
theorem d_Pl_init_27 : decode m_Pl_init.2.1 27 = .ok (.putfield 21, 3) := by decide +kernel
theorem d_Pl_init_30 : decode m_Pl_init.2.1 30 = .ok (.aload_n 0, 1) := by decide +kernel
theorem d_Pl_init_31 : decode m_Pl_init.2.1 31 = .ok (.iconst 1, 1) := by decide +kernel
theorem d_Pl_init_32 : decode m_Pl_init.2.1 32 = .ok (.putfield 24, 3) := by decide +kernel
theorem d_Pl_init_35 : decode m_Pl_init.2.1 35 = .ok (.iconst 0, 1) := by decide +kernel
theorem d_Pl_init_36 : decode m_Pl_init.2.1 36 = .ok (.istore_n 1, 1) := by decide +kernel
theorem d_Pl_init_37 : decode m_Pl_init.2.1 37 = .ok (.iload_n 1, 1) := by decide +kernel
theorem d_Pl_init_38 : decode m_Pl_init.2.1 38 = .ok (.bipush 6, 2) := by decide +kernel
theorem d_Pl_init_40 : decode m_Pl_init.2.1 40 = .ok (.if_icmp .ge 35, 3) := by decide +kernel
theorem d_Pl_init_43 : decode m_Pl_init.2.1 43 = .ok (.aload_n 0, 1) := by decide +kernel
theorem d_Pl_init_44 : decode m_Pl_init.2.1 44 = .ok (.getfield 17, 3) := by decide +kernel
theorem d_Pl_init_47 : decode m_Pl_init.2.1 47 = .ok (.iload_n 1, 1) := by decide +kernel
theorem d_Pl_init_48 : decode m_Pl_init.2.1 48 = .ok (.new 15, 3) := by decide +kernel
theorem d_Pl_init_51 : decode m_Pl_init.2.1 51 = .ok (.dup, 1) := by decide +kernel
theorem d_Pl_init_52 : decode m_Pl_init.2.1 52 = .ok (.invokespecial 28, 3) := by decide +kernel
theorem d_Pl_init_55 : decode m_Pl_init.2.1 55 = .ok (.aastore, 1) := by decide +kernel
theorem d_Pl_init_56 : decode m_Pl_init.2.1 56 = .ok (.aload_n 0, 1) := by decide +kernel
theorem d_Pl_init_57 : decode m_Pl_init.2.1 57 = .ok (.getfield 21, 3) := by decide +kernel
theorem d_Pl_init_60 : decode m_Pl_init.2.1 60 = .ok (.iload_n 1, 1) := by decide +kernel
theorem d_Pl_init_61 : decode m_Pl_init.2.1 61 = .ok (.new 15, 3) := by decide +kernel
theorem d_Pl_init_64 : decode m_Pl_init.2.1 64 = .ok (.dup, 1) := by decide +kernel
theorem d_Pl_init_65 : decode m_Pl_init.2.1 65 = .ok (.invokespecial 28, 3) := by decide +kernel
theorem d_Pl_init_68 : decode m_Pl_init.2.1 68 = .ok (.aastore, 1) := by decide +kernel
theorem d_Pl_init_69 : decode m_Pl_init.2.1 69 = .ok (.iinc 1 1, 3) := by decide +kernel
theorem d_Pl_init_72 : decode m_Pl_init.2.1 72 = .ok (.goto (-35), 3) := by decide +kernel
theorem d_Pl_init_75 : decode m_Pl_init.2.1 75 = .ok (.return_, 1) := by decide +kernel
theorem d_Pl_isFull_0 : decode m_Pl_isFull.2.1 0 = .ok (.aload_n 0, 1) := by decide +kernel
theorem d_Pl_isFull_1 : decode m_Pl_isFull.2.1 1 = .ok (.getfield 29, 3) := by decide +kernel
theorem d_Pl_isFull_4 : decode m_Pl_isFull.2.1 4 = .ok (.bipush 6, 2) := by decide +kernel
theorem d_Pl_isFull_6 : decode m_Pl_isFull.2.1 6 = .ok (.if_icmp .lt 7, 3) := by decide +kernel
theorem d_Pl_isFull_9 : decode m_Pl_isFull.2.1 9 = .ok (.iconst 1, 1) := by decide +kernel
theorem d_Pl_isFull_10 : decode m_Pl_isFull.2.1 10 = .ok (.goto 4, 3) := by decide +kernel
theorem d_Pl_isFull_13 : decode m_Pl_isFull.2.1 13 = .ok (.iconst 0, 1) := by decide +kernel
theorem d_Pl_isFull_14 : decode m_Pl_isFull.2.1 14 = .ok (.ireturn, 1) := by decide +kernel
theorem d_Pl_put_0 : decode m_Pl_put.2.1 0 = .ok (.aload_n 0, 1) := by decide +kernel
theorem d_Pl_put_1 : decode m_Pl_put.2.1 1 = .ok (.invokevirtual 33, 3) := by decide +kernel
theorem d_Pl_put_4 : decode m_Pl_put.2.1 4 = .ok (.ifCond .eq 4, 3) := by decide +kernel
theorem d_Pl_put_7 : decode m_Pl_put.2.1 7 = .ok (.return_, 1) := by decide +kernel
theorem d_Pl_put_8 : decode m_Pl_put.2.1 8 = .ok (.aload_n 0, 1) := by decide +kernel
theorem d_Pl_put_9 : decode m_Pl_put.2.1 9 = .ok (.getfield 17, 3) := by decide +kernel
theorem d_Pl_put_12 : decode m_Pl_put.2.1 12 = .ok (.aload_n 0, 1) := by decide +kernel
theorem d_Pl_put_13 : decode m_Pl_put.2.1 13 = .ok (.getfield 29, 3) := by decide +kernel
theorem d_Pl_put_16 : decode m_Pl_put.2.1 16 = .ok (.aaload, 1) := by decide +kernel
theorem d_Pl_put_17 : decode m_Pl_put.2.1 17 = .ok (.astore_n 3, 1) := by decide +kernel
theorem d_Pl_put_18 : decode m_Pl_put.2.1 18 = .ok (.aload_n 0, 1) := by decide +kernel
theorem d_Pl_put_19 : decode m_Pl_put.2.1 19 = .ok (.getfield 29, 3) := by decide +kernel
theorem d_Pl_put_22 : decode m_Pl_put.2.1 22 = .ok (.istore 4, 2) := by decide +kernel
theorem d_Pl_put_24 : decode m_Pl_put.2.1 24 = .ok (.iload 4, 2) := by decide +kernel
theorem d_Pl_put_26 : decode m_Pl_put.2.1 26 = .ok (.ifCond .le 54, 3) := by decide +kernel
theorem d_Pl_put_29 : decode m_Pl_put.2.1 29 = .ok (.aload_n 0, 1) := by decide +kernel
theorem d_Pl_put_30 : decode m_Pl_put.2.1 30 = .ok (.getfield 11, 3) := by decide +kernel
theorem d_Pl_put_33 : decode m_Pl_put.2.1 33 = .ok (.iload 4, 2) := by decide +kernel
theorem d_Pl_put_35 : decode m_Pl_put.2.1 35 = .ok (.iconst 1, 1) := by decide +kernel
theorem d_Pl_put_36 : decode m_Pl_put.2.1 36 = .ok (.isub, 1) := by decide +kernel
theorem d_Pl_put_37 : decode m_Pl_put.2.1 37 = .ok (.iaload, 1) := by decide +kernel
theorem d_Pl_put_38 : decode m_Pl_put.2.1 38 = .ok (.iload_n 1, 1) := by decide +kernel
theorem d_Pl_put_39 : decode m_Pl_put.2.1 39 = .ok (.if_icmp .le 41, 3) := by decide +kernel
theorem d_Pl_put_42 : decode m_Pl_put.2.1 42 = .ok (.aload_n 0, 1) := by decide +kernel
theorem d_Pl_put_43 : decode m_Pl_put.2.1 43 = .ok (.getfield 11, 3) := by decide +kernel
theorem d_Pl_put_46 : decode m_Pl_put.2.1 46 = .ok (.iload 4, 2) := by decide +kernel
theorem d_Pl_put_48 : decode m_Pl_put.2.1 48 = .ok (.aload_n 0, 1) := by decide +kernel
theorem d_Pl_put_49 : decode m_Pl_put.2.1 49 = .ok (.getfield 11, 3) := by decide +kernel
theorem d_Pl_put_52 : decode m_Pl_put.2.1 52 = .ok (.iload 4, 2) := by decide +kernel
theorem d_Pl_put_54 : decode m_Pl_put.2.1 54 = .ok (.iconst 1, 1) := by decide +kernel
theorem d_Pl_put_55 : decode m_Pl_put.2.1 55 = .ok (.isub, 1) := by decide +kernel
theorem d_Pl_put_56 : decode m_Pl_put.2.1 56 = .ok (.iaload, 1) := by decide +kernel
theorem d_Pl_put_57 : decode m_Pl_put.2.1 57 = .ok (.iastore, 1) := by decide +kernel
theorem d_Pl_put_58 : decode m_Pl_put.2.1 58 = .ok (.aload_n 0, 1) := by decide +kernel
theorem d_Pl_put_59 : decode m_Pl_put.2.1 59 = .ok (.getfield 17, 3) := by decide +kernel
theorem d_Pl_put_62 : decode m_Pl_put.2.1 62 = .ok (.iload 4, 2) := by decide +kernel
theorem d_Pl_put_64 : decode m_Pl_put.2.1 64 = .ok (.aload_n 0, 1) := by decide +kernel
theorem d_Pl_put_65 : decode m_Pl_put.2.1 65 = .ok (.getfield 17, 3) := by decide +kernel
theorem d_Pl_put_68 : decode m_Pl_put.2.1 68 = .ok (.iload 4, 2) := by decide +kernel
theorem d_Pl_put_70 : decode m_Pl_put.2.1 70 = .ok (.iconst 1, 1) := by decide +kernel
theorem d_Pl_put_71 : decode m_Pl_put.2.1 71 = .ok (.isub, 1) := by decide +kernel
theorem d_Pl_put_72 : decode m_Pl_put.2.1 72 = .ok (.aaload, 1) := by decide +kernel
theorem d_Pl_put_73 : decode m_Pl_put.2.1 73 = .ok (.aastore, 1) := by decide +kernel
theorem d_Pl_put_74 : decode m_Pl_put.2.1 74 = .ok (.iinc 4 (-1), 3) := by decide +kernel
theorem d_Pl_put_77 : decode m_Pl_put.2.1 77 = .ok (.goto (-53), 3) := by decide +kernel
theorem d_Pl_put_80 : decode m_Pl_put.2.1 80 = .ok (.aload_n 0, 1) := by decide +kernel
theorem d_Pl_put_81 : decode m_Pl_put.2.1 81 = .ok (.getfield 11, 3) := by decide +kernel
theorem d_Pl_put_84 : decode m_Pl_put.2.1 84 = .ok (.iload 4, 2) := by decide +kernel
theorem d_Pl_put_86 : decode m_Pl_put.2.1 86 = .ok (.iload_n 1, 1) := by decide +kernel
theorem d_Pl_put_87 : decode m_Pl_put.2.1 87 = .ok (.iastore, 1) := by decide +kernel
theorem d_Pl_put_88 : decode m_Pl_put.2.1 88 = .ok (.aload_n 0, 1) := by decide +kernel
theorem d_Pl_put_89 : decode m_Pl_put.2.1 89 = .ok (.getfield 17, 3) := by decide +kernel
theorem d_Pl_put_92 : decode m_Pl_put.2.1 92 = .ok (.iload 4, 2) := by decide +kernel
theorem d_Pl_put_94 : decode m_Pl_put.2.1 94 = .ok (.aload_n 3, 1) := by decide +kernel
theorem d_Pl_put_95 : decode m_Pl_put.2.1 95 = .ok (.aastore, 1) := by decide +kernel
theorem d_Pl_put_96 : decode m_Pl_put.2.1 96 = .ok (.aload_n 3, 1) := by decide +kernel
theorem d_Pl_put_97 : decode m_Pl_put.2.1 97 = .ok (.aload_n 2, 1) := by decide +kernel
theorem d_Pl_put_98 : decode m_Pl_put.2.1 98 = .ok (.getfield 37, 3) := by decide +kernel
theorem d_Pl_put_101 : decode m_Pl_put.2.1 101 = .ok (.iconst 3, 1) := by decide +kernel
theorem d_Pl_put_102 : decode m_Pl_put.2.1 102 = .ok (.invokestatic 40, 3) := by decide +kernel
theorem d_Pl_put_105 : decode m_Pl_put.2.1 105 = .ok (.aload_n 2, 1) := by decide +kernel
theorem d_Pl_put_106 : decode m_Pl_put.2.1 106 = .ok (.getfield 44, 3) := by decide +kernel
theorem d_Pl_put_109 : decode m_Pl_put.2.1 109 = .ok (.invokevirtual 45, 3) := by decide +kernel
theorem d_Pl_put_112 : decode m_Pl_put.2.1 112 = .ok (.aload_n 0, 1) := by decide +kernel
theorem d_Pl_put_113 : decode m_Pl_put.2.1 113 = .ok (.dup, 1) := by decide +kernel
theorem d_Pl_put_114 : decode m_Pl_put.2.1 114 = .ok (.getfield 29, 3) := by decide +kernel
theorem d_Pl_put_117 : decode m_Pl_put.2.1 117 = .ok (.iconst 1, 1) := by decide +kernel
theorem d_Pl_put_118 : decode m_Pl_put.2.1 118 = .ok (.iadd, 1) := by decide +kernel
theorem d_Pl_put_119 : decode m_Pl_put.2.1 119 = .ok (.putfield 29, 3) := by decide +kernel
theorem d_Pl_put_122 : decode m_Pl_put.2.1 122 = .ok (.return_, 1) := by decide +kernel
theorem d_Pl_shift_0 : decode m_Pl_shift.2.1 0 = .ok (.iconst 0, 1) := by decide +kernel
theorem d_Pl_shift_1 : decode m_Pl_shift.2.1 1 = .ok (.istore_n 2, 1) := by decide +kernel
theorem d_Pl_shift_2 : decode m_Pl_shift.2.1 2 = .ok (.iload_n 2, 1) := by decide +kernel
theorem d_Pl_shift_3 : decode m_Pl_shift.2.1 3 = .ok (.aload_n 0, 1) := by decide +kernel
theorem d_Pl_shift_4 : decode m_Pl_shift.2.1 4 = .ok (.getfield 29, 3) := by decide +kernel
theorem d_Pl_shift_7 : decode m_Pl_shift.2.1 7 = .ok (.if_icmp .ge 19, 3) := by decide +kernel
theorem d_Pl_shift_10 : decode m_Pl_shift.2.1 10 = .ok (.aload_n 0, 1) := by decide +kernel
theorem d_Pl_shift_11 : decode m_Pl_shift.2.1 11 = .ok (.getfield 11, 3) := by decide +kernel
theorem d_Pl_shift_14 : decode m_Pl_shift.2.1 14 = .ok (.iload_n 2, 1) := by decide +kernel
theorem d_Pl_shift_15 : decode m_Pl_shift.2.1 15 = .ok (.dup2, 1) := by decide +kernel
theorem d_Pl_shift_16 : decode m_Pl_shift.2.1 16 = .ok (.iaload, 1) := by decide +kernel
theorem d_Pl_shift_17 : decode m_Pl_shift.2.1 17 = .ok (.iload_n 1, 1) := by decide +kernel
theorem d_Pl_shift_18 : decode m_Pl_shift.2.1 18 = .ok (.iadd, 1) := by decide +kernel
theorem d_Pl_shift_19 : decode m_Pl_shift.2.1 19 = .ok (.iastore, 1) := by decide +kernel
theorem d_Pl_shift_20 : decode m_Pl_shift.2.1 20 = .ok (.iinc 2 1, 3) := by decide +kernel
theorem d_Pl_shift_23 : decode m_Pl_shift.2.1 23 = .ok (.goto (-21), 3) := by decide +kernel
theorem d_Pl_shift_26 : decode m_Pl_shift.2.1 26 = .ok (.return_, 1) := by decide +kernel
theorem d_Pl_takeOutDue_0 : decode m_Pl_takeOutDue.2.1 0 = .ok (.iconst 0, 1) := by decide +kernel
theorem d_Pl_takeOutDue_1 : decode m_Pl_takeOutDue.2.1 1 = .ok (.istore_n 2, 1) := by decide +kernel
theorem d_Pl_takeOutDue_2 : decode m_Pl_takeOutDue.2.1 2 = .ok (.iload_n 2, 1) := by decide +kernel
theorem d_Pl_takeOutDue_3 : decode m_Pl_takeOutDue.2.1 3 = .ok (.aload_n 0, 1) := by decide +kernel
theorem d_Pl_takeOutDue_4 : decode m_Pl_takeOutDue.2.1 4 = .ok (.getfield 29, 3) := by decide +kernel
theorem d_Pl_takeOutDue_7 : decode m_Pl_takeOutDue.2.1 7 = .ok (.if_icmp .ge 45, 3) := by decide +kernel
theorem d_Pl_takeOutDue_10 : decode m_Pl_takeOutDue.2.1 10 = .ok (.aload_n 0, 1) := by decide +kernel
theorem d_Pl_takeOutDue_11 : decode m_Pl_takeOutDue.2.1 11 = .ok (.getfield 11, 3) := by decide +kernel
theorem d_Pl_takeOutDue_14 : decode m_Pl_takeOutDue.2.1 14 = .ok (.iload_n 2, 1) := by decide +kernel
theorem d_Pl_takeOutDue_15 : decode m_Pl_takeOutDue.2.1 15 = .ok (.iaload, 1) := by decide +kernel
theorem d_Pl_takeOutDue_16 : decode m_Pl_takeOutDue.2.1 16 = .ok (.iload_n 1, 1) := by decide +kernel
theorem d_Pl_takeOutDue_17 : decode m_Pl_takeOutDue.2.1 17 = .ok (.if_icmp .gt 35, 3) := by decide +kernel
theorem d_Pl_takeOutDue_20 : decode m_Pl_takeOutDue.2.1 20 = .ok (.aload_n 0, 1) := by decide +kernel
theorem d_Pl_takeOutDue_21 : decode m_Pl_takeOutDue.2.1 21 = .ok (.getfield 21, 3) := by decide +kernel
theorem d_Pl_takeOutDue_24 : decode m_Pl_takeOutDue.2.1 24 = .ok (.iload_n 2, 1) := by decide +kernel
theorem d_Pl_takeOutDue_25 : decode m_Pl_takeOutDue.2.1 25 = .ok (.aaload, 1) := by decide +kernel
theorem d_Pl_takeOutDue_26 : decode m_Pl_takeOutDue.2.1 26 = .ok (.astore_n 3, 1) := by decide +kernel
theorem d_Pl_takeOutDue_27 : decode m_Pl_takeOutDue.2.1 27 = .ok (.aload_n 0, 1) := by decide +kernel
theorem d_Pl_takeOutDue_28 : decode m_Pl_takeOutDue.2.1 28 = .ok (.getfield 21, 3) := by decide +kernel
theorem d_Pl_takeOutDue_31 : decode m_Pl_takeOutDue.2.1 31 = .ok (.iload_n 2, 1) := by decide +kernel
theorem d_Pl_takeOutDue_32 : decode m_Pl_takeOutDue.2.1 32 = .ok (.aload_n 0, 1) := by decide +kernel
theorem d_Pl_takeOutDue_33 : decode m_Pl_takeOutDue.2.1 33 = .ok (.getfield 17, 3) := by decide +kernel
theorem d_Pl_takeOutDue_36 : decode m_Pl_takeOutDue.2.1 36 = .ok (.iload_n 2, 1) := by decide +kernel
theorem d_Pl_takeOutDue_37 : decode m_Pl_takeOutDue.2.1 37 = .ok (.aaload, 1) := by decide +kernel
theorem d_Pl_takeOutDue_38 : decode m_Pl_takeOutDue.2.1 38 = .ok (.aastore, 1) := by decide +kernel
theorem d_Pl_takeOutDue_39 : decode m_Pl_takeOutDue.2.1 39 = .ok (.aload_n 0, 1) := by decide +kernel
theorem d_Pl_takeOutDue_40 : decode m_Pl_takeOutDue.2.1 40 = .ok (.getfield 17, 3) := by decide +kernel
theorem d_Pl_takeOutDue_43 : decode m_Pl_takeOutDue.2.1 43 = .ok (.iload_n 2, 1) := by decide +kernel
theorem d_Pl_takeOutDue_44 : decode m_Pl_takeOutDue.2.1 44 = .ok (.aload_n 3, 1) := by decide +kernel
theorem d_Pl_takeOutDue_45 : decode m_Pl_takeOutDue.2.1 45 = .ok (.aastore, 1) := by decide +kernel
theorem d_Pl_takeOutDue_46 : decode m_Pl_takeOutDue.2.1 46 = .ok (.iinc 2 1, 3) := by decide +kernel
theorem d_Pl_takeOutDue_49 : decode m_Pl_takeOutDue.2.1 49 = .ok (.goto (-47), 3) := by decide +kernel
theorem d_Pl_takeOutDue_52 : decode m_Pl_takeOutDue.2.1 52 = .ok (.iload_n 2, 1) := by decide +kernel
theorem d_Pl_takeOutDue_53 : decode m_Pl_takeOutDue.2.1 53 = .ok (.istore_n 3, 1) := by decide +kernel
theorem d_Pl_takeOutDue_54 : decode m_Pl_takeOutDue.2.1 54 = .ok (.iload_n 3, 1) := by decide +kernel
theorem d_Pl_takeOutDue_55 : decode m_Pl_takeOutDue.2.1 55 = .ok (.aload_n 0, 1) := by decide +kernel
theorem d_Pl_takeOutDue_56 : decode m_Pl_takeOutDue.2.1 56 = .ok (.getfield 29, 3) := by decide +kernel
theorem d_Pl_takeOutDue_59 : decode m_Pl_takeOutDue.2.1 59 = .ok (.if_icmp .ge 55, 3) := by decide +kernel
theorem d_Pl_takeOutDue_62 : decode m_Pl_takeOutDue.2.1 62 = .ok (.aload_n 0, 1) := by decide +kernel
theorem d_Pl_takeOutDue_63 : decode m_Pl_takeOutDue.2.1 63 = .ok (.getfield 17, 3) := by decide +kernel
theorem d_Pl_takeOutDue_66 : decode m_Pl_takeOutDue.2.1 66 = .ok (.iload_n 3, 1) := by decide +kernel
theorem d_Pl_takeOutDue_67 : decode m_Pl_takeOutDue.2.1 67 = .ok (.iload_n 2, 1) := by decide +kernel
theorem d_Pl_takeOutDue_68 : decode m_Pl_takeOutDue.2.1 68 = .ok (.isub, 1) := by decide +kernel
theorem d_Pl_takeOutDue_69 : decode m_Pl_takeOutDue.2.1 69 = .ok (.aaload, 1) := by decide +kernel
theorem d_Pl_takeOutDue_70 : decode m_Pl_takeOutDue.2.1 70 = .ok (.astore 4, 2) := by decide +kernel
theorem d_Pl_takeOutDue_72 : decode m_Pl_takeOutDue.2.1 72 = .ok (.aload_n 0, 1) := by decide +kernel
theorem d_Pl_takeOutDue_73 : decode m_Pl_takeOutDue.2.1 73 = .ok (.getfield 17, 3) := by decide +kernel
theorem d_Pl_takeOutDue_76 : decode m_Pl_takeOutDue.2.1 76 = .ok (.iload_n 3, 1) := by decide +kernel
theorem d_Pl_takeOutDue_77 : decode m_Pl_takeOutDue.2.1 77 = .ok (.iload_n 2, 1) := by decide +kernel
theorem d_Pl_takeOutDue_78 : decode m_Pl_takeOutDue.2.1 78 = .ok (.isub, 1) := by decide +kernel
theorem d_Pl_takeOutDue_79 : decode m_Pl_takeOutDue.2.1 79 = .ok (.aload_n 0, 1) := by decide +kernel
theorem d_Pl_takeOutDue_80 : decode m_Pl_takeOutDue.2.1 80 = .ok (.getfield 17, 3) := by decide +kernel
theorem d_Pl_takeOutDue_83 : decode m_Pl_takeOutDue.2.1 83 = .ok (.iload_n 3, 1) := by decide +kernel
theorem d_Pl_takeOutDue_84 : decode m_Pl_takeOutDue.2.1 84 = .ok (.aaload, 1) := by decide +kernel
theorem d_Pl_takeOutDue_85 : decode m_Pl_takeOutDue.2.1 85 = .ok (.aastore, 1) := by decide +kernel
theorem d_Pl_takeOutDue_86 : decode m_Pl_takeOutDue.2.1 86 = .ok (.aload_n 0, 1) := by decide +kernel
theorem d_Pl_takeOutDue_87 : decode m_Pl_takeOutDue.2.1 87 = .ok (.getfield 17, 3) := by decide +kernel
theorem d_Pl_takeOutDue_90 : decode m_Pl_takeOutDue.2.1 90 = .ok (.iload_n 3, 1) := by decide +kernel
theorem d_Pl_takeOutDue_91 : decode m_Pl_takeOutDue.2.1 91 = .ok (.aload 4, 2) := by decide +kernel
theorem d_Pl_takeOutDue_93 : decode m_Pl_takeOutDue.2.1 93 = .ok (.aastore, 1) := by decide +kernel
theorem d_Pl_takeOutDue_94 : decode m_Pl_takeOutDue.2.1 94 = .ok (.aload_n 0, 1) := by decide +kernel
theorem d_Pl_takeOutDue_95 : decode m_Pl_takeOutDue.2.1 95 = .ok (.getfield 11, 3) := by decide +kernel
theorem d_Pl_takeOutDue_98 : decode m_Pl_takeOutDue.2.1 98 = .ok (.iload_n 3, 1) := by decide +kernel
theorem d_Pl_takeOutDue_99 : decode m_Pl_takeOutDue.2.1 99 = .ok (.iload_n 2, 1) := by decide +kernel
theorem d_Pl_takeOutDue_100 : decode m_Pl_takeOutDue.2.1 100 = .ok (.isub, 1) := by decide +kernel
theorem d_Pl_takeOutDue_101 : decode m_Pl_takeOutDue.2.1 101 = .ok (.aload_n 0, 1) := by decide +kernel
theorem d_Pl_takeOutDue_102 : decode m_Pl_takeOutDue.2.1 102 = .ok (.getfield 11, 3) := by decide +kernel
theorem d_Pl_takeOutDue_105 : decode m_Pl_takeOutDue.2.1 105 = .ok (.iload_n 3, 1) := by decide +kernel
theorem d_Pl_takeOutDue_106 : decode m_Pl_takeOutDue.2.1 106 = .ok (.iaload, 1) := by decide +kernel
theorem d_Pl_takeOutDue_107 : decode m_Pl_takeOutDue.2.1 107 = .ok (.iastore, 1) := by decide +kernel
theorem d_Pl_takeOutDue_108 : decode m_Pl_takeOutDue.2.1 108 = .ok (.iinc 3 1, 3) := by decide +kernel
theorem d_Pl_takeOutDue_111 : decode m_Pl_takeOutDue.2.1 111 = .ok (.goto (-57), 3) := by decide +kernel
theorem d_Pl_takeOutDue_114 : decode m_Pl_takeOutDue.2.1 114 = .ok (.aload_n 0, 1) := by decide +kernel
theorem d_Pl_takeOutDue_115 : decode m_Pl_takeOutDue.2.1 115 = .ok (.dup, 1) := by decide +kernel
theorem d_Pl_takeOutDue_116 : decode m_Pl_takeOutDue.2.1 116 = .ok (.getfield 29, 3) := by decide +kernel
theorem d_Pl_takeOutDue_119 : decode m_Pl_takeOutDue.2.1 119 = .ok (.iload_n 2, 1) := by decide +kernel
theorem d_Pl_takeOutDue_120 : decode m_Pl_takeOutDue.2.1 120 = .ok (.isub, 1) := by decide +kernel
theorem d_Pl_takeOutDue_121 : decode m_Pl_takeOutDue.2.1 121 = .ok (.putfield 29, 3) := by decide +kernel
theorem d_Pl_takeOutDue_124 : decode m_Pl_takeOutDue.2.1 124 = .ok (.iload_n 2, 1) := by decide +kernel
theorem d_Pl_takeOutDue_125 : decode m_Pl_takeOutDue.2.1 125 = .ok (.ireturn, 1) := by decide +kernel
theorem d_Rc_accept_0 : decode m_Rc_accept.2.1 0 = .ok (.aload_n 0, 1) := by decide +kernel
theorem d_Rc_accept_1 : decode m_Rc_accept.2.1 1 = .ok (.getfield 15, 3) := by decide +kernel
theorem d_Rc_accept_4 : decode m_Rc_accept.2.1 4 = .ok (.tableswitch 46 1 3 #[28, 34, 40], 28) := by decide +kernel
theorem d_Rc_accept_32 : decode m_Rc_accept.2.1 32 = .ok (.aload_n 0, 1) := by decide +kernel
theorem d_Rc_accept_33 : decode m_Rc_accept.2.1 33 = .ok (.iload_n 1, 1) := by decide +kernel
theorem d_Rc_accept_34 : decode m_Rc_accept.2.1 34 = .ok (.invokevirtual 19, 3) := by decide +kernel
theorem d_Rc_accept_37 : decode m_Rc_accept.2.1 37 = .ok (.ireturn, 1) := by decide +kernel
theorem d_Rc_accept_38 : decode m_Rc_accept.2.1 38 = .ok (.aload_n 0, 1) := by decide +kernel
theorem d_Rc_accept_39 : decode m_Rc_accept.2.1 39 = .ok (.iload_n 1, 1) := by decide +kernel
theorem d_Rc_accept_40 : decode m_Rc_accept.2.1 40 = .ok (.invokevirtual 23, 3) := by decide +kernel
theorem d_Rc_accept_43 : decode m_Rc_accept.2.1 43 = .ok (.ireturn, 1) := by decide +kernel
theorem d_Rc_accept_44 : decode m_Rc_accept.2.1 44 = .ok (.aload_n 0, 1) := by decide +kernel
theorem d_Rc_accept_45 : decode m_Rc_accept.2.1 45 = .ok (.iload_n 1, 1) := by decide +kernel
theorem d_Rc_accept_46 : decode m_Rc_accept.2.1 46 = .ok (.invokevirtual 26, 3) := by decide +kernel
theorem d_Rc_accept_49 : decode m_Rc_accept.2.1 49 = .ok (.ireturn, 1) := by decide +kernel
theorem d_Rc_accept_50 : decode m_Rc_accept.2.1 50 = .ok (.aload_n 0, 1) := by decide +kernel
theorem d_Rc_accept_51 : decode m_Rc_accept.2.1 51 = .ok (.iload_n 1, 1) := by decide +kernel
theorem d_Rc_accept_52 : decode m_Rc_accept.2.1 52 = .ok (.invokevirtual 29, 3) := by decide +kernel
theorem d_Rc_accept_55 : decode m_Rc_accept.2.1 55 = .ok (.ireturn, 1) := by decide +kernel
theorem d_Rc_acceptBetweenFrames_0 : decode m_Rc_acceptBetweenFrames.2.1 0 = .ok (.iload_n 1, 1) := by decide +kernel
theorem d_Rc_acceptBetweenFrames_1 : decode m_Rc_acceptBetweenFrames.2.1 1 = .ok (.sipush 235, 3) := by decide +kernel
theorem d_Rc_acceptBetweenFrames_4 : decode m_Rc_acceptBetweenFrames.2.1 4 = .ok (.if_icmp .eq 15, 3) := by decide +kernel
theorem d_Rc_acceptBetweenFrames_7 : decode m_Rc_acceptBetweenFrames.2.1 7 = .ok (.aload_n 0, 1) := by decide +kernel
theorem d_Rc_acceptBetweenFrames_8 : decode m_Rc_acceptBetweenFrames.2.1 8 = .ok (.dup, 1) := by decide +kernel
theorem d_Rc_acceptBetweenFrames_9 : decode m_Rc_acceptBetweenFrames.2.1 9 = .ok (.getfield 32, 3) := by decide +kernel
theorem d_Rc_acceptBetweenFrames_12 : decode m_Rc_acceptBetweenFrames.2.1 12 = .ok (.iconst 1, 1) := by decide +kernel
theorem d_Rc_acceptBetweenFrames_13 : decode m_Rc_acceptBetweenFrames.2.1 13 = .ok (.iadd, 1) := by decide +kernel
theorem d_Rc_acceptBetweenFrames_14 : decode m_Rc_acceptBetweenFrames.2.1 14 = .ok (.putfield 32, 3) := by decide +kernel
theorem d_Rc_acceptBetweenFrames_17 : decode m_Rc_acceptBetweenFrames.2.1 17 = .ok (.iconst 5, 1) := by decide +kernel
theorem d_Rc_acceptBetweenFrames_18 : decode m_Rc_acceptBetweenFrames.2.1 18 = .ok (.ireturn, 1) := by decide +kernel
theorem d_Rc_acceptBetweenFrames_19 : decode m_Rc_acceptBetweenFrames.2.1 19 = .ok (.aload_n 0, 1) := by decide +kernel
theorem d_Rc_acceptBetweenFrames_20 : decode m_Rc_acceptBetweenFrames.2.1 20 = .ok (.iconst 1, 1) := by decide +kernel
theorem d_Rc_acceptBetweenFrames_21 : decode m_Rc_acceptBetweenFrames.2.1 21 = .ok (.putfield 15, 3) := by decide +kernel
theorem d_Rc_acceptBetweenFrames_24 : decode m_Rc_acceptBetweenFrames.2.1 24 = .ok (.iconst 0, 1) := by decide +kernel
theorem d_Rc_acceptBetweenFrames_25 : decode m_Rc_acceptBetweenFrames.2.1 25 = .ok (.ireturn, 1) := by decide +kernel
theorem d_Rc_acceptCheck_0 : decode m_Rc_acceptCheck.2.1 0 = .ok (.aload_n 0, 1) := by decide +kernel
theorem d_Rc_acceptCheck_1 : decode m_Rc_acceptCheck.2.1 1 = .ok (.iconst 0, 1) := by decide +kernel
theorem d_Rc_acceptCheck_2 : decode m_Rc_acceptCheck.2.1 2 = .ok (.putfield 15, 3) := by decide +kernel
theorem d_Rc_acceptCheck_5 : decode m_Rc_acceptCheck.2.1 5 = .ok (.iload_n 1, 1) := by decide +kernel
theorem d_Rc_acceptCheck_6 : decode m_Rc_acceptCheck.2.1 6 = .ok (.aload_n 0, 1) := by decide +kernel
theorem d_Rc_acceptCheck_7 : decode m_Rc_acceptCheck.2.1 7 = .ok (.getfield 44, 3) := by decide +kernel
theorem d_Rc_acceptCheck_10 : decode m_Rc_acceptCheck.2.1 10 = .ok (.if_icmp .eq 15, 3) := by decide +kernel
theorem d_Rc_acceptCheck_13 : decode m_Rc_acceptCheck.2.1 13 = .ok (.aload_n 0, 1) := by decide +kernel
theorem d_Rc_acceptCheck_14 : decode m_Rc_acceptCheck.2.1 14 = .ok (.dup, 1) := by decide +kernel
theorem d_Rc_acceptCheck_15 : decode m_Rc_acceptCheck.2.1 15 = .ok (.getfield 35, 3) := by decide +kernel
theorem d_Rc_acceptCheck_18 : decode m_Rc_acceptCheck.2.1 18 = .ok (.iconst 1, 1) := by decide +kernel
theorem d_Rc_acceptCheck_19 : decode m_Rc_acceptCheck.2.1 19 = .ok (.iadd, 1) := by decide +kernel
theorem d_Rc_acceptCheck_20 : decode m_Rc_acceptCheck.2.1 20 = .ok (.putfield 35, 3) := by decide +kernel
theorem d_Rc_acceptCheck_23 : decode m_Rc_acceptCheck.2.1 23 = .ok (.iconst 4, 1) := by decide +kernel
theorem d_Rc_acceptCheck_24 : decode m_Rc_acceptCheck.2.1 24 = .ok (.ireturn, 1) := by decide +kernel
theorem d_Rc_acceptCheck_25 : decode m_Rc_acceptCheck.2.1 25 = .ok (.aload_n 0, 1) := by decide +kernel
theorem d_Rc_acceptCheck_26 : decode m_Rc_acceptCheck.2.1 26 = .ok (.dup, 1) := by decide +kernel
theorem d_Rc_acceptCheck_27 : decode m_Rc_acceptCheck.2.1 27 = .ok (.getfield 47, 3) := by decide +kernel
theorem d_Rc_acceptCheck_30 : decode m_Rc_acceptCheck.2.1 30 = .ok (.iconst 1, 1) := by decide +kernel
theorem d_Rc_acceptCheck_31 : decode m_Rc_acceptCheck.2.1 31 = .ok (.iadd, 1) := by decide +kernel
theorem d_Rc_acceptCheck_32 : decode m_Rc_acceptCheck.2.1 32 = .ok (.putfield 47, 3) := by decide +kernel
theorem d_Rc_acceptCheck_35 : decode m_Rc_acceptCheck.2.1 35 = .ok (.iconst (-1), 1) := by decide +kernel
theorem d_Rc_acceptCheck_36 : decode m_Rc_acceptCheck.2.1 36 = .ok (.ireturn, 1) := by decide +kernel
theorem d_Rc_acceptContent_0 : decode m_Rc_acceptContent.2.1 0 = .ok (.aload_n 0, 1) := by decide +kernel
theorem d_Rc_acceptContent_1 : decode m_Rc_acceptContent.2.1 1 = .ok (.getfield 41, 3) := by decide +kernel
theorem d_Rc_acceptContent_4 : decode m_Rc_acceptContent.2.1 4 = .ok (.aload_n 0, 1) := by decide +kernel
theorem d_Rc_acceptContent_5 : decode m_Rc_acceptContent.2.1 5 = .ok (.getfield 11, 3) := by decide +kernel
theorem d_Rc_acceptContent_8 : decode m_Rc_acceptContent.2.1 8 = .ok (.arraylength, 1) := by decide +kernel
theorem d_Rc_acceptContent_9 : decode m_Rc_acceptContent.2.1 9 = .ok (.if_icmp .ge 13, 3) := by decide +kernel
theorem d_Rc_acceptContent_12 : decode m_Rc_acceptContent.2.1 12 = .ok (.aload_n 0, 1) := by decide +kernel
theorem d_Rc_acceptContent_13 : decode m_Rc_acceptContent.2.1 13 = .ok (.getfield 11, 3) := by decide +kernel
theorem d_Rc_acceptContent_16 : decode m_Rc_acceptContent.2.1 16 = .ok (.aload_n 0, 1) := by decide +kernel
theorem d_Rc_acceptContent_17 : decode m_Rc_acceptContent.2.1 17 = .ok (.getfield 41, 3) := by decide +kernel
theorem d_Rc_acceptContent_20 : decode m_Rc_acceptContent.2.1 20 = .ok (.iload_n 1, 1) := by decide +kernel
theorem d_Rc_acceptContent_21 : decode m_Rc_acceptContent.2.1 21 = .ok (.iastore, 1) := by decide +kernel
theorem d_Rc_acceptContent_22 : decode m_Rc_acceptContent.2.1 22 = .ok (.aload_n 0, 1) := by decide +kernel
theorem d_Rc_acceptContent_23 : decode m_Rc_acceptContent.2.1 23 = .ok (.dup, 1) := by decide +kernel
theorem d_Rc_acceptContent_24 : decode m_Rc_acceptContent.2.1 24 = .ok (.getfield 41, 3) := by decide +kernel
theorem d_Rc_acceptContent_27 : decode m_Rc_acceptContent.2.1 27 = .ok (.iconst 1, 1) := by decide +kernel
theorem d_Rc_acceptContent_28 : decode m_Rc_acceptContent.2.1 28 = .ok (.iadd, 1) := by decide +kernel
theorem d_Rc_acceptContent_29 : decode m_Rc_acceptContent.2.1 29 = .ok (.putfield 41, 3) := by decide +kernel
theorem d_Rc_acceptContent_32 : decode m_Rc_acceptContent.2.1 32 = .ok (.aload_n 0, 1) := by decide +kernel
theorem d_Rc_acceptContent_33 : decode m_Rc_acceptContent.2.1 33 = .ok (.aload_n 0, 1) := by decide +kernel
theorem d_Rc_acceptContent_34 : decode m_Rc_acceptContent.2.1 34 = .ok (.getfield 44, 3) := by decide +kernel
theorem d_Rc_acceptContent_37 : decode m_Rc_acceptContent.2.1 37 = .ok (.iconst 2, 1) := by decide +kernel
theorem d_Rc_acceptContent_38 : decode m_Rc_acceptContent.2.1 38 = .ok (.imul, 1) := by decide +kernel
theorem d_Rc_acceptContent_39 : decode m_Rc_acceptContent.2.1 39 = .ok (.sipush 256, 3) := by decide +kernel
theorem d_Rc_acceptContent_42 : decode m_Rc_acceptContent.2.1 42 = .ok (.irem, 1) := by decide +kernel
theorem d_Rc_acceptContent_43 : decode m_Rc_acceptContent.2.1 43 = .ok (.aload_n 0, 1) := by decide +kernel
theorem d_Rc_acceptContent_44 : decode m_Rc_acceptContent.2.1 44 = .ok (.getfield 44, 3) := by decide +kernel
theorem d_Rc_acceptContent_47 : decode m_Rc_acceptContent.2.1 47 = .ok (.sipush 128, 3) := by decide +kernel
theorem d_Rc_acceptContent_50 : decode m_Rc_acceptContent.2.1 50 = .ok (.idiv, 1) := by decide +kernel
theorem d_Rc_acceptContent_51 : decode m_Rc_acceptContent.2.1 51 = .ok (.iadd, 1) := by decide +kernel
theorem d_Rc_acceptContent_52 : decode m_Rc_acceptContent.2.1 52 = .ok (.iload_n 1, 1) := by decide +kernel
theorem d_Rc_acceptContent_53 : decode m_Rc_acceptContent.2.1 53 = .ok (.ixor, 1) := by decide +kernel
theorem d_Rc_acceptContent_54 : decode m_Rc_acceptContent.2.1 54 = .ok (.putfield 44, 3) := by decide +kernel
theorem d_Rc_acceptContent_57 : decode m_Rc_acceptContent.2.1 57 = .ok (.aload_n 0, 1) := by decide +kernel
theorem d_Rc_acceptContent_58 : decode m_Rc_acceptContent.2.1 58 = .ok (.getfield 41, 3) := by decide +kernel
theorem d_Rc_acceptContent_61 : decode m_Rc_acceptContent.2.1 61 = .ok (.aload_n 0, 1) := by decide +kernel
theorem d_Rc_acceptContent_62 : decode m_Rc_acceptContent.2.1 62 = .ok (.getfield 38, 3) := by decide +kernel
theorem d_Rc_acceptContent_65 : decode m_Rc_acceptContent.2.1 65 = .ok (.if_icmp .lt 8, 3) := by decide +kernel
theorem d_Rc_acceptContent_68 : decode m_Rc_acceptContent.2.1 68 = .ok (.aload_n 0, 1) := by decide +kernel
theorem d_Rc_acceptContent_69 : decode m_Rc_acceptContent.2.1 69 = .ok (.iconst 3, 1) := by decide +kernel
theorem d_Rc_acceptContent_70 : decode m_Rc_acceptContent.2.1 70 = .ok (.putfield 15, 3) := by decide +kernel
theorem d_Rc_acceptContent_73 : decode m_Rc_acceptContent.2.1 73 = .ok (.iconst 0, 1) := by decide +kernel
theorem d_Rc_acceptContent_74 : decode m_Rc_acceptContent.2.1 74 = .ok (.ireturn, 1) := by decide +kernel
theorem d_Rc_acceptLength_0 : decode m_Rc_acceptLength.2.1 0 = .ok (.iload_n 1, 1) := by decide +kernel
theorem d_Rc_acceptLength_1 : decode m_Rc_acceptLength.2.1 1 = .ok (.iconst 2, 1) := by decide +kernel
theorem d_Rc_acceptLength_2 : decode m_Rc_acceptLength.2.1 2 = .ok (.if_icmp .lt 9, 3) := by decide +kernel
theorem d_Rc_acceptLength_5 : decode m_Rc_acceptLength.2.1 5 = .ok (.iload_n 1, 1) := by decide +kernel
theorem d_Rc_acceptLength_6 : decode m_Rc_acceptLength.2.1 6 = .ok (.bipush 12, 2) := by decide +kernel
theorem d_Rc_acceptLength_8 : decode m_Rc_acceptLength.2.1 8 = .ok (.if_icmp .le 20, 3) := by decide +kernel
theorem d_Rc_acceptLength_11 : decode m_Rc_acceptLength.2.1 11 = .ok (.aload_n 0, 1) := by decide +kernel
theorem d_Rc_acceptLength_12 : decode m_Rc_acceptLength.2.1 12 = .ok (.iconst 0, 1) := by decide +kernel
theorem d_Rc_acceptLength_13 : decode m_Rc_acceptLength.2.1 13 = .ok (.putfield 15, 3) := by decide +kernel
theorem d_Rc_acceptLength_16 : decode m_Rc_acceptLength.2.1 16 = .ok (.aload_n 0, 1) := by decide +kernel
theorem d_Rc_acceptLength_17 : decode m_Rc_acceptLength.2.1 17 = .ok (.dup, 1) := by decide +kernel
theorem d_Rc_acceptLength_18 : decode m_Rc_acceptLength.2.1 18 = .ok (.getfield 35, 3) := by decide +kernel
theorem d_Rc_acceptLength_21 : decode m_Rc_acceptLength.2.1 21 = .ok (.iconst 1, 1) := by decide +kernel
theorem d_Rc_acceptLength_22 : decode m_Rc_acceptLength.2.1 22 = .ok (.iadd, 1) := by decide +kernel
theorem d_Rc_acceptLength_23 : decode m_Rc_acceptLength.2.1 23 = .ok (.putfield 35, 3) := by decide +kernel
theorem d_Rc_acceptLength_26 : decode m_Rc_acceptLength.2.1 26 = .ok (.iconst 3, 1) := by decide +kernel
theorem d_Rc_acceptLength_27 : decode m_Rc_acceptLength.2.1 27 = .ok (.ireturn, 1) := by decide +kernel
theorem d_Rc_acceptLength_28 : decode m_Rc_acceptLength.2.1 28 = .ok (.aload_n 0, 1) := by decide +kernel
theorem d_Rc_acceptLength_29 : decode m_Rc_acceptLength.2.1 29 = .ok (.iconst 2, 1) := by decide +kernel
theorem d_Rc_acceptLength_30 : decode m_Rc_acceptLength.2.1 30 = .ok (.putfield 15, 3) := by decide +kernel
theorem d_Rc_acceptLength_33 : decode m_Rc_acceptLength.2.1 33 = .ok (.aload_n 0, 1) := by decide +kernel
theorem d_Rc_acceptLength_34 : decode m_Rc_acceptLength.2.1 34 = .ok (.iload_n 1, 1) := by decide +kernel
theorem d_Rc_acceptLength_35 : decode m_Rc_acceptLength.2.1 35 = .ok (.putfield 38, 3) := by decide +kernel
theorem d_Rc_acceptLength_38 : decode m_Rc_acceptLength.2.1 38 = .ok (.aload_n 0, 1) := by decide +kernel
theorem d_Rc_acceptLength_39 : decode m_Rc_acceptLength.2.1 39 = .ok (.iconst 0, 1) := by decide +kernel
theorem d_Rc_acceptLength_40 : decode m_Rc_acceptLength.2.1 40 = .ok (.putfield 41, 3) := by decide +kernel
theorem d_Rc_acceptLength_43 : decode m_Rc_acceptLength.2.1 43 = .ok (.aload_n 0, 1) := by decide +kernel
theorem d_Rc_acceptLength_44 : decode m_Rc_acceptLength.2.1 44 = .ok (.sipush 255, 3) := by decide +kernel
theorem d_Rc_acceptLength_47 : decode m_Rc_acceptLength.2.1 47 = .ok (.putfield 44, 3) := by decide +kernel
theorem d_Rc_acceptLength_50 : decode m_Rc_acceptLength.2.1 50 = .ok (.iconst 0, 1) := by decide +kernel
theorem d_Rc_acceptLength_51 : decode m_Rc_acceptLength.2.1 51 = .ok (.ireturn, 1) := by decide +kernel
theorem d_Rc_init_0 : decode m_Rc_init.2.1 0 = .ok (.aload_n 0, 1) := by decide +kernel
theorem d_Rc_init_1 : decode m_Rc_init.2.1 1 = .ok (.invokespecial 3, 3) := by decide +kernel
theorem d_Rc_init_4 : decode m_Rc_init.2.1 4 = .ok (.aload_n 0, 1) := by decide +kernel
theorem d_Rc_init_5 : decode m_Rc_init.2.1 5 = .ok (.bipush 12, 2) := by decide +kernel
theorem d_Rc_init_7 : decode m_Rc_init.2.1 7 = .ok (.newarray .int, 2) := by decide +kernel
theorem d_Rc_init_9 : decode m_Rc_init.2.1 9 = .ok (.putfield 11, 3) := by decide +kernel
theorem d_Rc_init_12 : decode m_Rc_init.2.1 12 = .ok (.aload_n 0, 1) := by decide +kernel
theorem d_Rc_init_13 : decode m_Rc_init.2.1 13 = .ok (.iconst 0, 1) := by decide +kernel
theorem d_Rc_init_14 : decode m_Rc_init.2.1 14 = .ok (.putfield 15, 3) := by decide +kernel
theorem d_Rc_init_17 : decode m_Rc_init.2.1 17 = .ok (.return_, 1) := by decide +kernel
theorem d_St_add_0 : decode m_St_add.2.1 0 = .ok (.aload_n 0, 1) := by decide +kernel
theorem d_St_add_1 : decode m_St_add.2.1 1 = .ok (.getfield 22, 3) := by decide +kernel
theorem d_St_add_4 : decode m_St_add.2.1 4 = .ok (.bipush 10, 2) := by decide +kernel
theorem d_St_add_6 : decode m_St_add.2.1 6 = .ok (.if_icmp .lt 17, 3) := by decide +kernel
theorem d_St_add_9 : decode m_St_add.2.1 9 = .ok (.aload_n 0, 1) := by decide +kernel
theorem d_St_add_10 : decode m_St_add.2.1 10 = .ok (.invokevirtual 26, 3) := by decide +kernel
theorem d_St_add_13 : decode m_St_add.2.1 13 = .ok (.aload_n 0, 1) := by decide +kernel
theorem d_St_add_14 : decode m_St_add.2.1 14 = .ok (.dup, 1) := by decide +kernel
theorem d_St_add_15 : decode m_St_add.2.1 15 = .ok (.getfield 29, 3) := by decide +kernel
theorem d_St_add_18 : decode m_St_add.2.1 18 = .ok (.iconst 1, 1) := by decide +kernel
theorem d_St_add_19 : decode m_St_add.2.1 19 = .ok (.iadd, 1) := by decide +kernel
theorem d_St_add_20 : decode m_St_add.2.1 20 = .ok (.putfield 29, 3) := by decide +kernel
theorem d_St_add_23 : decode m_St_add.2.1 23 = .ok (.aload_n 0, 1) := by decide +kernel
theorem d_St_add_24 : decode m_St_add.2.1 24 = .ok (.getfield 32, 3) := by decide +kernel
theorem d_St_add_27 : decode m_St_add.2.1 27 = .ok (.aload_n 0, 1) := by decide +kernel
theorem d_St_add_28 : decode m_St_add.2.1 28 = .ok (.getfield 22, 3) := by decide +kernel
theorem d_St_add_31 : decode m_St_add.2.1 31 = .ok (.iadd, 1) := by decide +kernel
theorem d_St_add_32 : decode m_St_add.2.1 32 = .ok (.bipush 10, 2) := by decide +kernel
theorem d_St_add_34 : decode m_St_add.2.1 34 = .ok (.irem, 1) := by decide +kernel
theorem d_St_add_35 : decode m_St_add.2.1 35 = .ok (.istore 5, 2) := by decide +kernel
theorem d_St_add_37 : decode m_St_add.2.1 37 = .ok (.aload_n 0, 1) := by decide +kernel
theorem d_St_add_38 : decode m_St_add.2.1 38 = .ok (.getfield 9, 3) := by decide +kernel
theorem d_St_add_41 : decode m_St_add.2.1 41 = .ok (.iload 5, 2) := by decide +kernel
theorem d_St_add_43 : decode m_St_add.2.1 43 = .ok (.iload_n 1, 1) := by decide +kernel
theorem d_St_add_44 : decode m_St_add.2.1 44 = .ok (.iastore, 1) := by decide +kernel
theorem d_St_add_45 : decode m_St_add.2.1 45 = .ok (.aload_n 0, 1) := by decide +kernel
theorem d_St_add_46 : decode m_St_add.2.1 46 = .ok (.getfield 13, 3) := by decide +kernel
theorem d_St_add_49 : decode m_St_add.2.1 49 = .ok (.iload 5, 2) := by decide +kernel
theorem d_St_add_51 : decode m_St_add.2.1 51 = .ok (.iload_n 2, 1) := by decide +kernel
theorem d_St_add_52 : decode m_St_add.2.1 52 = .ok (.iastore, 1) := by decide +kernel
theorem d_St_add_53 : decode m_St_add.2.1 53 = .ok (.aload_n 0, 1) := by decide +kernel
theorem d_St_add_54 : decode m_St_add.2.1 54 = .ok (.getfield 16, 3) := by decide +kernel
theorem d_St_add_57 : decode m_St_add.2.1 57 = .ok (.iload 5, 2) := by decide +kernel
theorem d_St_add_59 : decode m_St_add.2.1 59 = .ok (.iload_n 3, 1) := by decide +kernel
theorem d_St_add_60 : decode m_St_add.2.1 60 = .ok (.iastore, 1) := by decide +kernel
theorem d_St_add_61 : decode m_St_add.2.1 61 = .ok (.aload_n 0, 1) := by decide +kernel
theorem d_St_add_62 : decode m_St_add.2.1 62 = .ok (.getfield 19, 3) := by decide +kernel
theorem d_St_add_65 : decode m_St_add.2.1 65 = .ok (.iload 5, 2) := by decide +kernel
theorem d_St_add_67 : decode m_St_add.2.1 67 = .ok (.iload 4, 2) := by decide +kernel
theorem d_St_add_69 : decode m_St_add.2.1 69 = .ok (.iastore, 1) := by decide +kernel
theorem d_St_add_70 : decode m_St_add.2.1 70 = .ok (.aload_n 0, 1) := by decide +kernel
theorem d_St_add_71 : decode m_St_add.2.1 71 = .ok (.dup, 1) := by decide +kernel
theorem d_St_add_72 : decode m_St_add.2.1 72 = .ok (.getfield 22, 3) := by decide +kernel
theorem d_St_add_75 : decode m_St_add.2.1 75 = .ok (.iconst 1, 1) := by decide +kernel
theorem d_St_add_76 : decode m_St_add.2.1 76 = .ok (.iadd, 1) := by decide +kernel
theorem d_St_add_77 : decode m_St_add.2.1 77 = .ok (.putfield 22, 3) := by decide +kernel
theorem d_St_add_80 : decode m_St_add.2.1 80 = .ok (.return_, 1) := by decide +kernel
theorem d_St_init_0 : decode m_St_init.2.1 0 = .ok (.aload_n 0, 1) := by decide +kernel
theorem d_St_init_1 : decode m_St_init.2.1 1 = .ok (.invokespecial 1, 3) := by decide +kernel
theorem d_St_init_4 : decode m_St_init.2.1 4 = .ok (.aload_n 0, 1) := by decide +kernel
theorem d_St_init_5 : decode m_St_init.2.1 5 = .ok (.bipush 10, 2) := by decide +kernel
theorem d_St_init_7 : decode m_St_init.2.1 7 = .ok (.newarray .int, 2) := by decide +kernel
theorem d_St_init_9 : decode m_St_init.2.1 9 = .ok (.putfield 9, 3) := by decide +kernel
theorem d_St_init_12 : decode m_St_init.2.1 12 = .ok (.aload_n 0, 1) := by decide +kernel
theorem d_St_init_13 : decode m_St_init.2.1 13 = .ok (.bipush 10, 2) := by decide +kernel
theorem d_St_init_15 : decode m_St_init.2.1 15 = .ok (.newarray .int, 2) := by decide +kernel
theorem d_St_init_17 : decode m_St_init.2.1 17 = .ok (.putfield 13, 3) := by decide +kernel
theorem d_St_init_20 : decode m_St_init.2.1 20 = .ok (.aload_n 0, 1) := by decide +kernel
theorem d_St_init_21 : decode m_St_init.2.1 21 = .ok (.bipush 10, 2) := by decide +kernel
theorem d_St_init_23 : decode m_St_init.2.1 23 = .ok (.newarray .int, 2) := by decide +kernel
theorem d_St_init_25 : decode m_St_init.2.1 25 = .ok (.putfield 16, 3) := by decide +kernel
theorem d_St_init_28 : decode m_St_init.2.1 28 = .ok (.aload_n 0, 1) := by decide +kernel
theorem d_St_init_29 : decode m_St_init.2.1 29 = .ok (.bipush 10, 2) := by decide +kernel
theorem d_St_init_31 : decode m_St_init.2.1 31 = .ok (.newarray .int, 2) := by decide +kernel
theorem d_St_init_33 : decode m_St_init.2.1 33 = .ok (.putfield 19, 3) := by decide +kernel
theorem d_St_init_36 : decode m_St_init.2.1 36 = .ok (.return_, 1) := by decide +kernel
theorem d_St_isEmpty_0 : decode m_St_isEmpty.2.1 0 = .ok (.aload_n 0, 1) := by decide +kernel
theorem d_St_isEmpty_1 : decode m_St_isEmpty.2.1 1 = .ok (.getfield 22, 3) := by decide +kernel
theorem d_St_isEmpty_4 : decode m_St_isEmpty.2.1 4 = .ok (.ifCond .ne 7, 3) := by decide +kernel
theorem d_St_isEmpty_7 : decode m_St_isEmpty.2.1 7 = .ok (.iconst 1, 1) := by decide +kernel
theorem d_St_isEmpty_8 : decode m_St_isEmpty.2.1 8 = .ok (.goto 4, 3) := by decide +kernel
theorem d_St_isEmpty_11 : decode m_St_isEmpty.2.1 11 = .ok (.iconst 0, 1) := by decide +kernel
theorem d_St_isEmpty_12 : decode m_St_isEmpty.2.1 12 = .ok (.ireturn, 1) := by decide +kernel
theorem d_St_oldestClock_0 : decode m_St_oldestClock.2.1 0 = .ok (.aload_n 0, 1) := by decide +kernel
theorem d_St_oldestClock_1 : decode m_St_oldestClock.2.1 1 = .ok (.getfield 13, 3) := by decide +kernel
theorem d_St_oldestClock_4 : decode m_St_oldestClock.2.1 4 = .ok (.aload_n 0, 1) := by decide +kernel
theorem d_St_oldestClock_5 : decode m_St_oldestClock.2.1 5 = .ok (.getfield 32, 3) := by decide +kernel
theorem d_St_oldestClock_8 : decode m_St_oldestClock.2.1 8 = .ok (.iaload, 1) := by decide +kernel
theorem d_St_oldestClock_9 : decode m_St_oldestClock.2.1 9 = .ok (.ireturn, 1) := by decide +kernel
theorem d_St_oldestFirst_0 : decode m_St_oldestFirst.2.1 0 = .ok (.aload_n 0, 1) := by decide +kernel
theorem d_St_oldestFirst_1 : decode m_St_oldestFirst.2.1 1 = .ok (.getfield 16, 3) := by decide +kernel
theorem d_St_oldestFirst_4 : decode m_St_oldestFirst.2.1 4 = .ok (.aload_n 0, 1) := by decide +kernel
theorem d_St_oldestFirst_5 : decode m_St_oldestFirst.2.1 5 = .ok (.getfield 32, 3) := by decide +kernel
theorem d_St_oldestFirst_8 : decode m_St_oldestFirst.2.1 8 = .ok (.iaload, 1) := by decide +kernel
theorem d_St_oldestFirst_9 : decode m_St_oldestFirst.2.1 9 = .ok (.ireturn, 1) := by decide +kernel
theorem d_St_oldestKind_0 : decode m_St_oldestKind.2.1 0 = .ok (.aload_n 0, 1) := by decide +kernel
theorem d_St_oldestKind_1 : decode m_St_oldestKind.2.1 1 = .ok (.getfield 9, 3) := by decide +kernel
theorem d_St_oldestKind_4 : decode m_St_oldestKind.2.1 4 = .ok (.aload_n 0, 1) := by decide +kernel
theorem d_St_oldestKind_5 : decode m_St_oldestKind.2.1 5 = .ok (.getfield 32, 3) := by decide +kernel
theorem d_St_oldestKind_8 : decode m_St_oldestKind.2.1 8 = .ok (.iaload, 1) := by decide +kernel
theorem d_St_oldestKind_9 : decode m_St_oldestKind.2.1 9 = .ok (.ireturn, 1) := by decide +kernel
theorem d_St_oldestSecond_0 : decode m_St_oldestSecond.2.1 0 = .ok (.aload_n 0, 1) := by decide +kernel
theorem d_St_oldestSecond_1 : decode m_St_oldestSecond.2.1 1 = .ok (.getfield 19, 3) := by decide +kernel
theorem d_St_oldestSecond_4 : decode m_St_oldestSecond.2.1 4 = .ok (.aload_n 0, 1) := by decide +kernel
theorem d_St_oldestSecond_5 : decode m_St_oldestSecond.2.1 5 = .ok (.getfield 32, 3) := by decide +kernel
theorem d_St_oldestSecond_8 : decode m_St_oldestSecond.2.1 8 = .ok (.iaload, 1) := by decide +kernel
theorem d_St_oldestSecond_9 : decode m_St_oldestSecond.2.1 9 = .ok (.ireturn, 1) := by decide +kernel
theorem d_St_removeOldest_0 : decode m_St_removeOldest.2.1 0 = .ok (.aload_n 0, 1) := by decide +kernel
theorem d_St_removeOldest_1 : decode m_St_removeOldest.2.1 1 = .ok (.getfield 22, 3) := by decide +kernel
theorem d_St_removeOldest_4 : decode m_St_removeOldest.2.1 4 = .ok (.ifCond .le 26, 3) := by decide +kernel
theorem d_St_removeOldest_7 : decode m_St_removeOldest.2.1 7 = .ok (.aload_n 0, 1) := by decide +kernel
theorem d_St_removeOldest_8 : decode m_St_removeOldest.2.1 8 = .ok (.aload_n 0, 1) := by decide +kernel
theorem d_St_removeOldest_9 : decode m_St_removeOldest.2.1 9 = .ok (.getfield 32, 3) := by decide +kernel
theorem d_St_removeOldest_12 : decode m_St_removeOldest.2.1 12 = .ok (.iconst 1, 1) := by decide +kernel
theorem d_St_removeOldest_13 : decode m_St_removeOldest.2.1 13 = .ok (.iadd, 1) := by decide +kernel
theorem d_St_removeOldest_14 : decode m_St_removeOldest.2.1 14 = .ok (.bipush 10, 2) := by decide +kernel
theorem d_St_removeOldest_16 : decode m_St_removeOldest.2.1 16 = .ok (.irem, 1) := by decide +kernel
theorem d_St_removeOldest_17 : decode m_St_removeOldest.2.1 17 = .ok (.putfield 32, 3) := by decide +kernel
theorem d_St_removeOldest_20 : decode m_St_removeOldest.2.1 20 = .ok (.aload_n 0, 1) := by decide +kernel
theorem d_St_removeOldest_21 : decode m_St_removeOldest.2.1 21 = .ok (.dup, 1) := by decide +kernel
theorem d_St_removeOldest_22 : decode m_St_removeOldest.2.1 22 = .ok (.getfield 22, 3) := by decide +kernel
theorem d_St_removeOldest_25 : decode m_St_removeOldest.2.1 25 = .ok (.iconst 1, 1) := by decide +kernel
theorem d_St_removeOldest_26 : decode m_St_removeOldest.2.1 26 = .ok (.isub, 1) := by decide +kernel
theorem d_St_removeOldest_27 : decode m_St_removeOldest.2.1 27 = .ok (.putfield 22, 3) := by decide +kernel
theorem d_St_removeOldest_30 : decode m_St_removeOldest.2.1 30 = .ok (.return_, 1) := by decide +kernel
theorem d_Wa_init_0 : decode m_Wa_init.2.1 0 = .ok (.aload_n 0, 1) := by decide +kernel
theorem d_Wa_init_1 : decode m_Wa_init.2.1 1 = .ok (.invokespecial 1, 3) := by decide +kernel
theorem d_Wa_init_4 : decode m_Wa_init.2.1 4 = .ok (.return_, 1) := by decide +kernel
theorem d_Wa_start_0 : decode m_Wa_start.2.1 0 = .ok (.aload_n 0, 1) := by decide +kernel
theorem d_Wa_start_1 : decode m_Wa_start.2.1 1 = .ok (.iconst 1, 1) := by decide +kernel
theorem d_Wa_start_2 : decode m_Wa_start.2.1 2 = .ok (.putfield 7, 3) := by decide +kernel
theorem d_Wa_start_5 : decode m_Wa_start.2.1 5 = .ok (.aload_n 0, 1) := by decide +kernel
theorem d_Wa_start_6 : decode m_Wa_start.2.1 6 = .ok (.aload_n 1, 1) := by decide +kernel
theorem d_Wa_start_7 : decode m_Wa_start.2.1 7 = .ok (.iconst 2, 1) := by decide +kernel
theorem d_Wa_start_8 : decode m_Wa_start.2.1 8 = .ok (.invokevirtual 13, 3) := by decide +kernel
theorem d_Wa_start_11 : decode m_Wa_start.2.1 11 = .ok (.putfield 19, 3) := by decide +kernel
theorem d_Wa_start_14 : decode m_Wa_start.2.1 14 = .ok (.aload_n 0, 1) := by decide +kernel
theorem d_Wa_start_15 : decode m_Wa_start.2.1 15 = .ok (.aload_n 1, 1) := by decide +kernel
theorem d_Wa_start_16 : decode m_Wa_start.2.1 16 = .ok (.iconst 3, 1) := by decide +kernel
theorem d_Wa_start_17 : decode m_Wa_start.2.1 17 = .ok (.invokevirtual 13, 3) := by decide +kernel
theorem d_Wa_start_20 : decode m_Wa_start.2.1 20 = .ok (.invokestatic 23, 3) := by decide +kernel
theorem d_Wa_start_23 : decode m_Wa_start.2.1 23 = .ok (.putfield 28, 3) := by decide +kernel
theorem d_Wa_start_26 : decode m_Wa_start.2.1 26 = .ok (.aload_n 0, 1) := by decide +kernel
theorem d_Wa_start_27 : decode m_Wa_start.2.1 27 = .ok (.aload_n 1, 1) := by decide +kernel
theorem d_Wa_start_28 : decode m_Wa_start.2.1 28 = .ok (.iconst 4, 1) := by decide +kernel
theorem d_Wa_start_29 : decode m_Wa_start.2.1 29 = .ok (.invokevirtual 13, 3) := by decide +kernel
theorem d_Wa_start_32 : decode m_Wa_start.2.1 32 = .ok (.invokestatic 23, 3) := by decide +kernel
theorem d_Wa_start_35 : decode m_Wa_start.2.1 35 = .ok (.putfield 31, 3) := by decide +kernel
theorem d_Wa_start_38 : decode m_Wa_start.2.1 38 = .ok (.aload_n 0, 1) := by decide +kernel
theorem d_Wa_start_39 : decode m_Wa_start.2.1 39 = .ok (.aload_n 1, 1) := by decide +kernel
theorem d_Wa_start_40 : decode m_Wa_start.2.1 40 = .ok (.iconst 5, 1) := by decide +kernel
theorem d_Wa_start_41 : decode m_Wa_start.2.1 41 = .ok (.invokevirtual 13, 3) := by decide +kernel
theorem d_Wa_start_44 : decode m_Wa_start.2.1 44 = .ok (.putfield 34, 3) := by decide +kernel
theorem d_Wa_start_47 : decode m_Wa_start.2.1 47 = .ok (.aload_n 0, 1) := by decide +kernel
theorem d_Wa_start_48 : decode m_Wa_start.2.1 48 = .ok (.aload_n 1, 1) := by decide +kernel
theorem d_Wa_start_49 : decode m_Wa_start.2.1 49 = .ok (.bipush 6, 2) := by decide +kernel
theorem d_Wa_start_51 : decode m_Wa_start.2.1 51 = .ok (.invokevirtual 13, 3) := by decide +kernel
theorem d_Wa_start_54 : decode m_Wa_start.2.1 54 = .ok (.putfield 37, 3) := by decide +kernel
theorem d_Wa_start_57 : decode m_Wa_start.2.1 57 = .ok (.aload_n 0, 1) := by decide +kernel
theorem d_Wa_start_58 : decode m_Wa_start.2.1 58 = .ok (.iconst 0, 1) := by decide +kernel
theorem d_Wa_start_59 : decode m_Wa_start.2.1 59 = .ok (.putfield 40, 3) := by decide +kernel
theorem d_Wa_start_62 : decode m_Wa_start.2.1 62 = .ok (.return_, 1) := by decide +kernel
theorem d_Wa_strikesOut_0 : decode m_Wa_strikesOut.2.1 0 = .ok (.iload_n 1, 1) := by decide +kernel
theorem d_Wa_strikesOut_1 : decode m_Wa_strikesOut.2.1 1 = .ok (.aload_n 0, 1) := by decide +kernel
theorem d_Wa_strikesOut_2 : decode m_Wa_strikesOut.2.1 2 = .ok (.getfield 28, 3) := by decide +kernel
theorem d_Wa_strikesOut_5 : decode m_Wa_strikesOut.2.1 5 = .ok (.if_icmp .lt 18, 3) := by decide +kernel
theorem d_Wa_strikesOut_8 : decode m_Wa_strikesOut.2.1 8 = .ok (.iload_n 1, 1) := by decide +kernel
theorem d_Wa_strikesOut_9 : decode m_Wa_strikesOut.2.1 9 = .ok (.aload_n 0, 1) := by decide +kernel
theorem d_Wa_strikesOut_10 : decode m_Wa_strikesOut.2.1 10 = .ok (.getfield 31, 3) := by decide +kernel
theorem d_Wa_strikesOut_13 : decode m_Wa_strikesOut.2.1 13 = .ok (.if_icmp .gt 10, 3) := by decide +kernel
theorem d_Wa_strikesOut_16 : decode m_Wa_strikesOut.2.1 16 = .ok (.aload_n 0, 1) := by decide +kernel
theorem d_Wa_strikesOut_17 : decode m_Wa_strikesOut.2.1 17 = .ok (.iconst 0, 1) := by decide +kernel
theorem d_Wa_strikesOut_18 : decode m_Wa_strikesOut.2.1 18 = .ok (.putfield 40, 3) := by decide +kernel
theorem d_Wa_strikesOut_21 : decode m_Wa_strikesOut.2.1 21 = .ok (.iconst 0, 1) := by decide +kernel
theorem d_Wa_strikesOut_22 : decode m_Wa_strikesOut.2.1 22 = .ok (.ireturn, 1) := by decide +kernel
theorem d_Wa_strikesOut_23 : decode m_Wa_strikesOut.2.1 23 = .ok (.aload_n 0, 1) := by decide +kernel
theorem d_Wa_strikesOut_24 : decode m_Wa_strikesOut.2.1 24 = .ok (.getfield 40, 3) := by decide +kernel
theorem d_Wa_strikesOut_27 : decode m_Wa_strikesOut.2.1 27 = .ok (.aload_n 0, 1) := by decide +kernel
theorem d_Wa_strikesOut_28 : decode m_Wa_strikesOut.2.1 28 = .ok (.getfield 34, 3) := by decide +kernel
theorem d_Wa_strikesOut_31 : decode m_Wa_strikesOut.2.1 31 = .ok (.if_icmp .lt 5, 3) := by decide +kernel
theorem d_Wa_strikesOut_34 : decode m_Wa_strikesOut.2.1 34 = .ok (.iconst 0, 1) := by decide +kernel
theorem d_Wa_strikesOut_35 : decode m_Wa_strikesOut.2.1 35 = .ok (.ireturn, 1) := by decide +kernel
theorem d_Wa_strikesOut_36 : decode m_Wa_strikesOut.2.1 36 = .ok (.aload_n 0, 1) := by decide +kernel
theorem d_Wa_strikesOut_37 : decode m_Wa_strikesOut.2.1 37 = .ok (.dup, 1) := by decide +kernel
theorem d_Wa_strikesOut_38 : decode m_Wa_strikesOut.2.1 38 = .ok (.getfield 40, 3) := by decide +kernel
theorem d_Wa_strikesOut_41 : decode m_Wa_strikesOut.2.1 41 = .ok (.iconst 1, 1) := by decide +kernel
theorem d_Wa_strikesOut_42 : decode m_Wa_strikesOut.2.1 42 = .ok (.iadd, 1) := by decide +kernel
theorem d_Wa_strikesOut_43 : decode m_Wa_strikesOut.2.1 43 = .ok (.putfield 40, 3) := by decide +kernel
theorem d_Wa_strikesOut_46 : decode m_Wa_strikesOut.2.1 46 = .ok (.aload_n 0, 1) := by decide +kernel
theorem d_Wa_strikesOut_47 : decode m_Wa_strikesOut.2.1 47 = .ok (.getfield 40, 3) := by decide +kernel
theorem d_Wa_strikesOut_50 : decode m_Wa_strikesOut.2.1 50 = .ok (.aload_n 0, 1) := by decide +kernel
theorem d_Wa_strikesOut_51 : decode m_Wa_strikesOut.2.1 51 = .ok (.getfield 34, 3) := by decide +kernel
theorem d_Wa_strikesOut_54 : decode m_Wa_strikesOut.2.1 54 = .ok (.if_icmp .ne 7, 3) := by decide +kernel
theorem d_Wa_strikesOut_57 : decode m_Wa_strikesOut.2.1 57 = .ok (.iconst 1, 1) := by decide +kernel
theorem d_Wa_strikesOut_58 : decode m_Wa_strikesOut.2.1 58 = .ok (.goto 4, 3) := by decide +kernel
theorem d_Wa_strikesOut_61 : decode m_Wa_strikesOut.2.1 61 = .ok (.iconst 0, 1) := by decide +kernel
theorem d_Wa_strikesOut_62 : decode m_Wa_strikesOut.2.1 62 = .ok (.ireturn, 1) := by decide +kernel
