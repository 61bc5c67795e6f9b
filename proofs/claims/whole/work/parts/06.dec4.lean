theorem d_M_plannedService_0 : decode m_M_plannedService.2.1 0 = .ok (.aload_n 0, 1) := by decide +kernel
theorem d_M_plannedService_1 : decode m_M_plannedService.2.1 1 = .ok (.iconst 0, 1) := by decide +kernel
theorem d_M_plannedService_2 : decode m_M_plannedService.2.1 2 = .ok (.iload_n 1, 1) := by decide +kernel
theorem d_M_plannedService_3 : decode m_M_plannedService.2.1 3 = .ok (.invokevirtual 168, 3) := by decide +kernel
theorem d_M_plannedService_6 : decode m_M_plannedService.2.1 6 = .ok (.istore_n 2, 1) := by decide +kernel
theorem d_M_plannedService_7 : decode m_M_plannedService.2.1 7 = .ok (.iload_n 2, 1) := by decide +kernel
theorem d_M_plannedService_8 : decode m_M_plannedService.2.1 8 = .ok (.bipush 6, 2) := by decide +kernel
theorem d_M_plannedService_10 : decode m_M_plannedService.2.1 10 = .ok (.if_icmp .ne 9, 3) := by decide +kernel
theorem d_M_plannedService_13 : decode m_M_plannedService.2.1 13 = .ok (.sipush (-1000), 3) := by decide +kernel
theorem d_M_plannedService_16 : decode m_M_plannedService.2.1 16 = .ok (.goto 12, 3) := by decide +kernel
theorem d_M_plannedService_19 : decode m_M_plannedService.2.1 19 = .ok (.aload_n 0, 1) := by decide +kernel
theorem d_M_plannedService_20 : decode m_M_plannedService.2.1 20 = .ok (.getfield 20, 3) := by decide +kernel
theorem d_M_plannedService_23 : decode m_M_plannedService.2.1 23 = .ok (.bipush 12, 2) := by decide +kernel
theorem d_M_plannedService_25 : decode m_M_plannedService.2.1 25 = .ok (.iload_n 2, 1) := by decide +kernel
theorem d_M_plannedService_26 : decode m_M_plannedService.2.1 26 = .ok (.imul, 1) := by decide +kernel
theorem d_M_plannedService_27 : decode m_M_plannedService.2.1 27 = .ok (.iaload, 1) := by decide +kernel
theorem d_M_plannedService_28 : decode m_M_plannedService.2.1 28 = .ok (.ireturn, 1) := by decide +kernel
theorem d_M_refusal_0 : decode m_M_refusal.2.1 0 = .ok (.aload_n 0, 1) := by decide +kernel
theorem d_M_refusal_1 : decode m_M_refusal.2.1 1 = .ok (.getfield 17, 3) := by decide +kernel
theorem d_M_refusal_4 : decode m_M_refusal.2.1 4 = .ok (.iconst 0, 1) := by decide +kernel
theorem d_M_refusal_5 : decode m_M_refusal.2.1 5 = .ok (.iaload, 1) := by decide +kernel
theorem d_M_refusal_6 : decode m_M_refusal.2.1 6 = .ok (.istore_n 1, 1) := by decide +kernel
theorem d_M_refusal_7 : decode m_M_refusal.2.1 7 = .ok (.aload_n 0, 1) := by decide +kernel
theorem d_M_refusal_8 : decode m_M_refusal.2.1 8 = .ok (.getfield 102, 3) := by decide +kernel
theorem d_M_refusal_11 : decode m_M_refusal.2.1 11 = .ok (.ifCond .eq 27, 3) := by decide +kernel
theorem d_M_refusal_14 : decode m_M_refusal.2.1 14 = .ok (.iload_n 1, 1) := by decide +kernel
theorem d_M_refusal_15 : decode m_M_refusal.2.1 15 = .ok (.iconst 1, 1) := by decide +kernel
theorem d_M_refusal_16 : decode m_M_refusal.2.1 16 = .ok (.if_icmp .eq 22, 3) := by decide +kernel
theorem d_M_refusal_19 : decode m_M_refusal.2.1 19 = .ok (.iload_n 1, 1) := by decide +kernel
theorem d_M_refusal_20 : decode m_M_refusal.2.1 20 = .ok (.iconst 2, 1) := by decide +kernel
theorem d_M_refusal_21 : decode m_M_refusal.2.1 21 = .ok (.if_icmp .eq 17, 3) := by decide +kernel
theorem d_M_refusal_24 : decode m_M_refusal.2.1 24 = .ok (.iload_n 1, 1) := by decide +kernel
theorem d_M_refusal_25 : decode m_M_refusal.2.1 25 = .ok (.bipush 7, 2) := by decide +kernel
theorem d_M_refusal_27 : decode m_M_refusal.2.1 27 = .ok (.if_icmp .eq 11, 3) := by decide +kernel
theorem d_M_refusal_30 : decode m_M_refusal.2.1 30 = .ok (.iload_n 1, 1) := by decide +kernel
theorem d_M_refusal_31 : decode m_M_refusal.2.1 31 = .ok (.bipush 11, 2) := by decide +kernel
theorem d_M_refusal_33 : decode m_M_refusal.2.1 33 = .ok (.if_icmp .eq 5, 3) := by decide +kernel
theorem d_M_refusal_36 : decode m_M_refusal.2.1 36 = .ok (.iconst 4, 1) := by decide +kernel
theorem d_M_refusal_37 : decode m_M_refusal.2.1 37 = .ok (.ireturn, 1) := by decide +kernel
theorem d_M_refusal_38 : decode m_M_refusal.2.1 38 = .ok (.iload_n 1, 1) := by decide +kernel
theorem d_M_refusal_39 : decode m_M_refusal.2.1 39 = .ok (.iconst 3, 1) := by decide +kernel
theorem d_M_refusal_40 : decode m_M_refusal.2.1 40 = .ok (.if_icmp .ne 14, 3) := by decide +kernel
theorem d_M_refusal_43 : decode m_M_refusal.2.1 43 = .ok (.aload_n 0, 1) := by decide +kernel
theorem d_M_refusal_44 : decode m_M_refusal.2.1 44 = .ok (.invokevirtual 106, 3) := by decide +kernel
theorem d_M_refusal_47 : decode m_M_refusal.2.1 47 = .ok (.bipush 6, 2) := by decide +kernel
theorem d_M_refusal_49 : decode m_M_refusal.2.1 49 = .ok (.if_icmp .ne 5, 3) := by decide +kernel
theorem d_M_refusal_52 : decode m_M_refusal.2.1 52 = .ok (.iconst 5, 1) := by decide +kernel
theorem d_M_refusal_53 : decode m_M_refusal.2.1 53 = .ok (.ireturn, 1) := by decide +kernel
theorem d_M_refusal_54 : decode m_M_refusal.2.1 54 = .ok (.iload_n 1, 1) := by decide +kernel
theorem d_M_refusal_55 : decode m_M_refusal.2.1 55 = .ok (.iconst 3, 1) := by decide +kernel
theorem d_M_refusal_56 : decode m_M_refusal.2.1 56 = .ok (.if_icmp .ne 27, 3) := by decide +kernel
theorem d_M_refusal_59 : decode m_M_refusal.2.1 59 = .ok (.aload_n 0, 1) := by decide +kernel
theorem d_M_refusal_60 : decode m_M_refusal.2.1 60 = .ok (.getfield 17, 3) := by decide +kernel
theorem d_M_refusal_63 : decode m_M_refusal.2.1 63 = .ok (.iconst 1, 1) := by decide +kernel
theorem d_M_refusal_64 : decode m_M_refusal.2.1 64 = .ok (.iaload, 1) := by decide +kernel
theorem d_M_refusal_65 : decode m_M_refusal.2.1 65 = .ok (.sipush 256, 3) := by decide +kernel
theorem d_M_refusal_68 : decode m_M_refusal.2.1 68 = .ok (.imul, 1) := by decide +kernel
theorem d_M_refusal_69 : decode m_M_refusal.2.1 69 = .ok (.aload_n 0, 1) := by decide +kernel
theorem d_M_refusal_70 : decode m_M_refusal.2.1 70 = .ok (.getfield 17, 3) := by decide +kernel
theorem d_M_refusal_73 : decode m_M_refusal.2.1 73 = .ok (.iconst 2, 1) := by decide +kernel
theorem d_M_refusal_74 : decode m_M_refusal.2.1 74 = .ok (.iaload, 1) := by decide +kernel
theorem d_M_refusal_75 : decode m_M_refusal.2.1 75 = .ok (.iadd, 1) := by decide +kernel
theorem d_M_refusal_76 : decode m_M_refusal.2.1 76 = .ok (.aload_n 0, 1) := by decide +kernel
theorem d_M_refusal_77 : decode m_M_refusal.2.1 77 = .ok (.getfield 84, 3) := by decide +kernel
theorem d_M_refusal_80 : decode m_M_refusal.2.1 80 = .ok (.if_icmp .le 24, 3) := by decide +kernel
theorem d_M_refusal_83 : decode m_M_refusal.2.1 83 = .ok (.iload_n 1, 1) := by decide +kernel
theorem d_M_refusal_84 : decode m_M_refusal.2.1 84 = .ok (.iconst 5, 1) := by decide +kernel
theorem d_M_refusal_85 : decode m_M_refusal.2.1 85 = .ok (.if_icmp .ne 22, 3) := by decide +kernel
theorem d_M_refusal_88 : decode m_M_refusal.2.1 88 = .ok (.aload_n 0, 1) := by decide +kernel
theorem d_M_refusal_89 : decode m_M_refusal.2.1 89 = .ok (.aload_n 0, 1) := by decide +kernel
theorem d_M_refusal_90 : decode m_M_refusal.2.1 90 = .ok (.getfield 17, 3) := by decide +kernel
theorem d_M_refusal_93 : decode m_M_refusal.2.1 93 = .ok (.iconst 1, 1) := by decide +kernel
theorem d_M_refusal_94 : decode m_M_refusal.2.1 94 = .ok (.iaload, 1) := by decide +kernel
theorem d_M_refusal_95 : decode m_M_refusal.2.1 95 = .ok (.invokestatic 87, 3) := by decide +kernel
theorem d_M_refusal_98 : decode m_M_refusal.2.1 98 = .ok (.invokevirtual 110, 3) := by decide +kernel
theorem d_M_refusal_101 : decode m_M_refusal.2.1 101 = .ok (.ifCond .eq 6, 3) := by decide +kernel
theorem d_M_refusal_104 : decode m_M_refusal.2.1 104 = .ok (.bipush 6, 2) := by decide +kernel
theorem d_M_refusal_106 : decode m_M_refusal.2.1 106 = .ok (.ireturn, 1) := by decide +kernel
theorem d_M_refusal_107 : decode m_M_refusal.2.1 107 = .ok (.iconst 0, 1) := by decide +kernel
theorem d_M_refusal_108 : decode m_M_refusal.2.1 108 = .ok (.ireturn, 1) := by decide +kernel
theorem d_M_report_0 : decode m_M_report.2.1 0 = .ok (.aload_n 0, 1) := by decide +kernel
theorem d_M_report_1 : decode m_M_report.2.1 1 = .ok (.getfield 75, 3) := by decide +kernel
theorem d_M_report_4 : decode m_M_report.2.1 4 = .ok (.ifCond .eq 12, 3) := by decide +kernel
theorem d_M_report_7 : decode m_M_report.2.1 7 = .ok (.iload_n 1, 1) := by decide +kernel
theorem d_M_report_8 : decode m_M_report.2.1 8 = .ok (.ifCond .lt 8, 3) := by decide +kernel
theorem d_M_report_11 : decode m_M_report.2.1 11 = .ok (.iload_n 1, 1) := by decide +kernel
theorem d_M_report_12 : decode m_M_report.2.1 12 = .ok (.iconst 3, 1) := by decide +kernel
theorem d_M_report_13 : decode m_M_report.2.1 13 = .ok (.if_icmp .le 9, 3) := by decide +kernel
theorem d_M_report_16 : decode m_M_report.2.1 16 = .ok (.sipush (-1000), 3) := by decide +kernel
theorem d_M_report_19 : decode m_M_report.2.1 19 = .ok (.goto 9, 3) := by decide +kernel
theorem d_M_report_22 : decode m_M_report.2.1 22 = .ok (.aload_n 0, 1) := by decide +kernel
theorem d_M_report_23 : decode m_M_report.2.1 23 = .ok (.getfield 72, 3) := by decide +kernel
theorem d_M_report_26 : decode m_M_report.2.1 26 = .ok (.iload_n 1, 1) := by decide +kernel
theorem d_M_report_27 : decode m_M_report.2.1 27 = .ok (.iaload, 1) := by decide +kernel
theorem d_M_report_28 : decode m_M_report.2.1 28 = .ok (.ireturn, 1) := by decide +kernel
theorem d_M_run_0 : decode m_M_run.2.1 0 = .ok (.iload_n 1, 1) := by decide +kernel
theorem d_M_run_1 : decode m_M_run.2.1 1 = .ok (.iconst 2, 1) := by decide +kernel
theorem d_M_run_2 : decode m_M_run.2.1 2 = .ok (.if_icmp .ge 16, 3) := by decide +kernel
theorem d_M_run_5 : decode m_M_run.2.1 5 = .ok (.aload_n 0, 1) := by decide +kernel
theorem d_M_run_6 : decode m_M_run.2.1 6 = .ok (.iload_n 1, 1) := by decide +kernel
theorem d_M_run_7 : decode m_M_run.2.1 7 = .ok (.ifCond .ne 7, 3) := by decide +kernel
theorem d_M_run_10 : decode m_M_run.2.1 10 = .ok (.iconst 1, 1) := by decide +kernel
theorem d_M_run_11 : decode m_M_run.2.1 11 = .ok (.goto 4, 3) := by decide +kernel
theorem d_M_run_14 : decode m_M_run.2.1 14 = .ok (.iconst 0, 1) := by decide +kernel
theorem d_M_run_15 : decode m_M_run.2.1 15 = .ok (.putfield 116, 3) := by decide +kernel
theorem d_M_run_18 : decode m_M_run.2.1 18 = .ok (.iconst 0, 1) := by decide +kernel
theorem d_M_run_19 : decode m_M_run.2.1 19 = .ok (.istore_n 2, 1) := by decide +kernel
theorem d_M_run_20 : decode m_M_run.2.1 20 = .ok (.iload_n 2, 1) := by decide +kernel
theorem d_M_run_21 : decode m_M_run.2.1 21 = .ok (.bipush 6, 2) := by decide +kernel
theorem d_M_run_23 : decode m_M_run.2.1 23 = .ok (.if_icmp .ge 30, 3) := by decide +kernel
theorem d_M_run_26 : decode m_M_run.2.1 26 = .ok (.iload_n 1, 1) := by decide +kernel
theorem d_M_run_27 : decode m_M_run.2.1 27 = .ok (.iconst 2, 1) := by decide +kernel
theorem d_M_run_28 : decode m_M_run.2.1 28 = .ok (.if_icmp .ne 25, 3) := by decide +kernel
theorem d_M_run_31 : decode m_M_run.2.1 31 = .ok (.aload_n 0, 1) := by decide +kernel
theorem d_M_run_32 : decode m_M_run.2.1 32 = .ok (.getfield 32, 3) := by decide +kernel
theorem d_M_run_35 : decode m_M_run.2.1 35 = .ok (.iload_n 2, 1) := by decide +kernel
theorem d_M_run_36 : decode m_M_run.2.1 36 = .ok (.baload, 1) := by decide +kernel
theorem d_M_run_37 : decode m_M_run.2.1 37 = .ok (.ifCond .ne 10, 3) := by decide +kernel
theorem d_M_run_40 : decode m_M_run.2.1 40 = .ok (.aload_n 0, 1) := by decide +kernel
theorem d_M_run_41 : decode m_M_run.2.1 41 = .ok (.getfield 29, 3) := by decide +kernel
theorem d_M_run_44 : decode m_M_run.2.1 44 = .ok (.iload_n 2, 1) := by decide +kernel
theorem d_M_run_45 : decode m_M_run.2.1 45 = .ok (.iconst 0, 1) := by decide +kernel
theorem d_M_run_46 : decode m_M_run.2.1 46 = .ok (.iastore, 1) := by decide +kernel
theorem d_M_run_47 : decode m_M_run.2.1 47 = .ok (.iinc 2 1, 3) := by decide +kernel
theorem d_M_run_50 : decode m_M_run.2.1 50 = .ok (.goto (-30), 3) := by decide +kernel
theorem d_M_run_53 : decode m_M_run.2.1 53 = .ok (.return_, 1) := by decide +kernel
theorem d_M_runPlan_0 : decode m_M_runPlan.2.1 0 = .ok (.iconst 0, 1) := by decide +kernel
theorem d_M_runPlan_1 : decode m_M_runPlan.2.1 1 = .ok (.istore_n 1, 1) := by decide +kernel
theorem d_M_runPlan_2 : decode m_M_runPlan.2.1 2 = .ok (.iload_n 1, 1) := by decide +kernel
theorem d_M_runPlan_3 : decode m_M_runPlan.2.1 3 = .ok (.bipush 6, 2) := by decide +kernel
theorem d_M_runPlan_5 : decode m_M_runPlan.2.1 5 = .ok (.if_icmp .ge 42, 3) := by decide +kernel
theorem d_M_runPlan_8 : decode m_M_runPlan.2.1 8 = .ok (.aload_n 0, 1) := by decide +kernel
theorem d_M_runPlan_9 : decode m_M_runPlan.2.1 9 = .ok (.getfield 32, 3) := by decide +kernel
theorem d_M_runPlan_12 : decode m_M_runPlan.2.1 12 = .ok (.iload_n 1, 1) := by decide +kernel
theorem d_M_runPlan_13 : decode m_M_runPlan.2.1 13 = .ok (.aload_n 0, 1) := by decide +kernel
theorem d_M_runPlan_14 : decode m_M_runPlan.2.1 14 = .ok (.getfield 29, 3) := by decide +kernel
theorem d_M_runPlan_17 : decode m_M_runPlan.2.1 17 = .ok (.iload_n 1, 1) := by decide +kernel
theorem d_M_runPlan_18 : decode m_M_runPlan.2.1 18 = .ok (.iaload, 1) := by decide +kernel
theorem d_M_runPlan_19 : decode m_M_runPlan.2.1 19 = .ok (.ifCond .eq 20, 3) := by decide +kernel
theorem d_M_runPlan_22 : decode m_M_runPlan.2.1 22 = .ok (.aload_n 0, 1) := by decide +kernel
theorem d_M_runPlan_23 : decode m_M_runPlan.2.1 23 = .ok (.getfield 26, 3) := by decide +kernel
theorem d_M_runPlan_26 : decode m_M_runPlan.2.1 26 = .ok (.iload_n 1, 1) := by decide +kernel
theorem d_M_runPlan_27 : decode m_M_runPlan.2.1 27 = .ok (.iaload, 1) := by decide +kernel
theorem d_M_runPlan_28 : decode m_M_runPlan.2.1 28 = .ok (.aload_n 0, 1) := by decide +kernel
theorem d_M_runPlan_29 : decode m_M_runPlan.2.1 29 = .ok (.getfield 84, 3) := by decide +kernel
theorem d_M_runPlan_32 : decode m_M_runPlan.2.1 32 = .ok (.if_icmp .gt 7, 3) := by decide +kernel
theorem d_M_runPlan_35 : decode m_M_runPlan.2.1 35 = .ok (.iconst 1, 1) := by decide +kernel
theorem d_M_runPlan_36 : decode m_M_runPlan.2.1 36 = .ok (.goto 4, 3) := by decide +kernel
theorem d_M_runPlan_39 : decode m_M_runPlan.2.1 39 = .ok (.iconst 0, 1) := by decide +kernel
theorem d_M_runPlan_40 : decode m_M_runPlan.2.1 40 = .ok (.bastore, 1) := by decide +kernel
theorem d_M_runPlan_41 : decode m_M_runPlan.2.1 41 = .ok (.iinc 1 1, 3) := by decide +kernel
theorem d_M_runPlan_44 : decode m_M_runPlan.2.1 44 = .ok (.goto (-42), 3) := by decide +kernel
theorem d_M_runPlan_47 : decode m_M_runPlan.2.1 47 = .ok (.aload_n 0, 1) := by decide +kernel
theorem d_M_runPlan_48 : decode m_M_runPlan.2.1 48 = .ok (.iconst 1, 1) := by decide +kernel
theorem d_M_runPlan_49 : decode m_M_runPlan.2.1 49 = .ok (.iconst 0, 1) := by decide +kernel
theorem d_M_runPlan_50 : decode m_M_runPlan.2.1 50 = .ok (.invokevirtual 168, 3) := by decide +kernel
theorem d_M_runPlan_53 : decode m_M_runPlan.2.1 53 = .ok (.istore_n 1, 1) := by decide +kernel
theorem d_M_runPlan_54 : decode m_M_runPlan.2.1 54 = .ok (.iload_n 1, 1) := by decide +kernel
theorem d_M_runPlan_55 : decode m_M_runPlan.2.1 55 = .ok (.bipush 6, 2) := by decide +kernel
theorem d_M_runPlan_57 : decode m_M_runPlan.2.1 57 = .ok (.if_icmp .ge 85, 3) := by decide +kernel
theorem d_M_runPlan_60 : decode m_M_runPlan.2.1 60 = .ok (.aload_n 0, 1) := by decide +kernel
theorem d_M_runPlan_61 : decode m_M_runPlan.2.1 61 = .ok (.aload_n 0, 1) := by decide +kernel
theorem d_M_runPlan_62 : decode m_M_runPlan.2.1 62 = .ok (.getfield 23, 3) := by decide +kernel
theorem d_M_runPlan_65 : decode m_M_runPlan.2.1 65 = .ok (.iload_n 1, 1) := by decide +kernel
theorem d_M_runPlan_66 : decode m_M_runPlan.2.1 66 = .ok (.iaload, 1) := by decide +kernel
theorem d_M_runPlan_67 : decode m_M_runPlan.2.1 67 = .ok (.putfield 91, 3) := by decide +kernel
theorem d_M_runPlan_70 : decode m_M_runPlan.2.1 70 = .ok (.iconst 0, 1) := by decide +kernel
theorem d_M_runPlan_71 : decode m_M_runPlan.2.1 71 = .ok (.istore_n 2, 1) := by decide +kernel
theorem d_M_runPlan_72 : decode m_M_runPlan.2.1 72 = .ok (.iload_n 2, 1) := by decide +kernel
theorem d_M_runPlan_73 : decode m_M_runPlan.2.1 73 = .ok (.aload_n 0, 1) := by decide +kernel
theorem d_M_runPlan_74 : decode m_M_runPlan.2.1 74 = .ok (.getfield 91, 3) := by decide +kernel
theorem d_M_runPlan_77 : decode m_M_runPlan.2.1 77 = .ok (.if_icmp .ge 26, 3) := by decide +kernel
theorem d_M_runPlan_80 : decode m_M_runPlan.2.1 80 = .ok (.aload_n 0, 1) := by decide +kernel
theorem d_M_runPlan_81 : decode m_M_runPlan.2.1 81 = .ok (.getfield 17, 3) := by decide +kernel
theorem d_M_runPlan_84 : decode m_M_runPlan.2.1 84 = .ok (.iload_n 2, 1) := by decide +kernel
theorem d_M_runPlan_85 : decode m_M_runPlan.2.1 85 = .ok (.aload_n 0, 1) := by decide +kernel
theorem d_M_runPlan_86 : decode m_M_runPlan.2.1 86 = .ok (.getfield 20, 3) := by decide +kernel
theorem d_M_runPlan_89 : decode m_M_runPlan.2.1 89 = .ok (.bipush 12, 2) := by decide +kernel
theorem d_M_runPlan_91 : decode m_M_runPlan.2.1 91 = .ok (.iload_n 1, 1) := by decide +kernel
theorem d_M_runPlan_92 : decode m_M_runPlan.2.1 92 = .ok (.imul, 1) := by decide +kernel
theorem d_M_runPlan_93 : decode m_M_runPlan.2.1 93 = .ok (.iload_n 2, 1) := by decide +kernel
theorem d_M_runPlan_94 : decode m_M_runPlan.2.1 94 = .ok (.iadd, 1) := by decide +kernel
theorem d_M_runPlan_95 : decode m_M_runPlan.2.1 95 = .ok (.iaload, 1) := by decide +kernel
theorem d_M_runPlan_96 : decode m_M_runPlan.2.1 96 = .ok (.iastore, 1) := by decide +kernel
theorem d_M_runPlan_97 : decode m_M_runPlan.2.1 97 = .ok (.iinc 2 1, 3) := by decide +kernel
theorem d_M_runPlan_100 : decode m_M_runPlan.2.1 100 = .ok (.goto (-28), 3) := by decide +kernel
theorem d_M_runPlan_103 : decode m_M_runPlan.2.1 103 = .ok (.aload_n 0, 1) := by decide +kernel
theorem d_M_runPlan_104 : decode m_M_runPlan.2.1 104 = .ok (.getfield 29, 3) := by decide +kernel
theorem d_M_runPlan_107 : decode m_M_runPlan.2.1 107 = .ok (.iload_n 1, 1) := by decide +kernel
theorem d_M_runPlan_108 : decode m_M_runPlan.2.1 108 = .ok (.iconst 0, 1) := by decide +kernel
theorem d_M_runPlan_109 : decode m_M_runPlan.2.1 109 = .ok (.iastore, 1) := by decide +kernel
theorem d_M_runPlan_110 : decode m_M_runPlan.2.1 110 = .ok (.aload_n 0, 1) := by decide +kernel
theorem d_M_runPlan_111 : decode m_M_runPlan.2.1 111 = .ok (.getfield 32, 3) := by decide +kernel
theorem d_M_runPlan_114 : decode m_M_runPlan.2.1 114 = .ok (.iload_n 1, 1) := by decide +kernel
theorem d_M_runPlan_115 : decode m_M_runPlan.2.1 115 = .ok (.iconst 0, 1) := by decide +kernel
theorem d_M_runPlan_116 : decode m_M_runPlan.2.1 116 = .ok (.bastore, 1) := by decide +kernel
theorem d_M_runPlan_117 : decode m_M_runPlan.2.1 117 = .ok (.aload_n 0, 1) := by decide +kernel
theorem d_M_runPlan_118 : decode m_M_runPlan.2.1 118 = .ok (.sipush 256, 3) := by decide +kernel
theorem d_M_runPlan_121 : decode m_M_runPlan.2.1 121 = .ok (.invokevirtual 161, 3) := by decide +kernel
theorem d_M_runPlan_124 : decode m_M_runPlan.2.1 124 = .ok (.ifCond .ne 8, 3) := by decide +kernel
theorem d_M_runPlan_127 : decode m_M_runPlan.2.1 127 = .ok (.aload_n 0, 1) := by decide +kernel
theorem d_M_runPlan_128 : decode m_M_runPlan.2.1 128 = .ok (.iconst 0, 1) := by decide +kernel
theorem d_M_runPlan_129 : decode m_M_runPlan.2.1 129 = .ok (.putfield 91, 3) := by decide +kernel
theorem d_M_runPlan_132 : decode m_M_runPlan.2.1 132 = .ok (.aload_n 0, 1) := by decide +kernel
theorem d_M_runPlan_133 : decode m_M_runPlan.2.1 133 = .ok (.iconst 1, 1) := by decide +kernel
theorem d_M_runPlan_134 : decode m_M_runPlan.2.1 134 = .ok (.iconst 0, 1) := by decide +kernel
theorem d_M_runPlan_135 : decode m_M_runPlan.2.1 135 = .ok (.invokevirtual 168, 3) := by decide +kernel
theorem d_M_runPlan_138 : decode m_M_runPlan.2.1 138 = .ok (.istore_n 1, 1) := by decide +kernel
theorem d_M_runPlan_139 : decode m_M_runPlan.2.1 139 = .ok (.goto (-85), 3) := by decide +kernel
theorem d_M_runPlan_142 : decode m_M_runPlan.2.1 142 = .ok (.return_, 1) := by decide +kernel
theorem d_M_sense_0 : decode m_M_sense.2.1 0 = .ok (.iload_n 1, 1) := by decide +kernel
theorem d_M_sense_1 : decode m_M_sense.2.1 1 = .ok (.ifCond .lt 21, 3) := by decide +kernel
theorem d_M_sense_4 : decode m_M_sense.2.1 4 = .ok (.iload_n 1, 1) := by decide +kernel
theorem d_M_sense_5 : decode m_M_sense.2.1 5 = .ok (.bipush 7, 2) := by decide +kernel
theorem d_M_sense_7 : decode m_M_sense.2.1 7 = .ok (.if_icmp .gt 15, 3) := by decide +kernel
theorem d_M_sense_10 : decode m_M_sense.2.1 10 = .ok (.iload_n 2, 1) := by decide +kernel
theorem d_M_sense_11 : decode m_M_sense.2.1 11 = .ok (.bipush (-128), 2) := by decide +kernel
theorem d_M_sense_13 : decode m_M_sense.2.1 13 = .ok (.if_icmp .lt 9, 3) := by decide +kernel
theorem d_M_sense_16 : decode m_M_sense.2.1 16 = .ok (.iload_n 2, 1) := by decide +kernel
theorem d_M_sense_17 : decode m_M_sense.2.1 17 = .ok (.bipush 127, 2) := by decide +kernel
theorem d_M_sense_19 : decode m_M_sense.2.1 19 = .ok (.if_icmp .le 7, 3) := by decide +kernel
theorem d_M_sense_22 : decode m_M_sense.2.1 22 = .ok (.sipush (-1000), 3) := by decide +kernel
theorem d_M_sense_25 : decode m_M_sense.2.1 25 = .ok (.ireturn, 1) := by decide +kernel
theorem d_M_sense_26 : decode m_M_sense.2.1 26 = .ok (.aload_n 0, 1) := by decide +kernel
theorem d_M_sense_27 : decode m_M_sense.2.1 27 = .ok (.getfield 69, 3) := by decide +kernel
theorem d_M_sense_30 : decode m_M_sense.2.1 30 = .ok (.iload_n 1, 1) := by decide +kernel
theorem d_M_sense_31 : decode m_M_sense.2.1 31 = .ok (.iaload, 1) := by decide +kernel
theorem d_M_sense_32 : decode m_M_sense.2.1 32 = .ok (.istore_n 3, 1) := by decide +kernel
theorem d_M_sense_33 : decode m_M_sense.2.1 33 = .ok (.aload_n 0, 1) := by decide +kernel
theorem d_M_sense_34 : decode m_M_sense.2.1 34 = .ok (.getfield 69, 3) := by decide +kernel
theorem d_M_sense_37 : decode m_M_sense.2.1 37 = .ok (.iload_n 1, 1) := by decide +kernel
theorem d_M_sense_38 : decode m_M_sense.2.1 38 = .ok (.iload_n 2, 1) := by decide +kernel
theorem d_M_sense_39 : decode m_M_sense.2.1 39 = .ok (.iastore, 1) := by decide +kernel
theorem d_M_sense_40 : decode m_M_sense.2.1 40 = .ok (.iload_n 3, 1) := by decide +kernel
theorem d_M_sense_41 : decode m_M_sense.2.1 41 = .ok (.ireturn, 1) := by decide +kernel
theorem d_M_setAction_0 : decode m_M_setAction.2.1 0 = .ok (.aload_n 0, 1) := by decide +kernel
theorem d_M_setAction_1 : decode m_M_setAction.2.1 1 = .ok (.getfield 39, 3) := by decide +kernel
theorem d_M_setAction_4 : decode m_M_setAction.2.1 4 = .ok (.iload_n 1, 1) := by decide +kernel
theorem d_M_setAction_5 : decode m_M_setAction.2.1 5 = .ok (.aload_n 0, 1) := by decide +kernel
theorem d_M_setAction_6 : decode m_M_setAction.2.1 6 = .ok (.getfield 91, 3) := by decide +kernel
theorem d_M_setAction_9 : decode m_M_setAction.2.1 9 = .ok (.iconst 2, 1) := by decide +kernel
theorem d_M_setAction_10 : decode m_M_setAction.2.1 10 = .ok (.isub, 1) := by decide +kernel
theorem d_M_setAction_11 : decode m_M_setAction.2.1 11 = .ok (.iastore, 1) := by decide +kernel
theorem d_M_setAction_12 : decode m_M_setAction.2.1 12 = .ok (.iconst 2, 1) := by decide +kernel
theorem d_M_setAction_13 : decode m_M_setAction.2.1 13 = .ok (.istore_n 2, 1) := by decide +kernel
theorem d_M_setAction_14 : decode m_M_setAction.2.1 14 = .ok (.iload_n 2, 1) := by decide +kernel
theorem d_M_setAction_15 : decode m_M_setAction.2.1 15 = .ok (.aload_n 0, 1) := by decide +kernel
theorem d_M_setAction_16 : decode m_M_setAction.2.1 16 = .ok (.getfield 91, 3) := by decide +kernel
theorem d_M_setAction_19 : decode m_M_setAction.2.1 19 = .ok (.if_icmp .ge 28, 3) := by decide +kernel
theorem d_M_setAction_22 : decode m_M_setAction.2.1 22 = .ok (.aload_n 0, 1) := by decide +kernel
theorem d_M_setAction_23 : decode m_M_setAction.2.1 23 = .ok (.getfield 36, 3) := by decide +kernel
theorem d_M_setAction_26 : decode m_M_setAction.2.1 26 = .ok (.bipush 12, 2) := by decide +kernel
theorem d_M_setAction_28 : decode m_M_setAction.2.1 28 = .ok (.iload_n 1, 1) := by decide +kernel
theorem d_M_setAction_29 : decode m_M_setAction.2.1 29 = .ok (.imul, 1) := by decide +kernel
theorem d_M_setAction_30 : decode m_M_setAction.2.1 30 = .ok (.iload_n 2, 1) := by decide +kernel
theorem d_M_setAction_31 : decode m_M_setAction.2.1 31 = .ok (.iadd, 1) := by decide +kernel
theorem d_M_setAction_32 : decode m_M_setAction.2.1 32 = .ok (.iconst 2, 1) := by decide +kernel
theorem d_M_setAction_33 : decode m_M_setAction.2.1 33 = .ok (.isub, 1) := by decide +kernel
theorem d_M_setAction_34 : decode m_M_setAction.2.1 34 = .ok (.aload_n 0, 1) := by decide +kernel
theorem d_M_setAction_35 : decode m_M_setAction.2.1 35 = .ok (.getfield 17, 3) := by decide +kernel
theorem d_M_setAction_38 : decode m_M_setAction.2.1 38 = .ok (.iload_n 2, 1) := by decide +kernel
theorem d_M_setAction_39 : decode m_M_setAction.2.1 39 = .ok (.iaload, 1) := by decide +kernel
theorem d_M_setAction_40 : decode m_M_setAction.2.1 40 = .ok (.iastore, 1) := by decide +kernel
theorem d_M_setAction_41 : decode m_M_setAction.2.1 41 = .ok (.iinc 2 1, 3) := by decide +kernel
theorem d_M_setAction_44 : decode m_M_setAction.2.1 44 = .ok (.goto (-30), 3) := by decide +kernel
theorem d_M_setAction_47 : decode m_M_setAction.2.1 47 = .ok (.return_, 1) := by decide +kernel
theorem d_M_setWatch_0 : decode m_M_setWatch.2.1 0 = .ok (.aload_n 0, 1) := by decide +kernel
theorem d_M_setWatch_1 : decode m_M_setWatch.2.1 1 = .ok (.getfield 42, 3) := by decide +kernel
theorem d_M_setWatch_4 : decode m_M_setWatch.2.1 4 = .ok (.iload_n 1, 1) := by decide +kernel
theorem d_M_setWatch_5 : decode m_M_setWatch.2.1 5 = .ok (.iconst 1, 1) := by decide +kernel
theorem d_M_setWatch_6 : decode m_M_setWatch.2.1 6 = .ok (.bastore, 1) := by decide +kernel
theorem d_M_setWatch_7 : decode m_M_setWatch.2.1 7 = .ok (.aload_n 0, 1) := by decide +kernel
theorem d_M_setWatch_8 : decode m_M_setWatch.2.1 8 = .ok (.getfield 45, 3) := by decide +kernel
theorem d_M_setWatch_11 : decode m_M_setWatch.2.1 11 = .ok (.iload_n 1, 1) := by decide +kernel
theorem d_M_setWatch_12 : decode m_M_setWatch.2.1 12 = .ok (.aload_n 0, 1) := by decide +kernel
theorem d_M_setWatch_13 : decode m_M_setWatch.2.1 13 = .ok (.getfield 17, 3) := by decide +kernel
theorem d_M_setWatch_16 : decode m_M_setWatch.2.1 16 = .ok (.iconst 2, 1) := by decide +kernel
theorem d_M_setWatch_17 : decode m_M_setWatch.2.1 17 = .ok (.iaload, 1) := by decide +kernel
theorem d_M_setWatch_18 : decode m_M_setWatch.2.1 18 = .ok (.iastore, 1) := by decide +kernel
theorem d_M_setWatch_19 : decode m_M_setWatch.2.1 19 = .ok (.aload_n 0, 1) := by decide +kernel
theorem d_M_setWatch_20 : decode m_M_setWatch.2.1 20 = .ok (.getfield 48, 3) := by decide +kernel
theorem d_M_setWatch_23 : decode m_M_setWatch.2.1 23 = .ok (.iload_n 1, 1) := by decide +kernel
theorem d_M_setWatch_24 : decode m_M_setWatch.2.1 24 = .ok (.aload_n 0, 1) := by decide +kernel
theorem d_M_setWatch_25 : decode m_M_setWatch.2.1 25 = .ok (.getfield 17, 3) := by decide +kernel
theorem d_M_setWatch_28 : decode m_M_setWatch.2.1 28 = .ok (.iconst 3, 1) := by decide +kernel
theorem d_M_setWatch_29 : decode m_M_setWatch.2.1 29 = .ok (.iaload, 1) := by decide +kernel
theorem d_M_setWatch_30 : decode m_M_setWatch.2.1 30 = .ok (.invokestatic 87, 3) := by decide +kernel
theorem d_M_setWatch_33 : decode m_M_setWatch.2.1 33 = .ok (.iastore, 1) := by decide +kernel
theorem d_M_setWatch_34 : decode m_M_setWatch.2.1 34 = .ok (.aload_n 0, 1) := by decide +kernel
theorem d_M_setWatch_35 : decode m_M_setWatch.2.1 35 = .ok (.getfield 51, 3) := by decide +kernel
theorem d_M_setWatch_38 : decode m_M_setWatch.2.1 38 = .ok (.iload_n 1, 1) := by decide +kernel
theorem d_M_setWatch_39 : decode m_M_setWatch.2.1 39 = .ok (.aload_n 0, 1) := by decide +kernel
theorem d_M_setWatch_40 : decode m_M_setWatch.2.1 40 = .ok (.getfield 17, 3) := by decide +kernel
theorem d_M_setWatch_43 : decode m_M_setWatch.2.1 43 = .ok (.iconst 4, 1) := by decide +kernel
theorem d_M_setWatch_44 : decode m_M_setWatch.2.1 44 = .ok (.iaload, 1) := by decide +kernel
theorem d_M_setWatch_45 : decode m_M_setWatch.2.1 45 = .ok (.invokestatic 87, 3) := by decide +kernel
theorem d_M_setWatch_48 : decode m_M_setWatch.2.1 48 = .ok (.iastore, 1) := by decide +kernel
theorem d_M_setWatch_49 : decode m_M_setWatch.2.1 49 = .ok (.aload_n 0, 1) := by decide +kernel
theorem d_M_setWatch_50 : decode m_M_setWatch.2.1 50 = .ok (.getfield 54, 3) := by decide +kernel
theorem d_M_setWatch_53 : decode m_M_setWatch.2.1 53 = .ok (.iload_n 1, 1) := by decide +kernel
theorem d_M_setWatch_54 : decode m_M_setWatch.2.1 54 = .ok (.aload_n 0, 1) := by decide +kernel
theorem d_M_setWatch_55 : decode m_M_setWatch.2.1 55 = .ok (.getfield 17, 3) := by decide +kernel
theorem d_M_setWatch_58 : decode m_M_setWatch.2.1 58 = .ok (.iconst 5, 1) := by decide +kernel
theorem d_M_setWatch_59 : decode m_M_setWatch.2.1 59 = .ok (.iaload, 1) := by decide +kernel
theorem d_M_setWatch_60 : decode m_M_setWatch.2.1 60 = .ok (.iastore, 1) := by decide +kernel
theorem d_M_setWatch_61 : decode m_M_setWatch.2.1 61 = .ok (.aload_n 0, 1) := by decide +kernel
theorem d_M_setWatch_62 : decode m_M_setWatch.2.1 62 = .ok (.getfield 57, 3) := by decide +kernel
theorem d_M_setWatch_65 : decode m_M_setWatch.2.1 65 = .ok (.iload_n 1, 1) := by decide +kernel
theorem d_M_setWatch_66 : decode m_M_setWatch.2.1 66 = .ok (.aload_n 0, 1) := by decide +kernel
theorem d_M_setWatch_67 : decode m_M_setWatch.2.1 67 = .ok (.getfield 17, 3) := by decide +kernel
theorem d_M_setWatch_70 : decode m_M_setWatch.2.1 70 = .ok (.bipush 6, 2) := by decide +kernel
theorem d_M_setWatch_72 : decode m_M_setWatch.2.1 72 = .ok (.iaload, 1) := by decide +kernel
theorem d_M_setWatch_73 : decode m_M_setWatch.2.1 73 = .ok (.iastore, 1) := by decide +kernel
theorem d_M_setWatch_74 : decode m_M_setWatch.2.1 74 = .ok (.aload_n 0, 1) := by decide +kernel
theorem d_M_setWatch_75 : decode m_M_setWatch.2.1 75 = .ok (.getfield 60, 3) := by decide +kernel
theorem d_M_setWatch_78 : decode m_M_setWatch.2.1 78 = .ok (.iload_n 1, 1) := by decide +kernel
theorem d_M_setWatch_79 : decode m_M_setWatch.2.1 79 = .ok (.iconst 0, 1) := by decide +kernel
theorem d_M_setWatch_80 : decode m_M_setWatch.2.1 80 = .ok (.iastore, 1) := by decide +kernel
theorem d_M_setWatch_81 : decode m_M_setWatch.2.1 81 = .ok (.return_, 1) := by decide +kernel
theorem d_M_shiftStore_0 : decode m_M_shiftStore.2.1 0 = .ok (.iconst 4, 1) := by decide +kernel
theorem d_M_shiftStore_1 : decode m_M_shiftStore.2.1 1 = .ok (.istore_n 1, 1) := by decide +kernel
theorem d_M_shiftStore_2 : decode m_M_shiftStore.2.1 2 = .ok (.iload_n 1, 1) := by decide +kernel
theorem d_M_shiftStore_3 : decode m_M_shiftStore.2.1 3 = .ok (.iconst 4, 1) := by decide +kernel
theorem d_M_shiftStore_4 : decode m_M_shiftStore.2.1 4 = .ok (.aload_n 0, 1) := by decide +kernel
theorem d_M_shiftStore_5 : decode m_M_shiftStore.2.1 5 = .ok (.getfield 75, 3) := by decide +kernel
theorem d_M_shiftStore_8 : decode m_M_shiftStore.2.1 8 = .ok (.imul, 1) := by decide +kernel
theorem d_M_shiftStore_9 : decode m_M_shiftStore.2.1 9 = .ok (.if_icmp .ge 23, 3) := by decide +kernel
theorem d_M_shiftStore_12 : decode m_M_shiftStore.2.1 12 = .ok (.aload_n 0, 1) := by decide +kernel
theorem d_M_shiftStore_13 : decode m_M_shiftStore.2.1 13 = .ok (.getfield 72, 3) := by decide +kernel
theorem d_M_shiftStore_16 : decode m_M_shiftStore.2.1 16 = .ok (.iload_n 1, 1) := by decide +kernel
theorem d_M_shiftStore_17 : decode m_M_shiftStore.2.1 17 = .ok (.iconst 4, 1) := by decide +kernel
theorem d_M_shiftStore_18 : decode m_M_shiftStore.2.1 18 = .ok (.isub, 1) := by decide +kernel
theorem d_M_shiftStore_19 : decode m_M_shiftStore.2.1 19 = .ok (.aload_n 0, 1) := by decide +kernel
theorem d_M_shiftStore_20 : decode m_M_shiftStore.2.1 20 = .ok (.getfield 72, 3) := by decide +kernel
theorem d_M_shiftStore_23 : decode m_M_shiftStore.2.1 23 = .ok (.iload_n 1, 1) := by decide +kernel
theorem d_M_shiftStore_24 : decode m_M_shiftStore.2.1 24 = .ok (.iaload, 1) := by decide +kernel
theorem d_M_shiftStore_25 : decode m_M_shiftStore.2.1 25 = .ok (.iastore, 1) := by decide +kernel
theorem d_M_shiftStore_26 : decode m_M_shiftStore.2.1 26 = .ok (.iinc 1 1, 3) := by decide +kernel
theorem d_M_shiftStore_29 : decode m_M_shiftStore.2.1 29 = .ok (.goto (-27), 3) := by decide +kernel
theorem d_M_shiftStore_32 : decode m_M_shiftStore.2.1 32 = .ok (.aload_n 0, 1) := by decide +kernel
theorem d_M_shiftStore_33 : decode m_M_shiftStore.2.1 33 = .ok (.dup, 1) := by decide +kernel
theorem d_M_shiftStore_34 : decode m_M_shiftStore.2.1 34 = .ok (.getfield 75, 3) := by decide +kernel
theorem d_M_shiftStore_37 : decode m_M_shiftStore.2.1 37 = .ok (.iconst 1, 1) := by decide +kernel
theorem d_M_shiftStore_38 : decode m_M_shiftStore.2.1 38 = .ok (.isub, 1) := by decide +kernel
theorem d_M_shiftStore_39 : decode m_M_shiftStore.2.1 39 = .ok (.putfield 75, 3) := by decide +kernel
theorem d_M_shiftStore_42 : decode m_M_shiftStore.2.1 42 = .ok (.return_, 1) := by decide +kernel
theorem d_M_signed_0 : decode m_M_signed.2.1 0 = .ok (.iload_n 0, 1) := by decide +kernel
theorem d_M_signed_1 : decode m_M_signed.2.1 1 = .ok (.bipush 127, 2) := by decide +kernel
theorem d_M_signed_3 : decode m_M_signed.2.1 3 = .ok (.if_icmp .le 11, 3) := by decide +kernel
theorem d_M_signed_6 : decode m_M_signed.2.1 6 = .ok (.iload_n 0, 1) := by decide +kernel
theorem d_M_signed_7 : decode m_M_signed.2.1 7 = .ok (.sipush 256, 3) := by decide +kernel
theorem d_M_signed_10 : decode m_M_signed.2.1 10 = .ok (.isub, 1) := by decide +kernel
theorem d_M_signed_11 : decode m_M_signed.2.1 11 = .ok (.goto 4, 3) := by decide +kernel
theorem d_M_signed_14 : decode m_M_signed.2.1 14 = .ok (.iload_n 0, 1) := by decide +kernel
theorem d_M_signed_15 : decode m_M_signed.2.1 15 = .ok (.ireturn, 1) := by decide +kernel
theorem d_M_take_0 : decode m_M_take.2.1 0 = .ok (.aload_n 0, 1) := by decide +kernel
theorem d_M_take_1 : decode m_M_take.2.1 1 = .ok (.getfield 75, 3) := by decide +kernel
theorem d_M_take_4 : decode m_M_take.2.1 4 = .ok (.ifCond .ne 7, 3) := by decide +kernel
theorem d_M_take_7 : decode m_M_take.2.1 7 = .ok (.sipush (-1000), 3) := by decide +kernel
theorem d_M_take_10 : decode m_M_take.2.1 10 = .ok (.ireturn, 1) := by decide +kernel
theorem d_M_take_11 : decode m_M_take.2.1 11 = .ok (.aload_n 0, 1) := by decide +kernel
theorem d_M_take_12 : decode m_M_take.2.1 12 = .ok (.invokevirtual 78, 3) := by decide +kernel
theorem d_M_take_15 : decode m_M_take.2.1 15 = .ok (.aload_n 0, 1) := by decide +kernel
theorem d_M_take_16 : decode m_M_take.2.1 16 = .ok (.getfield 75, 3) := by decide +kernel
theorem d_M_take_19 : decode m_M_take.2.1 19 = .ok (.ireturn, 1) := by decide +kernel
theorem d_M_tick_0 : decode m_M_tick.2.1 0 = .ok (.aload_n 0, 1) := by decide +kernel
theorem d_M_tick_1 : decode m_M_tick.2.1 1 = .ok (.getfield 84, 3) := by decide +kernel
theorem d_M_tick_4 : decode m_M_tick.2.1 4 = .ok (.ldc 172, 2) := by decide +kernel
theorem d_M_tick_6 : decode m_M_tick.2.1 6 = .ok (.if_icmp .ne 7, 3) := by decide +kernel
theorem d_M_tick_9 : decode m_M_tick.2.1 9 = .ok (.sipush (-1000), 3) := by decide +kernel
theorem d_M_tick_12 : decode m_M_tick.2.1 12 = .ok (.ireturn, 1) := by decide +kernel
theorem d_M_tick_13 : decode m_M_tick.2.1 13 = .ok (.aload_n 0, 1) := by decide +kernel
theorem d_M_tick_14 : decode m_M_tick.2.1 14 = .ok (.dup, 1) := by decide +kernel
theorem d_M_tick_15 : decode m_M_tick.2.1 15 = .ok (.getfield 84, 3) := by decide +kernel
theorem d_M_tick_18 : decode m_M_tick.2.1 18 = .ok (.iconst 1, 1) := by decide +kernel
theorem d_M_tick_19 : decode m_M_tick.2.1 19 = .ok (.iadd, 1) := by decide +kernel
theorem d_M_tick_20 : decode m_M_tick.2.1 20 = .ok (.putfield 84, 3) := by decide +kernel
theorem d_M_tick_23 : decode m_M_tick.2.1 23 = .ok (.aload_n 0, 1) := by decide +kernel
theorem d_M_tick_24 : decode m_M_tick.2.1 24 = .ok (.getfield 116, 3) := by decide +kernel
theorem d_M_tick_27 : decode m_M_tick.2.1 27 = .ok (.ifCond .ne 7, 3) := by decide +kernel
theorem d_M_tick_30 : decode m_M_tick.2.1 30 = .ok (.aload_n 0, 1) := by decide +kernel
theorem d_M_tick_31 : decode m_M_tick.2.1 31 = .ok (.invokevirtual 173, 3) := by decide +kernel
theorem d_M_tick_34 : decode m_M_tick.2.1 34 = .ok (.iconst 0, 1) := by decide +kernel
theorem d_M_tick_35 : decode m_M_tick.2.1 35 = .ok (.istore_n 1, 1) := by decide +kernel
theorem d_M_tick_36 : decode m_M_tick.2.1 36 = .ok (.iload_n 1, 1) := by decide +kernel
theorem d_M_tick_37 : decode m_M_tick.2.1 37 = .ok (.iconst 4, 1) := by decide +kernel
theorem d_M_tick_38 : decode m_M_tick.2.1 38 = .ok (.if_icmp .ge 23, 3) := by decide +kernel
theorem d_M_tick_41 : decode m_M_tick.2.1 41 = .ok (.aload_n 0, 1) := by decide +kernel
theorem d_M_tick_42 : decode m_M_tick.2.1 42 = .ok (.getfield 42, 3) := by decide +kernel
theorem d_M_tick_45 : decode m_M_tick.2.1 45 = .ok (.iload_n 1, 1) := by decide +kernel
theorem d_M_tick_46 : decode m_M_tick.2.1 46 = .ok (.baload, 1) := by decide +kernel
theorem d_M_tick_47 : decode m_M_tick.2.1 47 = .ok (.ifCond .eq 8, 3) := by decide +kernel
theorem d_M_tick_50 : decode m_M_tick.2.1 50 = .ok (.aload_n 0, 1) := by decide +kernel
theorem d_M_tick_51 : decode m_M_tick.2.1 51 = .ok (.iload_n 1, 1) := by decide +kernel
theorem d_M_tick_52 : decode m_M_tick.2.1 52 = .ok (.invokevirtual 176, 3) := by decide +kernel
theorem d_M_tick_55 : decode m_M_tick.2.1 55 = .ok (.iinc 1 1, 3) := by decide +kernel
theorem d_M_tick_58 : decode m_M_tick.2.1 58 = .ok (.goto (-22), 3) := by decide +kernel
theorem d_M_tick_61 : decode m_M_tick.2.1 61 = .ok (.iconst 0, 1) := by decide +kernel
theorem d_M_tick_62 : decode m_M_tick.2.1 62 = .ok (.istore_n 1, 1) := by decide +kernel
theorem d_M_tick_63 : decode m_M_tick.2.1 63 = .ok (.iload_n 1, 1) := by decide +kernel
theorem d_M_tick_64 : decode m_M_tick.2.1 64 = .ok (.iconst 2, 1) := by decide +kernel
theorem d_M_tick_65 : decode m_M_tick.2.1 65 = .ok (.if_icmp .ge 80, 3) := by decide +kernel
theorem d_M_tick_68 : decode m_M_tick.2.1 68 = .ok (.aload_n 0, 1) := by decide +kernel
theorem d_M_tick_69 : decode m_M_tick.2.1 69 = .ok (.getfield 63, 3) := by decide +kernel
theorem d_M_tick_72 : decode m_M_tick.2.1 72 = .ok (.iload_n 1, 1) := by decide +kernel
theorem d_M_tick_73 : decode m_M_tick.2.1 73 = .ok (.iaload, 1) := by decide +kernel
theorem d_M_tick_74 : decode m_M_tick.2.1 74 = .ok (.ifCond .eq 65, 3) := by decide +kernel
theorem d_M_tick_77 : decode m_M_tick.2.1 77 = .ok (.aload_n 0, 1) := by decide +kernel
theorem d_M_tick_78 : decode m_M_tick.2.1 78 = .ok (.getfield 84, 3) := by decide +kernel
theorem d_M_tick_81 : decode m_M_tick.2.1 81 = .ok (.aload_n 0, 1) := by decide +kernel
theorem d_M_tick_82 : decode m_M_tick.2.1 82 = .ok (.getfield 63, 3) := by decide +kernel
theorem d_M_tick_85 : decode m_M_tick.2.1 85 = .ok (.iload_n 1, 1) := by decide +kernel
theorem d_M_tick_86 : decode m_M_tick.2.1 86 = .ok (.iaload, 1) := by decide +kernel
theorem d_M_tick_87 : decode m_M_tick.2.1 87 = .ok (.irem, 1) := by decide +kernel
theorem d_M_tick_88 : decode m_M_tick.2.1 88 = .ok (.ifCond .eq 6, 3) := by decide +kernel
theorem d_M_tick_91 : decode m_M_tick.2.1 91 = .ok (.goto 48, 3) := by decide +kernel
theorem d_M_tick_94 : decode m_M_tick.2.1 94 = .ok (.iconst 0, 1) := by decide +kernel
theorem d_M_tick_95 : decode m_M_tick.2.1 95 = .ok (.istore_n 2, 1) := by decide +kernel
theorem d_M_tick_96 : decode m_M_tick.2.1 96 = .ok (.iconst 0, 1) := by decide +kernel
theorem d_M_tick_97 : decode m_M_tick.2.1 97 = .ok (.istore_n 3, 1) := by decide +kernel
theorem d_M_tick_98 : decode m_M_tick.2.1 98 = .ok (.iload_n 3, 1) := by decide +kernel
theorem d_M_tick_99 : decode m_M_tick.2.1 99 = .ok (.bipush 8, 2) := by decide +kernel
theorem d_M_tick_101 : decode m_M_tick.2.1 101 = .ok (.if_icmp .ge 31, 3) := by decide +kernel
theorem d_M_tick_104 : decode m_M_tick.2.1 104 = .ok (.aload_n 0, 1) := by decide +kernel
theorem d_M_tick_105 : decode m_M_tick.2.1 105 = .ok (.getfield 66, 3) := by decide +kernel
theorem d_M_tick_108 : decode m_M_tick.2.1 108 = .ok (.iload_n 1, 1) := by decide +kernel
theorem d_M_tick_109 : decode m_M_tick.2.1 109 = .ok (.iaload, 1) := by decide +kernel
theorem d_M_tick_110 : decode m_M_tick.2.1 110 = .ok (.iload_n 3, 1) := by decide +kernel
theorem d_M_tick_111 : decode m_M_tick.2.1 111 = .ok (.ishr, 1) := by decide +kernel
theorem d_M_tick_112 : decode m_M_tick.2.1 112 = .ok (.iconst 1, 1) := by decide +kernel
theorem d_M_tick_113 : decode m_M_tick.2.1 113 = .ok (.iand, 1) := by decide +kernel
theorem d_M_tick_114 : decode m_M_tick.2.1 114 = .ok (.ifCond .eq 12, 3) := by decide +kernel
theorem d_M_tick_117 : decode m_M_tick.2.1 117 = .ok (.iload_n 2, 1) := by decide +kernel
theorem d_M_tick_118 : decode m_M_tick.2.1 118 = .ok (.aload_n 0, 1) := by decide +kernel
theorem d_M_tick_119 : decode m_M_tick.2.1 119 = .ok (.getfield 69, 3) := by decide +kernel
theorem d_M_tick_122 : decode m_M_tick.2.1 122 = .ok (.iload_n 3, 1) := by decide +kernel
theorem d_M_tick_123 : decode m_M_tick.2.1 123 = .ok (.iaload, 1) := by decide +kernel
theorem d_M_tick_124 : decode m_M_tick.2.1 124 = .ok (.iadd, 1) := by decide +kernel
theorem d_M_tick_125 : decode m_M_tick.2.1 125 = .ok (.istore_n 2, 1) := by decide +kernel
theorem d_M_tick_126 : decode m_M_tick.2.1 126 = .ok (.iinc 3 1, 3) := by decide +kernel
theorem d_M_tick_129 : decode m_M_tick.2.1 129 = .ok (.goto (-31), 3) := by decide +kernel
theorem d_M_tick_132 : decode m_M_tick.2.1 132 = .ok (.aload_n 0, 1) := by decide +kernel
theorem d_M_tick_133 : decode m_M_tick.2.1 133 = .ok (.iconst 5, 1) := by decide +kernel
theorem d_M_tick_134 : decode m_M_tick.2.1 134 = .ok (.iload_n 1, 1) := by decide +kernel
theorem d_M_tick_135 : decode m_M_tick.2.1 135 = .ok (.iload_n 2, 1) := by decide +kernel
theorem d_M_tick_136 : decode m_M_tick.2.1 136 = .ok (.invokevirtual 119, 3) := by decide +kernel
theorem d_M_tick_139 : decode m_M_tick.2.1 139 = .ok (.iinc 1 1, 3) := by decide +kernel
theorem d_M_tick_142 : decode m_M_tick.2.1 142 = .ok (.goto (-79), 3) := by decide +kernel
theorem d_M_tick_145 : decode m_M_tick.2.1 145 = .ok (.aload_n 0, 1) := by decide +kernel
theorem d_M_tick_146 : decode m_M_tick.2.1 146 = .ok (.getfield 84, 3) := by decide +kernel
theorem d_M_tick_149 : decode m_M_tick.2.1 149 = .ok (.ireturn, 1) := by decide +kernel
theorem d_M_uplink_0 : decode m_M_uplink.2.1 0 = .ok (.iload_n 1, 1) := by decide +kernel
theorem d_M_uplink_1 : decode m_M_uplink.2.1 1 = .ok (.ifCond .lt 10, 3) := by decide +kernel
theorem d_M_uplink_4 : decode m_M_uplink.2.1 4 = .ok (.iload_n 1, 1) := by decide +kernel
theorem d_M_uplink_5 : decode m_M_uplink.2.1 5 = .ok (.sipush 255, 3) := by decide +kernel
theorem d_M_uplink_8 : decode m_M_uplink.2.1 8 = .ok (.if_icmp .le 7, 3) := by decide +kernel
theorem d_M_uplink_11 : decode m_M_uplink.2.1 11 = .ok (.sipush (-1000), 3) := by decide +kernel
theorem d_M_uplink_14 : decode m_M_uplink.2.1 14 = .ok (.ireturn, 1) := by decide +kernel
theorem d_M_uplink_15 : decode m_M_uplink.2.1 15 = .ok (.aload_n 0, 1) := by decide +kernel
theorem d_M_uplink_16 : decode m_M_uplink.2.1 16 = .ok (.getfield 13, 3) := by decide +kernel
theorem d_M_uplink_19 : decode m_M_uplink.2.1 19 = .ok (.ifCond .ge 45, 3) := by decide +kernel
theorem d_M_uplink_22 : decode m_M_uplink.2.1 22 = .ok (.iload_n 1, 1) := by decide +kernel
theorem d_M_uplink_23 : decode m_M_uplink.2.1 23 = .ok (.sipush 235, 3) := by decide +kernel
theorem d_M_uplink_26 : decode m_M_uplink.2.1 26 = .ok (.if_icmp .ne 8, 3) := by decide +kernel
theorem d_M_uplink_29 : decode m_M_uplink.2.1 29 = .ok (.aload_n 0, 1) := by decide +kernel
theorem d_M_uplink_30 : decode m_M_uplink.2.1 30 = .ok (.iconst 0, 1) := by decide +kernel
theorem d_M_uplink_31 : decode m_M_uplink.2.1 31 = .ok (.putfield 13, 3) := by decide +kernel
theorem d_M_uplink_34 : decode m_M_uplink.2.1 34 = .ok (.iload_n 1, 1) := by decide +kernel
theorem d_M_uplink_35 : decode m_M_uplink.2.1 35 = .ok (.sipush 235, 3) := by decide +kernel
theorem d_M_uplink_38 : decode m_M_uplink.2.1 38 = .ok (.if_icmp .eq 13, 3) := by decide +kernel
theorem d_M_uplink_41 : decode m_M_uplink.2.1 41 = .ok (.aload_n 0, 1) := by decide +kernel
theorem d_M_uplink_42 : decode m_M_uplink.2.1 42 = .ok (.dup, 1) := by decide +kernel
theorem d_M_uplink_43 : decode m_M_uplink.2.1 43 = .ok (.getfield 145, 3) := by decide +kernel
theorem d_M_uplink_46 : decode m_M_uplink.2.1 46 = .ok (.iconst 1, 1) := by decide +kernel
theorem d_M_uplink_47 : decode m_M_uplink.2.1 47 = .ok (.iadd, 1) := by decide +kernel
theorem d_M_uplink_48 : decode m_M_uplink.2.1 48 = .ok (.putfield 145, 3) := by decide +kernel
theorem d_M_uplink_51 : decode m_M_uplink.2.1 51 = .ok (.iload_n 1, 1) := by decide +kernel
theorem d_M_uplink_52 : decode m_M_uplink.2.1 52 = .ok (.sipush 235, 3) := by decide +kernel
theorem d_M_uplink_55 : decode m_M_uplink.2.1 55 = .ok (.if_icmp .ne 7, 3) := by decide +kernel
theorem d_M_uplink_58 : decode m_M_uplink.2.1 58 = .ok (.iconst 0, 1) := by decide +kernel
theorem d_M_uplink_59 : decode m_M_uplink.2.1 59 = .ok (.goto 4, 3) := by decide +kernel
theorem d_M_uplink_62 : decode m_M_uplink.2.1 62 = .ok (.iconst 5, 1) := by decide +kernel
theorem d_M_uplink_63 : decode m_M_uplink.2.1 63 = .ok (.ireturn, 1) := by decide +kernel
theorem d_M_uplink_64 : decode m_M_uplink.2.1 64 = .ok (.aload_n 0, 1) := by decide +kernel
theorem d_M_uplink_65 : decode m_M_uplink.2.1 65 = .ok (.getfield 7, 3) := by decide +kernel
theorem d_M_uplink_68 : decode m_M_uplink.2.1 68 = .ok (.aload_n 0, 1) := by decide +kernel
theorem d_M_uplink_69 : decode m_M_uplink.2.1 69 = .ok (.getfield 13, 3) := by decide +kernel
theorem d_M_uplink_72 : decode m_M_uplink.2.1 72 = .ok (.iload_n 1, 1) := by decide +kernel
theorem d_M_uplink_73 : decode m_M_uplink.2.1 73 = .ok (.iastore, 1) := by decide +kernel
theorem d_M_uplink_74 : decode m_M_uplink.2.1 74 = .ok (.aload_n 0, 1) := by decide +kernel
theorem d_M_uplink_75 : decode m_M_uplink.2.1 75 = .ok (.dup, 1) := by decide +kernel
theorem d_M_uplink_76 : decode m_M_uplink.2.1 76 = .ok (.getfield 13, 3) := by decide +kernel
theorem d_M_uplink_79 : decode m_M_uplink.2.1 79 = .ok (.iconst 1, 1) := by decide +kernel
theorem d_M_uplink_80 : decode m_M_uplink.2.1 80 = .ok (.iadd, 1) := by decide +kernel
theorem d_M_uplink_81 : decode m_M_uplink.2.1 81 = .ok (.putfield 13, 3) := by decide +kernel
theorem d_M_uplink_84 : decode m_M_uplink.2.1 84 = .ok (.aload_n 0, 1) := by decide +kernel
theorem d_M_uplink_85 : decode m_M_uplink.2.1 85 = .ok (.getfield 13, 3) := by decide +kernel
theorem d_M_uplink_88 : decode m_M_uplink.2.1 88 = .ok (.iconst 1, 1) := by decide +kernel
theorem d_M_uplink_89 : decode m_M_uplink.2.1 89 = .ok (.if_icmp .ne 31, 3) := by decide +kernel
theorem d_M_uplink_92 : decode m_M_uplink.2.1 92 = .ok (.iload_n 1, 1) := by decide +kernel
theorem d_M_uplink_93 : decode m_M_uplink.2.1 93 = .ok (.iconst 2, 1) := by decide +kernel
theorem d_M_uplink_94 : decode m_M_uplink.2.1 94 = .ok (.if_icmp .lt 9, 3) := by decide +kernel
theorem d_M_uplink_97 : decode m_M_uplink.2.1 97 = .ok (.iload_n 1, 1) := by decide +kernel
theorem d_M_uplink_98 : decode m_M_uplink.2.1 98 = .ok (.bipush 12, 2) := by decide +kernel
theorem d_M_uplink_100 : decode m_M_uplink.2.1 100 = .ok (.if_icmp .le 20, 3) := by decide +kernel
theorem d_M_uplink_103 : decode m_M_uplink.2.1 103 = .ok (.aload_n 0, 1) := by decide +kernel
theorem d_M_uplink_104 : decode m_M_uplink.2.1 104 = .ok (.iconst (-1), 1) := by decide +kernel
theorem d_M_uplink_105 : decode m_M_uplink.2.1 105 = .ok (.putfield 13, 3) := by decide +kernel
theorem d_M_uplink_108 : decode m_M_uplink.2.1 108 = .ok (.aload_n 0, 1) := by decide +kernel
theorem d_M_uplink_109 : decode m_M_uplink.2.1 109 = .ok (.dup, 1) := by decide +kernel
theorem d_M_uplink_110 : decode m_M_uplink.2.1 110 = .ok (.getfield 148, 3) := by decide +kernel
theorem d_M_uplink_113 : decode m_M_uplink.2.1 113 = .ok (.iconst 1, 1) := by decide +kernel
theorem d_M_uplink_114 : decode m_M_uplink.2.1 114 = .ok (.iadd, 1) := by decide +kernel
theorem d_M_uplink_115 : decode m_M_uplink.2.1 115 = .ok (.putfield 148, 3) := by decide +kernel
theorem d_M_uplink_118 : decode m_M_uplink.2.1 118 = .ok (.iconst 3, 1) := by decide +kernel
theorem d_M_uplink_119 : decode m_M_uplink.2.1 119 = .ok (.ireturn, 1) := by decide +kernel
theorem d_M_uplink_120 : decode m_M_uplink.2.1 120 = .ok (.aload_n 0, 1) := by decide +kernel
theorem d_M_uplink_121 : decode m_M_uplink.2.1 121 = .ok (.getfield 13, 3) := by decide +kernel
theorem d_M_uplink_124 : decode m_M_uplink.2.1 124 = .ok (.aload_n 0, 1) := by decide +kernel
theorem d_M_uplink_125 : decode m_M_uplink.2.1 125 = .ok (.getfield 7, 3) := by decide +kernel
theorem d_M_uplink_128 : decode m_M_uplink.2.1 128 = .ok (.iconst 0, 1) := by decide +kernel
theorem d_M_uplink_129 : decode m_M_uplink.2.1 129 = .ok (.iaload, 1) := by decide +kernel
theorem d_M_uplink_130 : decode m_M_uplink.2.1 130 = .ok (.iconst 2, 1) := by decide +kernel
theorem d_M_uplink_131 : decode m_M_uplink.2.1 131 = .ok (.iadd, 1) := by decide +kernel
theorem d_M_uplink_132 : decode m_M_uplink.2.1 132 = .ok (.if_icmp .ge 5, 3) := by decide +kernel
theorem d_M_uplink_135 : decode m_M_uplink.2.1 135 = .ok (.iconst 0, 1) := by decide +kernel
theorem d_M_uplink_136 : decode m_M_uplink.2.1 136 = .ok (.ireturn, 1) := by decide +kernel
theorem d_M_uplink_137 : decode m_M_uplink.2.1 137 = .ok (.aload_n 0, 1) := by decide +kernel
theorem d_M_uplink_138 : decode m_M_uplink.2.1 138 = .ok (.iconst (-1), 1) := by decide +kernel
theorem d_M_uplink_139 : decode m_M_uplink.2.1 139 = .ok (.putfield 13, 3) := by decide +kernel
theorem d_M_uplink_142 : decode m_M_uplink.2.1 142 = .ok (.aload_n 0, 1) := by decide +kernel
theorem d_M_uplink_143 : decode m_M_uplink.2.1 143 = .ok (.invokevirtual 151, 3) := by decide +kernel
theorem d_M_uplink_146 : decode m_M_uplink.2.1 146 = .ok (.ifCond .ne 15, 3) := by decide +kernel
theorem d_M_uplink_149 : decode m_M_uplink.2.1 149 = .ok (.aload_n 0, 1) := by decide +kernel
theorem d_M_uplink_150 : decode m_M_uplink.2.1 150 = .ok (.dup, 1) := by decide +kernel
theorem d_M_uplink_151 : decode m_M_uplink.2.1 151 = .ok (.getfield 148, 3) := by decide +kernel
theorem d_M_uplink_154 : decode m_M_uplink.2.1 154 = .ok (.iconst 1, 1) := by decide +kernel
theorem d_M_uplink_155 : decode m_M_uplink.2.1 155 = .ok (.iadd, 1) := by decide +kernel
theorem d_M_uplink_156 : decode m_M_uplink.2.1 156 = .ok (.putfield 148, 3) := by decide +kernel
theorem d_M_uplink_159 : decode m_M_uplink.2.1 159 = .ok (.iconst 4, 1) := by decide +kernel
theorem d_M_uplink_160 : decode m_M_uplink.2.1 160 = .ok (.ireturn, 1) := by decide +kernel
theorem d_M_uplink_161 : decode m_M_uplink.2.1 161 = .ok (.aload_n 0, 1) := by decide +kernel
theorem d_M_uplink_162 : decode m_M_uplink.2.1 162 = .ok (.dup, 1) := by decide +kernel
theorem d_M_uplink_163 : decode m_M_uplink.2.1 163 = .ok (.getfield 155, 3) := by decide +kernel
theorem d_M_uplink_166 : decode m_M_uplink.2.1 166 = .ok (.iconst 1, 1) := by decide +kernel
theorem d_M_uplink_167 : decode m_M_uplink.2.1 167 = .ok (.iadd, 1) := by decide +kernel
theorem d_M_uplink_168 : decode m_M_uplink.2.1 168 = .ok (.putfield 155, 3) := by decide +kernel
theorem d_M_uplink_171 : decode m_M_uplink.2.1 171 = .ok (.aload_n 0, 1) := by decide +kernel
theorem d_M_uplink_172 : decode m_M_uplink.2.1 172 = .ok (.aload_n 0, 1) := by decide +kernel
theorem d_M_uplink_173 : decode m_M_uplink.2.1 173 = .ok (.getfield 7, 3) := by decide +kernel
theorem d_M_uplink_176 : decode m_M_uplink.2.1 176 = .ok (.iconst 0, 1) := by decide +kernel
theorem d_M_uplink_177 : decode m_M_uplink.2.1 177 = .ok (.iaload, 1) := by decide +kernel
theorem d_M_uplink_178 : decode m_M_uplink.2.1 178 = .ok (.iconst 1, 1) := by decide +kernel
theorem d_M_uplink_179 : decode m_M_uplink.2.1 179 = .ok (.isub, 1) := by decide +kernel
theorem d_M_uplink_180 : decode m_M_uplink.2.1 180 = .ok (.putfield 91, 3) := by decide +kernel
theorem d_M_uplink_183 : decode m_M_uplink.2.1 183 = .ok (.iconst 0, 1) := by decide +kernel
theorem d_M_uplink_184 : decode m_M_uplink.2.1 184 = .ok (.istore_n 2, 1) := by decide +kernel
theorem d_M_uplink_185 : decode m_M_uplink.2.1 185 = .ok (.iload_n 2, 1) := by decide +kernel
theorem d_M_uplink_186 : decode m_M_uplink.2.1 186 = .ok (.aload_n 0, 1) := by decide +kernel
theorem d_M_uplink_187 : decode m_M_uplink.2.1 187 = .ok (.getfield 91, 3) := by decide +kernel
theorem d_M_uplink_190 : decode m_M_uplink.2.1 190 = .ok (.if_icmp .ge 23, 3) := by decide +kernel
theorem d_M_uplink_193 : decode m_M_uplink.2.1 193 = .ok (.aload_n 0, 1) := by decide +kernel
theorem d_M_uplink_194 : decode m_M_uplink.2.1 194 = .ok (.getfield 17, 3) := by decide +kernel
theorem d_M_uplink_197 : decode m_M_uplink.2.1 197 = .ok (.iload_n 2, 1) := by decide +kernel
theorem d_M_uplink_198 : decode m_M_uplink.2.1 198 = .ok (.aload_n 0, 1) := by decide +kernel
theorem d_M_uplink_199 : decode m_M_uplink.2.1 199 = .ok (.getfield 7, 3) := by decide +kernel
theorem d_M_uplink_202 : decode m_M_uplink.2.1 202 = .ok (.iload_n 2, 1) := by decide +kernel
theorem d_M_uplink_203 : decode m_M_uplink.2.1 203 = .ok (.iconst 2, 1) := by decide +kernel
theorem d_M_uplink_204 : decode m_M_uplink.2.1 204 = .ok (.iadd, 1) := by decide +kernel
theorem d_M_uplink_205 : decode m_M_uplink.2.1 205 = .ok (.iaload, 1) := by decide +kernel
theorem d_M_uplink_206 : decode m_M_uplink.2.1 206 = .ok (.iastore, 1) := by decide +kernel
theorem d_M_uplink_207 : decode m_M_uplink.2.1 207 = .ok (.iinc 2 1, 3) := by decide +kernel
theorem d_M_uplink_210 : decode m_M_uplink.2.1 210 = .ok (.goto (-25), 3) := by decide +kernel
theorem d_M_uplink_213 : decode m_M_uplink.2.1 213 = .ok (.aload_n 0, 1) := by decide +kernel
theorem d_M_uplink_214 : decode m_M_uplink.2.1 214 = .ok (.invokevirtual 158, 3) := by decide +kernel
theorem d_M_uplink_217 : decode m_M_uplink.2.1 217 = .ok (.istore_n 2, 1) := by decide +kernel
theorem d_M_uplink_218 : decode m_M_uplink.2.1 218 = .ok (.iload_n 2, 1) := by decide +kernel
theorem d_M_uplink_219 : decode m_M_uplink.2.1 219 = .ok (.ifCond .ne 22, 3) := by decide +kernel
theorem d_M_uplink_222 : decode m_M_uplink.2.1 222 = .ok (.aload_n 0, 1) := by decide +kernel
theorem d_M_uplink_223 : decode m_M_uplink.2.1 223 = .ok (.aload_n 0, 1) := by decide +kernel
theorem d_M_uplink_224 : decode m_M_uplink.2.1 224 = .ok (.getfield 7, 3) := by decide +kernel
theorem d_M_uplink_227 : decode m_M_uplink.2.1 227 = .ok (.iconst 1, 1) := by decide +kernel
theorem d_M_uplink_228 : decode m_M_uplink.2.1 228 = .ok (.iaload, 1) := by decide +kernel
theorem d_M_uplink_229 : decode m_M_uplink.2.1 229 = .ok (.invokevirtual 161, 3) := by decide +kernel
theorem d_M_uplink_232 : decode m_M_uplink.2.1 232 = .ok (.ifCond .eq 7, 3) := by decide +kernel
theorem d_M_uplink_235 : decode m_M_uplink.2.1 235 = .ok (.iconst 1, 1) := by decide +kernel
theorem d_M_uplink_236 : decode m_M_uplink.2.1 236 = .ok (.goto 4, 3) := by decide +kernel
theorem d_M_uplink_239 : decode m_M_uplink.2.1 239 = .ok (.iconst 2, 1) := by decide +kernel
theorem d_M_uplink_240 : decode m_M_uplink.2.1 240 = .ok (.ireturn, 1) := by decide +kernel
theorem d_M_uplink_241 : decode m_M_uplink.2.1 241 = .ok (.aload_n 0, 1) := by decide +kernel
theorem d_M_uplink_242 : decode m_M_uplink.2.1 242 = .ok (.iconst 2, 1) := by decide +kernel
theorem d_M_uplink_243 : decode m_M_uplink.2.1 243 = .ok (.aload_n 0, 1) := by decide +kernel
theorem d_M_uplink_244 : decode m_M_uplink.2.1 244 = .ok (.getfield 7, 3) := by decide +kernel
theorem d_M_uplink_247 : decode m_M_uplink.2.1 247 = .ok (.iconst 1, 1) := by decide +kernel
theorem d_M_uplink_248 : decode m_M_uplink.2.1 248 = .ok (.iaload, 1) := by decide +kernel
theorem d_M_uplink_249 : decode m_M_uplink.2.1 249 = .ok (.iload_n 2, 1) := by decide +kernel
theorem d_M_uplink_250 : decode m_M_uplink.2.1 250 = .ok (.invokevirtual 119, 3) := by decide +kernel
theorem d_M_uplink_253 : decode m_M_uplink.2.1 253 = .ok (.iconst 2, 1) := by decide +kernel
theorem d_M_uplink_254 : decode m_M_uplink.2.1 254 = .ok (.ireturn, 1) := by decide +kernel
theorem d_M_wanted_0 : decode m_M_wanted.2.1 0 = .ok (.iload_n 0, 1) := by decide +kernel
theorem d_M_wanted_1 : decode m_M_wanted.2.1 1 = .ok (.tableswitch 70 1 11 #[59, 61, 63, 65, 65, 67, 65, 65, 65, 70, 65], 59) := by decide +kernel
theorem d_M_wanted_60 : decode m_M_wanted.2.1 60 = .ok (.iconst 0, 1) := by decide +kernel
theorem d_M_wanted_61 : decode m_M_wanted.2.1 61 = .ok (.ireturn, 1) := by decide +kernel
theorem d_M_wanted_62 : decode m_M_wanted.2.1 62 = .ok (.iconst 2, 1) := by decide +kernel
theorem d_M_wanted_63 : decode m_M_wanted.2.1 63 = .ok (.ireturn, 1) := by decide +kernel
theorem d_M_wanted_64 : decode m_M_wanted.2.1 64 = .ok (.iconst 2, 1) := by decide +kernel
theorem d_M_wanted_65 : decode m_M_wanted.2.1 65 = .ok (.ireturn, 1) := by decide +kernel
theorem d_M_wanted_66 : decode m_M_wanted.2.1 66 = .ok (.iconst 1, 1) := by decide +kernel
theorem d_M_wanted_67 : decode m_M_wanted.2.1 67 = .ok (.ireturn, 1) := by decide +kernel
theorem d_M_wanted_68 : decode m_M_wanted.2.1 68 = .ok (.bipush 6, 2) := by decide +kernel
theorem d_M_wanted_70 : decode m_M_wanted.2.1 70 = .ok (.ireturn, 1) := by decide +kernel
theorem d_M_wanted_71 : decode m_M_wanted.2.1 71 = .ok (.iconst 3, 1) := by decide +kernel
theorem d_M_wanted_72 : decode m_M_wanted.2.1 72 = .ok (.ireturn, 1) := by decide +kernel
theorem d_M_watch_0 : decode m_M_watch.2.1 0 = .ok (.iload_n 1, 1) := by decide +kernel
theorem d_M_watch_1 : decode m_M_watch.2.1 1 = .ok (.ifCond .lt 8, 3) := by decide +kernel
theorem d_M_watch_4 : decode m_M_watch.2.1 4 = .ok (.iload_n 1, 1) := by decide +kernel
theorem d_M_watch_5 : decode m_M_watch.2.1 5 = .ok (.iconst 3, 1) := by decide +kernel
theorem d_M_watch_6 : decode m_M_watch.2.1 6 = .ok (.if_icmp .le 9, 3) := by decide +kernel
theorem d_M_watch_9 : decode m_M_watch.2.1 9 = .ok (.sipush (-1000), 3) := by decide +kernel
theorem d_M_watch_12 : decode m_M_watch.2.1 12 = .ok (.goto 22, 3) := by decide +kernel
theorem d_M_watch_15 : decode m_M_watch.2.1 15 = .ok (.aload_n 0, 1) := by decide +kernel
theorem d_M_watch_16 : decode m_M_watch.2.1 16 = .ok (.getfield 42, 3) := by decide +kernel
theorem d_M_watch_19 : decode m_M_watch.2.1 19 = .ok (.iload_n 1, 1) := by decide +kernel
theorem d_M_watch_20 : decode m_M_watch.2.1 20 = .ok (.baload, 1) := by decide +kernel
theorem d_M_watch_21 : decode m_M_watch.2.1 21 = .ok (.ifCond .eq 12, 3) := by decide +kernel
theorem d_M_watch_24 : decode m_M_watch.2.1 24 = .ok (.aload_n 0, 1) := by decide +kernel
theorem d_M_watch_25 : decode m_M_watch.2.1 25 = .ok (.getfield 60, 3) := by decide +kernel
theorem d_M_watch_28 : decode m_M_watch.2.1 28 = .ok (.iload_n 1, 1) := by decide +kernel
theorem d_M_watch_29 : decode m_M_watch.2.1 29 = .ok (.iaload, 1) := by decide +kernel
theorem d_M_watch_30 : decode m_M_watch.2.1 30 = .ok (.goto 4, 3) := by decide +kernel
theorem d_M_watch_33 : decode m_M_watch.2.1 33 = .ok (.iconst (-1), 1) := by decide +kernel
theorem d_M_watch_34 : decode m_M_watch.2.1 34 = .ok (.ireturn, 1) := by decide +kernel
theorem d_M_work_0 : decode m_M_work.2.1 0 = .ok (.aload_n 0, 1) := by decide +kernel
theorem d_M_work_1 : decode m_M_work.2.1 1 = .ok (.getfield 17, 3) := by decide +kernel
theorem d_M_work_4 : decode m_M_work.2.1 4 = .ok (.iconst 0, 1) := by decide +kernel
theorem d_M_work_5 : decode m_M_work.2.1 5 = .ok (.iaload, 1) := by decide +kernel
theorem d_M_work_6 : decode m_M_work.2.1 6 = .ok (.tableswitch 281 1 10 #[54, 92, 115, 122, 135, 188, 201, 216, 229, 244], 54) := by decide +kernel
theorem d_M_work_60 : decode m_M_work.2.1 60 = .ok (.iconst 0, 1) := by decide +kernel
theorem d_M_work_61 : decode m_M_work.2.1 61 = .ok (.istore_n 2, 1) := by decide +kernel
theorem d_M_work_62 : decode m_M_work.2.1 62 = .ok (.iconst 0, 1) := by decide +kernel
theorem d_M_work_63 : decode m_M_work.2.1 63 = .ok (.istore_n 3, 1) := by decide +kernel
theorem d_M_work_64 : decode m_M_work.2.1 64 = .ok (.iload_n 3, 1) := by decide +kernel
theorem d_M_work_65 : decode m_M_work.2.1 65 = .ok (.bipush 8, 2) := by decide +kernel
theorem d_M_work_67 : decode m_M_work.2.1 67 = .ok (.if_icmp .ge 21, 3) := by decide +kernel
theorem d_M_work_70 : decode m_M_work.2.1 70 = .ok (.aload_n 0, 1) := by decide +kernel
theorem d_M_work_71 : decode m_M_work.2.1 71 = .ok (.getfield 69, 3) := by decide +kernel
theorem d_M_work_74 : decode m_M_work.2.1 74 = .ok (.iload_n 3, 1) := by decide +kernel
theorem d_M_work_75 : decode m_M_work.2.1 75 = .ok (.iaload, 1) := by decide +kernel
theorem d_M_work_76 : decode m_M_work.2.1 76 = .ok (.ifCond .eq 6, 3) := by decide +kernel
theorem d_M_work_79 : decode m_M_work.2.1 79 = .ok (.iinc 2 1, 3) := by decide +kernel
theorem d_M_work_82 : decode m_M_work.2.1 82 = .ok (.iinc 3 1, 3) := by decide +kernel
theorem d_M_work_85 : decode m_M_work.2.1 85 = .ok (.goto (-21), 3) := by decide +kernel
theorem d_M_work_88 : decode m_M_work.2.1 88 = .ok (.aload_n 0, 1) := by decide +kernel
theorem d_M_work_89 : decode m_M_work.2.1 89 = .ok (.iconst 3, 1) := by decide +kernel
theorem d_M_work_90 : decode m_M_work.2.1 90 = .ok (.iload_n 1, 1) := by decide +kernel
theorem d_M_work_91 : decode m_M_work.2.1 91 = .ok (.iload_n 2, 1) := by decide +kernel
theorem d_M_work_92 : decode m_M_work.2.1 92 = .ok (.invokevirtual 119, 3) := by decide +kernel
theorem d_M_work_95 : decode m_M_work.2.1 95 = .ok (.goto 223, 3) := by decide +kernel
theorem d_M_work_98 : decode m_M_work.2.1 98 = .ok (.aload_n 0, 1) := by decide +kernel
theorem d_M_work_99 : decode m_M_work.2.1 99 = .ok (.getfield 69, 3) := by decide +kernel
theorem d_M_work_102 : decode m_M_work.2.1 102 = .ok (.aload_n 0, 1) := by decide +kernel
theorem d_M_work_103 : decode m_M_work.2.1 103 = .ok (.getfield 17, 3) := by decide +kernel
theorem d_M_work_106 : decode m_M_work.2.1 106 = .ok (.iconst 1, 1) := by decide +kernel
theorem d_M_work_107 : decode m_M_work.2.1 107 = .ok (.iaload, 1) := by decide +kernel
theorem d_M_work_108 : decode m_M_work.2.1 108 = .ok (.aload_n 0, 1) := by decide +kernel
theorem d_M_work_109 : decode m_M_work.2.1 109 = .ok (.getfield 17, 3) := by decide +kernel
theorem d_M_work_112 : decode m_M_work.2.1 112 = .ok (.iconst 2, 1) := by decide +kernel
theorem d_M_work_113 : decode m_M_work.2.1 113 = .ok (.iaload, 1) := by decide +kernel
theorem d_M_work_114 : decode m_M_work.2.1 114 = .ok (.invokestatic 87, 3) := by decide +kernel
theorem d_M_work_117 : decode m_M_work.2.1 117 = .ok (.iastore, 1) := by decide +kernel
theorem d_M_work_118 : decode m_M_work.2.1 118 = .ok (.goto 200, 3) := by decide +kernel
theorem d_M_work_121 : decode m_M_work.2.1 121 = .ok (.aload_n 0, 1) := by decide +kernel
theorem d_M_work_122 : decode m_M_work.2.1 122 = .ok (.invokevirtual 123, 3) := by decide +kernel
theorem d_M_work_125 : decode m_M_work.2.1 125 = .ok (.goto 193, 3) := by decide +kernel
theorem d_M_work_128 : decode m_M_work.2.1 128 = .ok (.aload_n 0, 1) := by decide +kernel
theorem d_M_work_129 : decode m_M_work.2.1 129 = .ok (.aload_n 0, 1) := by decide +kernel
theorem d_M_work_130 : decode m_M_work.2.1 130 = .ok (.getfield 17, 3) := by decide +kernel
theorem d_M_work_133 : decode m_M_work.2.1 133 = .ok (.iconst 1, 1) := by decide +kernel
theorem d_M_work_134 : decode m_M_work.2.1 134 = .ok (.iaload, 1) := by decide +kernel
theorem d_M_work_135 : decode m_M_work.2.1 135 = .ok (.invokevirtual 126, 3) := by decide +kernel
theorem d_M_work_138 : decode m_M_work.2.1 138 = .ok (.goto 180, 3) := by decide +kernel
theorem d_M_work_141 : decode m_M_work.2.1 141 = .ok (.iconst 0, 1) := by decide +kernel
theorem d_M_work_142 : decode m_M_work.2.1 142 = .ok (.istore_n 3, 1) := by decide +kernel
theorem d_M_work_143 : decode m_M_work.2.1 143 = .ok (.iload_n 3, 1) := by decide +kernel
theorem d_M_work_144 : decode m_M_work.2.1 144 = .ok (.bipush 6, 2) := by decide +kernel
theorem d_M_work_146 : decode m_M_work.2.1 146 = .ok (.if_icmp .ge 45, 3) := by decide +kernel
theorem d_M_work_149 : decode m_M_work.2.1 149 = .ok (.aload_n 0, 1) := by decide +kernel
theorem d_M_work_150 : decode m_M_work.2.1 150 = .ok (.getfield 29, 3) := by decide +kernel
theorem d_M_work_153 : decode m_M_work.2.1 153 = .ok (.iload_n 3, 1) := by decide +kernel
theorem d_M_work_154 : decode m_M_work.2.1 154 = .ok (.iaload, 1) := by decide +kernel
theorem d_M_work_155 : decode m_M_work.2.1 155 = .ok (.ifCond .eq 30, 3) := by decide +kernel
theorem d_M_work_158 : decode m_M_work.2.1 158 = .ok (.aload_n 0, 1) := by decide +kernel
theorem d_M_work_159 : decode m_M_work.2.1 159 = .ok (.getfield 32, 3) := by decide +kernel
theorem d_M_work_162 : decode m_M_work.2.1 162 = .ok (.iload_n 3, 1) := by decide +kernel
theorem d_M_work_163 : decode m_M_work.2.1 163 = .ok (.baload, 1) := by decide +kernel
theorem d_M_work_164 : decode m_M_work.2.1 164 = .ok (.ifCond .ne 21, 3) := by decide +kernel
theorem d_M_work_167 : decode m_M_work.2.1 167 = .ok (.aload_n 0, 1) := by decide +kernel
theorem d_M_work_168 : decode m_M_work.2.1 168 = .ok (.getfield 26, 3) := by decide +kernel
theorem d_M_work_171 : decode m_M_work.2.1 171 = .ok (.iload_n 3, 1) := by decide +kernel
theorem d_M_work_172 : decode m_M_work.2.1 172 = .ok (.dup2, 1) := by decide +kernel
theorem d_M_work_173 : decode m_M_work.2.1 173 = .ok (.iaload, 1) := by decide +kernel
theorem d_M_work_174 : decode m_M_work.2.1 174 = .ok (.aload_n 0, 1) := by decide +kernel
theorem d_M_work_175 : decode m_M_work.2.1 175 = .ok (.getfield 17, 3) := by decide +kernel
theorem d_M_work_178 : decode m_M_work.2.1 178 = .ok (.iconst 1, 1) := by decide +kernel
theorem d_M_work_179 : decode m_M_work.2.1 179 = .ok (.iaload, 1) := by decide +kernel
theorem d_M_work_180 : decode m_M_work.2.1 180 = .ok (.invokestatic 87, 3) := by decide +kernel
theorem d_M_work_183 : decode m_M_work.2.1 183 = .ok (.iadd, 1) := by decide +kernel
theorem d_M_work_184 : decode m_M_work.2.1 184 = .ok (.iastore, 1) := by decide +kernel
theorem d_M_work_185 : decode m_M_work.2.1 185 = .ok (.iinc 3 1, 3) := by decide +kernel
theorem d_M_work_188 : decode m_M_work.2.1 188 = .ok (.goto (-45), 3) := by decide +kernel
theorem d_M_work_191 : decode m_M_work.2.1 191 = .ok (.goto 127, 3) := by decide +kernel
theorem d_M_work_194 : decode m_M_work.2.1 194 = .ok (.aload_n 0, 1) := by decide +kernel
theorem d_M_work_195 : decode m_M_work.2.1 195 = .ok (.aload_n 0, 1) := by decide +kernel
theorem d_M_work_196 : decode m_M_work.2.1 196 = .ok (.getfield 17, 3) := by decide +kernel
theorem d_M_work_199 : decode m_M_work.2.1 199 = .ok (.iconst 1, 1) := by decide +kernel
theorem d_M_work_200 : decode m_M_work.2.1 200 = .ok (.iaload, 1) := by decide +kernel
theorem d_M_work_201 : decode m_M_work.2.1 201 = .ok (.invokevirtual 130, 3) := by decide +kernel
theorem d_M_work_204 : decode m_M_work.2.1 204 = .ok (.goto 114, 3) := by decide +kernel
theorem d_M_work_207 : decode m_M_work.2.1 207 = .ok (.aload_n 0, 1) := by decide +kernel
theorem d_M_work_208 : decode m_M_work.2.1 208 = .ok (.getfield 42, 3) := by decide +kernel
theorem d_M_work_211 : decode m_M_work.2.1 211 = .ok (.aload_n 0, 1) := by decide +kernel
theorem d_M_work_212 : decode m_M_work.2.1 212 = .ok (.getfield 17, 3) := by decide +kernel
theorem d_M_work_215 : decode m_M_work.2.1 215 = .ok (.iconst 1, 1) := by decide +kernel
theorem d_M_work_216 : decode m_M_work.2.1 216 = .ok (.iaload, 1) := by decide +kernel
theorem d_M_work_217 : decode m_M_work.2.1 217 = .ok (.iconst 0, 1) := by decide +kernel
theorem d_M_work_218 : decode m_M_work.2.1 218 = .ok (.bastore, 1) := by decide +kernel
theorem d_M_work_219 : decode m_M_work.2.1 219 = .ok (.goto 99, 3) := by decide +kernel
theorem d_M_work_222 : decode m_M_work.2.1 222 = .ok (.aload_n 0, 1) := by decide +kernel
theorem d_M_work_223 : decode m_M_work.2.1 223 = .ok (.aload_n 0, 1) := by decide +kernel
theorem d_M_work_224 : decode m_M_work.2.1 224 = .ok (.getfield 17, 3) := by decide +kernel
theorem d_M_work_227 : decode m_M_work.2.1 227 = .ok (.iconst 1, 1) := by decide +kernel
theorem d_M_work_228 : decode m_M_work.2.1 228 = .ok (.iaload, 1) := by decide +kernel
theorem d_M_work_229 : decode m_M_work.2.1 229 = .ok (.invokevirtual 133, 3) := by decide +kernel
theorem d_M_work_232 : decode m_M_work.2.1 232 = .ok (.goto 86, 3) := by decide +kernel
theorem d_M_work_235 : decode m_M_work.2.1 235 = .ok (.aload_n 0, 1) := by decide +kernel
theorem d_M_work_236 : decode m_M_work.2.1 236 = .ok (.getfield 39, 3) := by decide +kernel
theorem d_M_work_239 : decode m_M_work.2.1 239 = .ok (.aload_n 0, 1) := by decide +kernel
theorem d_M_work_240 : decode m_M_work.2.1 240 = .ok (.getfield 17, 3) := by decide +kernel
theorem d_M_work_243 : decode m_M_work.2.1 243 = .ok (.iconst 1, 1) := by decide +kernel
theorem d_M_work_244 : decode m_M_work.2.1 244 = .ok (.iaload, 1) := by decide +kernel
theorem d_M_work_245 : decode m_M_work.2.1 245 = .ok (.iconst 0, 1) := by decide +kernel
theorem d_M_work_246 : decode m_M_work.2.1 246 = .ok (.iastore, 1) := by decide +kernel
theorem d_M_work_247 : decode m_M_work.2.1 247 = .ok (.goto 71, 3) := by decide +kernel
theorem d_M_work_250 : decode m_M_work.2.1 250 = .ok (.aload_n 0, 1) := by decide +kernel
theorem d_M_work_251 : decode m_M_work.2.1 251 = .ok (.getfield 63, 3) := by decide +kernel
theorem d_M_work_254 : decode m_M_work.2.1 254 = .ok (.aload_n 0, 1) := by decide +kernel
theorem d_M_work_255 : decode m_M_work.2.1 255 = .ok (.getfield 17, 3) := by decide +kernel
theorem d_M_work_258 : decode m_M_work.2.1 258 = .ok (.iconst 1, 1) := by decide +kernel
theorem d_M_work_259 : decode m_M_work.2.1 259 = .ok (.iaload, 1) := by decide +kernel
theorem d_M_work_260 : decode m_M_work.2.1 260 = .ok (.aload_n 0, 1) := by decide +kernel
theorem d_M_work_261 : decode m_M_work.2.1 261 = .ok (.getfield 17, 3) := by decide +kernel
theorem d_M_work_264 : decode m_M_work.2.1 264 = .ok (.iconst 2, 1) := by decide +kernel
theorem d_M_work_265 : decode m_M_work.2.1 265 = .ok (.iaload, 1) := by decide +kernel
theorem d_M_work_266 : decode m_M_work.2.1 266 = .ok (.iastore, 1) := by decide +kernel
theorem d_M_work_267 : decode m_M_work.2.1 267 = .ok (.aload_n 0, 1) := by decide +kernel
theorem d_M_work_268 : decode m_M_work.2.1 268 = .ok (.getfield 66, 3) := by decide +kernel
theorem d_M_work_271 : decode m_M_work.2.1 271 = .ok (.aload_n 0, 1) := by decide +kernel
theorem d_M_work_272 : decode m_M_work.2.1 272 = .ok (.getfield 17, 3) := by decide +kernel
theorem d_M_work_275 : decode m_M_work.2.1 275 = .ok (.iconst 1, 1) := by decide +kernel
theorem d_M_work_276 : decode m_M_work.2.1 276 = .ok (.iaload, 1) := by decide +kernel
theorem d_M_work_277 : decode m_M_work.2.1 277 = .ok (.aload_n 0, 1) := by decide +kernel
theorem d_M_work_278 : decode m_M_work.2.1 278 = .ok (.getfield 17, 3) := by decide +kernel
theorem d_M_work_281 : decode m_M_work.2.1 281 = .ok (.iconst 3, 1) := by decide +kernel
theorem d_M_work_282 : decode m_M_work.2.1 282 = .ok (.iaload, 1) := by decide +kernel
theorem d_M_work_283 : decode m_M_work.2.1 283 = .ok (.iastore, 1) := by decide +kernel
theorem d_M_work_284 : decode m_M_work.2.1 284 = .ok (.goto 34, 3) := by decide +kernel
theorem d_M_work_287 : decode m_M_work.2.1 287 = .ok (.aload_n 0, 1) := by decide +kernel
theorem d_M_work_288 : decode m_M_work.2.1 288 = .ok (.aload_n 0, 1) := by decide +kernel
theorem d_M_work_289 : decode m_M_work.2.1 289 = .ok (.getfield 17, 3) := by decide +kernel
theorem d_M_work_292 : decode m_M_work.2.1 292 = .ok (.iconst 1, 1) := by decide +kernel
theorem d_M_work_293 : decode m_M_work.2.1 293 = .ok (.iaload, 1) := by decide +kernel
theorem d_M_work_294 : decode m_M_work.2.1 294 = .ok (.iconst 1, 1) := by decide +kernel
theorem d_M_work_295 : decode m_M_work.2.1 295 = .ok (.if_icmp .ne 7, 3) := by decide +kernel
theorem d_M_work_298 : decode m_M_work.2.1 298 = .ok (.iconst 1, 1) := by decide +kernel
theorem d_M_work_299 : decode m_M_work.2.1 299 = .ok (.goto 4, 3) := by decide +kernel
theorem d_M_work_302 : decode m_M_work.2.1 302 = .ok (.iconst 0, 1) := by decide +kernel
theorem d_M_work_303 : decode m_M_work.2.1 303 = .ok (.putfield 102, 3) := by decide +kernel
theorem d_M_work_306 : decode m_M_work.2.1 306 = .ok (.aload_n 0, 1) := by decide +kernel
theorem d_M_work_307 : decode m_M_work.2.1 307 = .ok (.getfield 102, 3) := by decide +kernel
theorem d_M_work_310 : decode m_M_work.2.1 310 = .ok (.ifCond .eq 8, 3) := by decide +kernel
theorem d_M_work_313 : decode m_M_work.2.1 313 = .ok (.aload_n 0, 1) := by decide +kernel
theorem d_M_work_314 : decode m_M_work.2.1 314 = .ok (.iconst 1, 1) := by decide +kernel
theorem d_M_work_315 : decode m_M_work.2.1 315 = .ok (.putfield 116, 3) := by decide +kernel
theorem d_M_work_318 : decode m_M_work.2.1 318 = .ok (.return_, 1) := by decide +kernel
theorem d_L_law_0 : decode m_L_law.2.1 0 = .ok (.new 7, 3) := by decide +kernel
theorem d_L_law_3 : decode m_L_law.2.1 3 = .ok (.dup, 1) := by decide +kernel
theorem d_L_law_4 : decode m_L_law.2.1 4 = .ok (.invokespecial 9, 3) := by decide +kernel
theorem d_L_law_7 : decode m_L_law.2.1 7 = .ok (.astore_n 1, 1) := by decide +kernel
theorem d_L_law_8 : decode m_L_law.2.1 8 = .ok (.new 10, 3) := by decide +kernel
theorem d_L_law_11 : decode m_L_law.2.1 11 = .ok (.dup, 1) := by decide +kernel
theorem d_L_law_12 : decode m_L_law.2.1 12 = .ok (.invokespecial 12, 3) := by decide +kernel
theorem d_L_law_15 : decode m_L_law.2.1 15 = .ok (.astore_n 2, 1) := by decide +kernel
theorem d_L_law_16 : decode m_L_law.2.1 16 = .ok (.iconst 0, 1) := by decide +kernel
theorem d_L_law_17 : decode m_L_law.2.1 17 = .ok (.istore_n 3, 1) := by decide +kernel
theorem d_L_law_18 : decode m_L_law.2.1 18 = .ok (.iload_n 3, 1) := by decide +kernel
theorem d_L_law_19 : decode m_L_law.2.1 19 = .ok (.aload_n 0, 1) := by decide +kernel
theorem d_L_law_20 : decode m_L_law.2.1 20 = .ok (.arraylength, 1) := by decide +kernel
theorem d_L_law_21 : decode m_L_law.2.1 21 = .ok (.iconst 3, 1) := by decide +kernel
theorem d_L_law_22 : decode m_L_law.2.1 22 = .ok (.isub, 1) := by decide +kernel
theorem d_L_law_23 : decode m_L_law.2.1 23 = .ok (.if_icmp .gt 318, 3) := by decide +kernel
theorem d_L_law_26 : decode m_L_law.2.1 26 = .ok (.aload_n 0, 1) := by decide +kernel
theorem d_L_law_27 : decode m_L_law.2.1 27 = .ok (.iload_n 3, 1) := by decide +kernel
theorem d_L_law_28 : decode m_L_law.2.1 28 = .ok (.iaload, 1) := by decide +kernel
theorem d_L_law_29 : decode m_L_law.2.1 29 = .ok (.bipush 15, 2) := by decide +kernel
theorem d_L_law_31 : decode m_L_law.2.1 31 = .ok (.iand, 1) := by decide +kernel
theorem d_L_law_32 : decode m_L_law.2.1 32 = .ok (.tableswitch 303 0 10 #[60, 83, 96, 119, 132, 155, 188, 211, 234, 257, 280], 60) := by decide +kernel
theorem d_L_law_92 : decode m_L_law.2.1 92 = .ok (.aload_n 1, 1) := by decide +kernel
theorem d_L_law_93 : decode m_L_law.2.1 93 = .ok (.aload_n 0, 1) := by decide +kernel
theorem d_L_law_94 : decode m_L_law.2.1 94 = .ok (.iload_n 3, 1) := by decide +kernel
theorem d_L_law_95 : decode m_L_law.2.1 95 = .ok (.iconst 1, 1) := by decide +kernel
theorem d_L_law_96 : decode m_L_law.2.1 96 = .ok (.iadd, 1) := by decide +kernel
theorem d_L_law_97 : decode m_L_law.2.1 97 = .ok (.iaload, 1) := by decide +kernel
theorem d_L_law_98 : decode m_L_law.2.1 98 = .ok (.invokevirtual 13, 3) := by decide +kernel
theorem d_L_law_101 : decode m_L_law.2.1 101 = .ok (.aload_n 2, 1) := by decide +kernel
theorem d_L_law_102 : decode m_L_law.2.1 102 = .ok (.aload_n 0, 1) := by decide +kernel
theorem d_L_law_103 : decode m_L_law.2.1 103 = .ok (.iload_n 3, 1) := by decide +kernel
theorem d_L_law_104 : decode m_L_law.2.1 104 = .ok (.iconst 1, 1) := by decide +kernel
theorem d_L_law_105 : decode m_L_law.2.1 105 = .ok (.iadd, 1) := by decide +kernel
theorem d_L_law_106 : decode m_L_law.2.1 106 = .ok (.iaload, 1) := by decide +kernel
theorem d_L_law_107 : decode m_L_law.2.1 107 = .ok (.invokevirtual 17, 3) := by decide +kernel
theorem d_L_law_110 : decode m_L_law.2.1 110 = .ok (.if_icmp .eq 225, 3) := by decide +kernel
theorem d_L_law_113 : decode m_L_law.2.1 113 = .ok (.iconst 0, 1) := by decide +kernel
theorem d_L_law_114 : decode m_L_law.2.1 114 = .ok (.ireturn, 1) := by decide +kernel
theorem d_L_law_115 : decode m_L_law.2.1 115 = .ok (.aload_n 1, 1) := by decide +kernel
theorem d_L_law_116 : decode m_L_law.2.1 116 = .ok (.invokevirtual 18, 3) := by decide +kernel
theorem d_L_law_119 : decode m_L_law.2.1 119 = .ok (.aload_n 2, 1) := by decide +kernel
theorem d_L_law_120 : decode m_L_law.2.1 120 = .ok (.invokevirtual 22, 3) := by decide +kernel
theorem d_L_law_123 : decode m_L_law.2.1 123 = .ok (.if_icmp .eq 212, 3) := by decide +kernel
theorem d_L_law_126 : decode m_L_law.2.1 126 = .ok (.iconst 0, 1) := by decide +kernel
theorem d_L_law_127 : decode m_L_law.2.1 127 = .ok (.ireturn, 1) := by decide +kernel
theorem d_L_law_128 : decode m_L_law.2.1 128 = .ok (.aload_n 1, 1) := by decide +kernel
theorem d_L_law_129 : decode m_L_law.2.1 129 = .ok (.aload_n 0, 1) := by decide +kernel
theorem d_L_law_130 : decode m_L_law.2.1 130 = .ok (.iload_n 3, 1) := by decide +kernel
theorem d_L_law_131 : decode m_L_law.2.1 131 = .ok (.iconst 1, 1) := by decide +kernel
theorem d_L_law_132 : decode m_L_law.2.1 132 = .ok (.iadd, 1) := by decide +kernel
theorem d_L_law_133 : decode m_L_law.2.1 133 = .ok (.iaload, 1) := by decide +kernel
theorem d_L_law_134 : decode m_L_law.2.1 134 = .ok (.invokevirtual 23, 3) := by decide +kernel
theorem d_L_law_137 : decode m_L_law.2.1 137 = .ok (.aload_n 2, 1) := by decide +kernel
theorem d_L_law_138 : decode m_L_law.2.1 138 = .ok (.aload_n 0, 1) := by decide +kernel
theorem d_L_law_139 : decode m_L_law.2.1 139 = .ok (.iload_n 3, 1) := by decide +kernel
theorem d_L_law_140 : decode m_L_law.2.1 140 = .ok (.iconst 1, 1) := by decide +kernel
theorem d_L_law_141 : decode m_L_law.2.1 141 = .ok (.iadd, 1) := by decide +kernel
theorem d_L_law_142 : decode m_L_law.2.1 142 = .ok (.iaload, 1) := by decide +kernel
theorem d_L_law_143 : decode m_L_law.2.1 143 = .ok (.invokevirtual 26, 3) := by decide +kernel
theorem d_L_law_146 : decode m_L_law.2.1 146 = .ok (.if_icmp .eq 189, 3) := by decide +kernel
theorem d_L_law_149 : decode m_L_law.2.1 149 = .ok (.iconst 0, 1) := by decide +kernel
theorem d_L_law_150 : decode m_L_law.2.1 150 = .ok (.ireturn, 1) := by decide +kernel
theorem d_L_law_151 : decode m_L_law.2.1 151 = .ok (.aload_n 1, 1) := by decide +kernel
theorem d_L_law_152 : decode m_L_law.2.1 152 = .ok (.invokevirtual 27, 3) := by decide +kernel
theorem d_L_law_155 : decode m_L_law.2.1 155 = .ok (.aload_n 2, 1) := by decide +kernel
theorem d_L_law_156 : decode m_L_law.2.1 156 = .ok (.invokevirtual 30, 3) := by decide +kernel
theorem d_L_law_159 : decode m_L_law.2.1 159 = .ok (.if_icmp .eq 176, 3) := by decide +kernel
theorem d_L_law_162 : decode m_L_law.2.1 162 = .ok (.iconst 0, 1) := by decide +kernel
theorem d_L_law_163 : decode m_L_law.2.1 163 = .ok (.ireturn, 1) := by decide +kernel
theorem d_L_law_164 : decode m_L_law.2.1 164 = .ok (.aload_n 1, 1) := by decide +kernel
theorem d_L_law_165 : decode m_L_law.2.1 165 = .ok (.aload_n 0, 1) := by decide +kernel
theorem d_L_law_166 : decode m_L_law.2.1 166 = .ok (.iload_n 3, 1) := by decide +kernel
theorem d_L_law_167 : decode m_L_law.2.1 167 = .ok (.iconst 1, 1) := by decide +kernel
theorem d_L_law_168 : decode m_L_law.2.1 168 = .ok (.iadd, 1) := by decide +kernel
theorem d_L_law_169 : decode m_L_law.2.1 169 = .ok (.iaload, 1) := by decide +kernel
theorem d_L_law_170 : decode m_L_law.2.1 170 = .ok (.invokevirtual 31, 3) := by decide +kernel
theorem d_L_law_173 : decode m_L_law.2.1 173 = .ok (.aload_n 2, 1) := by decide +kernel
theorem d_L_law_174 : decode m_L_law.2.1 174 = .ok (.aload_n 0, 1) := by decide +kernel
theorem d_L_law_175 : decode m_L_law.2.1 175 = .ok (.iload_n 3, 1) := by decide +kernel
theorem d_L_law_176 : decode m_L_law.2.1 176 = .ok (.iconst 1, 1) := by decide +kernel
theorem d_L_law_177 : decode m_L_law.2.1 177 = .ok (.iadd, 1) := by decide +kernel
theorem d_L_law_178 : decode m_L_law.2.1 178 = .ok (.iaload, 1) := by decide +kernel
theorem d_L_law_179 : decode m_L_law.2.1 179 = .ok (.invokevirtual 34, 3) := by decide +kernel
theorem d_L_law_182 : decode m_L_law.2.1 182 = .ok (.if_icmp .eq 153, 3) := by decide +kernel
theorem d_L_law_185 : decode m_L_law.2.1 185 = .ok (.iconst 0, 1) := by decide +kernel
theorem d_L_law_186 : decode m_L_law.2.1 186 = .ok (.ireturn, 1) := by decide +kernel
theorem d_L_law_187 : decode m_L_law.2.1 187 = .ok (.aload_n 1, 1) := by decide +kernel
theorem d_L_law_188 : decode m_L_law.2.1 188 = .ok (.aload_n 0, 1) := by decide +kernel
theorem d_L_law_189 : decode m_L_law.2.1 189 = .ok (.iload_n 3, 1) := by decide +kernel
theorem d_L_law_190 : decode m_L_law.2.1 190 = .ok (.iconst 1, 1) := by decide +kernel
theorem d_L_law_191 : decode m_L_law.2.1 191 = .ok (.iadd, 1) := by decide +kernel
theorem d_L_law_192 : decode m_L_law.2.1 192 = .ok (.iaload, 1) := by decide +kernel
theorem d_L_law_193 : decode m_L_law.2.1 193 = .ok (.aload_n 0, 1) := by decide +kernel
theorem d_L_law_194 : decode m_L_law.2.1 194 = .ok (.iload_n 3, 1) := by decide +kernel
theorem d_L_law_195 : decode m_L_law.2.1 195 = .ok (.iconst 2, 1) := by decide +kernel
theorem d_L_law_196 : decode m_L_law.2.1 196 = .ok (.iadd, 1) := by decide +kernel
theorem d_L_law_197 : decode m_L_law.2.1 197 = .ok (.iaload, 1) := by decide +kernel
theorem d_L_law_198 : decode m_L_law.2.1 198 = .ok (.invokevirtual 35, 3) := by decide +kernel
theorem d_L_law_201 : decode m_L_law.2.1 201 = .ok (.aload_n 2, 1) := by decide +kernel
theorem d_L_law_202 : decode m_L_law.2.1 202 = .ok (.aload_n 0, 1) := by decide +kernel
theorem d_L_law_203 : decode m_L_law.2.1 203 = .ok (.iload_n 3, 1) := by decide +kernel
theorem d_L_law_204 : decode m_L_law.2.1 204 = .ok (.iconst 1, 1) := by decide +kernel
theorem d_L_law_205 : decode m_L_law.2.1 205 = .ok (.iadd, 1) := by decide +kernel
theorem d_L_law_206 : decode m_L_law.2.1 206 = .ok (.iaload, 1) := by decide +kernel
theorem d_L_law_207 : decode m_L_law.2.1 207 = .ok (.aload_n 0, 1) := by decide +kernel
theorem d_L_law_208 : decode m_L_law.2.1 208 = .ok (.iload_n 3, 1) := by decide +kernel
theorem d_L_law_209 : decode m_L_law.2.1 209 = .ok (.iconst 2, 1) := by decide +kernel
theorem d_L_law_210 : decode m_L_law.2.1 210 = .ok (.iadd, 1) := by decide +kernel
theorem d_L_law_211 : decode m_L_law.2.1 211 = .ok (.iaload, 1) := by decide +kernel
theorem d_L_law_212 : decode m_L_law.2.1 212 = .ok (.invokevirtual 39, 3) := by decide +kernel
theorem d_L_law_215 : decode m_L_law.2.1 215 = .ok (.if_icmp .eq 120, 3) := by decide +kernel
theorem d_L_law_218 : decode m_L_law.2.1 218 = .ok (.iconst 0, 1) := by decide +kernel
theorem d_L_law_219 : decode m_L_law.2.1 219 = .ok (.ireturn, 1) := by decide +kernel
theorem d_L_law_220 : decode m_L_law.2.1 220 = .ok (.aload_n 1, 1) := by decide +kernel
theorem d_L_law_221 : decode m_L_law.2.1 221 = .ok (.aload_n 0, 1) := by decide +kernel
theorem d_L_law_222 : decode m_L_law.2.1 222 = .ok (.iload_n 3, 1) := by decide +kernel
theorem d_L_law_223 : decode m_L_law.2.1 223 = .ok (.iconst 1, 1) := by decide +kernel
theorem d_L_law_224 : decode m_L_law.2.1 224 = .ok (.iadd, 1) := by decide +kernel
theorem d_L_law_225 : decode m_L_law.2.1 225 = .ok (.iaload, 1) := by decide +kernel
theorem d_L_law_226 : decode m_L_law.2.1 226 = .ok (.invokevirtual 40, 3) := by decide +kernel
theorem d_L_law_229 : decode m_L_law.2.1 229 = .ok (.aload_n 2, 1) := by decide +kernel
theorem d_L_law_230 : decode m_L_law.2.1 230 = .ok (.aload_n 0, 1) := by decide +kernel
theorem d_L_law_231 : decode m_L_law.2.1 231 = .ok (.iload_n 3, 1) := by decide +kernel
theorem d_L_law_232 : decode m_L_law.2.1 232 = .ok (.iconst 1, 1) := by decide +kernel
theorem d_L_law_233 : decode m_L_law.2.1 233 = .ok (.iadd, 1) := by decide +kernel
theorem d_L_law_234 : decode m_L_law.2.1 234 = .ok (.iaload, 1) := by decide +kernel
theorem d_L_law_235 : decode m_L_law.2.1 235 = .ok (.invokevirtual 43, 3) := by decide +kernel
theorem d_L_law_238 : decode m_L_law.2.1 238 = .ok (.if_icmp .eq 97, 3) := by decide +kernel
theorem d_L_law_241 : decode m_L_law.2.1 241 = .ok (.iconst 0, 1) := by decide +kernel
theorem d_L_law_242 : decode m_L_law.2.1 242 = .ok (.ireturn, 1) := by decide +kernel
theorem d_L_law_243 : decode m_L_law.2.1 243 = .ok (.aload_n 1, 1) := by decide +kernel
theorem d_L_law_244 : decode m_L_law.2.1 244 = .ok (.aload_n 0, 1) := by decide +kernel
theorem d_L_law_245 : decode m_L_law.2.1 245 = .ok (.iload_n 3, 1) := by decide +kernel
theorem d_L_law_246 : decode m_L_law.2.1 246 = .ok (.iconst 1, 1) := by decide +kernel
theorem d_L_law_247 : decode m_L_law.2.1 247 = .ok (.iadd, 1) := by decide +kernel
theorem d_L_law_248 : decode m_L_law.2.1 248 = .ok (.iaload, 1) := by decide +kernel
theorem d_L_law_249 : decode m_L_law.2.1 249 = .ok (.invokevirtual 44, 3) := by decide +kernel
theorem d_L_law_252 : decode m_L_law.2.1 252 = .ok (.aload_n 2, 1) := by decide +kernel
theorem d_L_law_253 : decode m_L_law.2.1 253 = .ok (.aload_n 0, 1) := by decide +kernel
theorem d_L_law_254 : decode m_L_law.2.1 254 = .ok (.iload_n 3, 1) := by decide +kernel
theorem d_L_law_255 : decode m_L_law.2.1 255 = .ok (.iconst 1, 1) := by decide +kernel
theorem d_L_law_256 : decode m_L_law.2.1 256 = .ok (.iadd, 1) := by decide +kernel
theorem d_L_law_257 : decode m_L_law.2.1 257 = .ok (.iaload, 1) := by decide +kernel
theorem d_L_law_258 : decode m_L_law.2.1 258 = .ok (.invokevirtual 47, 3) := by decide +kernel
theorem d_L_law_261 : decode m_L_law.2.1 261 = .ok (.if_icmp .eq 74, 3) := by decide +kernel
theorem d_L_law_264 : decode m_L_law.2.1 264 = .ok (.iconst 0, 1) := by decide +kernel
theorem d_L_law_265 : decode m_L_law.2.1 265 = .ok (.ireturn, 1) := by decide +kernel
theorem d_L_law_266 : decode m_L_law.2.1 266 = .ok (.aload_n 1, 1) := by decide +kernel
theorem d_L_law_267 : decode m_L_law.2.1 267 = .ok (.aload_n 0, 1) := by decide +kernel
theorem d_L_law_268 : decode m_L_law.2.1 268 = .ok (.iload_n 3, 1) := by decide +kernel
theorem d_L_law_269 : decode m_L_law.2.1 269 = .ok (.iconst 1, 1) := by decide +kernel
theorem d_L_law_270 : decode m_L_law.2.1 270 = .ok (.iadd, 1) := by decide +kernel
theorem d_L_law_271 : decode m_L_law.2.1 271 = .ok (.iaload, 1) := by decide +kernel
theorem d_L_law_272 : decode m_L_law.2.1 272 = .ok (.invokevirtual 48, 3) := by decide +kernel
theorem d_L_law_275 : decode m_L_law.2.1 275 = .ok (.aload_n 2, 1) := by decide +kernel
theorem d_L_law_276 : decode m_L_law.2.1 276 = .ok (.aload_n 0, 1) := by decide +kernel
theorem d_L_law_277 : decode m_L_law.2.1 277 = .ok (.iload_n 3, 1) := by decide +kernel
theorem d_L_law_278 : decode m_L_law.2.1 278 = .ok (.iconst 1, 1) := by decide +kernel
theorem d_L_law_279 : decode m_L_law.2.1 279 = .ok (.iadd, 1) := by decide +kernel
theorem d_L_law_280 : decode m_L_law.2.1 280 = .ok (.iaload, 1) := by decide +kernel
theorem d_L_law_281 : decode m_L_law.2.1 281 = .ok (.invokevirtual 51, 3) := by decide +kernel
theorem d_L_law_284 : decode m_L_law.2.1 284 = .ok (.if_icmp .eq 51, 3) := by decide +kernel
theorem d_L_law_287 : decode m_L_law.2.1 287 = .ok (.iconst 0, 1) := by decide +kernel
theorem d_L_law_288 : decode m_L_law.2.1 288 = .ok (.ireturn, 1) := by decide +kernel
theorem d_L_law_289 : decode m_L_law.2.1 289 = .ok (.aload_n 1, 1) := by decide +kernel
theorem d_L_law_290 : decode m_L_law.2.1 290 = .ok (.aload_n 0, 1) := by decide +kernel
theorem d_L_law_291 : decode m_L_law.2.1 291 = .ok (.iload_n 3, 1) := by decide +kernel
theorem d_L_law_292 : decode m_L_law.2.1 292 = .ok (.iconst 1, 1) := by decide +kernel
theorem d_L_law_293 : decode m_L_law.2.1 293 = .ok (.iadd, 1) := by decide +kernel
theorem d_L_law_294 : decode m_L_law.2.1 294 = .ok (.iaload, 1) := by decide +kernel
theorem d_L_law_295 : decode m_L_law.2.1 295 = .ok (.invokevirtual 52, 3) := by decide +kernel
theorem d_L_law_298 : decode m_L_law.2.1 298 = .ok (.aload_n 2, 1) := by decide +kernel
theorem d_L_law_299 : decode m_L_law.2.1 299 = .ok (.aload_n 0, 1) := by decide +kernel
theorem d_L_law_300 : decode m_L_law.2.1 300 = .ok (.iload_n 3, 1) := by decide +kernel
theorem d_L_law_301 : decode m_L_law.2.1 301 = .ok (.iconst 1, 1) := by decide +kernel
theorem d_L_law_302 : decode m_L_law.2.1 302 = .ok (.iadd, 1) := by decide +kernel
theorem d_L_law_303 : decode m_L_law.2.1 303 = .ok (.iaload, 1) := by decide +kernel
theorem d_L_law_304 : decode m_L_law.2.1 304 = .ok (.invokevirtual 55, 3) := by decide +kernel
theorem d_L_law_307 : decode m_L_law.2.1 307 = .ok (.if_icmp .eq 28, 3) := by decide +kernel
theorem d_L_law_310 : decode m_L_law.2.1 310 = .ok (.iconst 0, 1) := by decide +kernel
theorem d_L_law_311 : decode m_L_law.2.1 311 = .ok (.ireturn, 1) := by decide +kernel
theorem d_L_law_312 : decode m_L_law.2.1 312 = .ok (.aload_n 1, 1) := by decide +kernel
theorem d_L_law_313 : decode m_L_law.2.1 313 = .ok (.aload_n 0, 1) := by decide +kernel
theorem d_L_law_314 : decode m_L_law.2.1 314 = .ok (.iload_n 3, 1) := by decide +kernel
theorem d_L_law_315 : decode m_L_law.2.1 315 = .ok (.iconst 1, 1) := by decide +kernel
theorem d_L_law_316 : decode m_L_law.2.1 316 = .ok (.iadd, 1) := by decide +kernel
theorem d_L_law_317 : decode m_L_law.2.1 317 = .ok (.iaload, 1) := by decide +kernel
theorem d_L_law_318 : decode m_L_law.2.1 318 = .ok (.invokevirtual 56, 3) := by decide +kernel
theorem d_L_law_321 : decode m_L_law.2.1 321 = .ok (.aload_n 2, 1) := by decide +kernel
theorem d_L_law_322 : decode m_L_law.2.1 322 = .ok (.aload_n 0, 1) := by decide +kernel
theorem d_L_law_323 : decode m_L_law.2.1 323 = .ok (.iload_n 3, 1) := by decide +kernel
theorem d_L_law_324 : decode m_L_law.2.1 324 = .ok (.iconst 1, 1) := by decide +kernel
theorem d_L_law_325 : decode m_L_law.2.1 325 = .ok (.iadd, 1) := by decide +kernel
theorem d_L_law_326 : decode m_L_law.2.1 326 = .ok (.iaload, 1) := by decide +kernel
theorem d_L_law_327 : decode m_L_law.2.1 327 = .ok (.invokevirtual 59, 3) := by decide +kernel
theorem d_L_law_330 : decode m_L_law.2.1 330 = .ok (.if_icmp .eq 5, 3) := by decide +kernel
theorem d_L_law_333 : decode m_L_law.2.1 333 = .ok (.iconst 0, 1) := by decide +kernel
theorem d_L_law_334 : decode m_L_law.2.1 334 = .ok (.ireturn, 1) := by decide +kernel
theorem d_L_law_335 : decode m_L_law.2.1 335 = .ok (.iinc 3 3, 3) := by decide +kernel
theorem d_L_law_338 : decode m_L_law.2.1 338 = .ok (.goto (-320), 3) := by decide +kernel
theorem d_L_law_341 : decode m_L_law.2.1 341 = .ok (.iconst 1, 1) := by decide +kernel
theorem d_L_law_342 : decode m_L_law.2.1 342 = .ok (.ireturn, 1) := by decide +kernel
