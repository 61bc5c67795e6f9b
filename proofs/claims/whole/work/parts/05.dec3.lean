theorem d_M_action_0 : decode m_M_action.2.1 0 = .ok (.iload_n 1, 1) := by decide +kernel
theorem d_M_action_1 : decode m_M_action.2.1 1 = .ok (.ifCond .lt 8, 3) := by decide +kernel
theorem d_M_action_4 : decode m_M_action.2.1 4 = .ok (.iload_n 1, 1) := by decide +kernel
theorem d_M_action_5 : decode m_M_action.2.1 5 = .ok (.iconst 3, 1) := by decide +kernel
theorem d_M_action_6 : decode m_M_action.2.1 6 = .ok (.if_icmp .le 9, 3) := by decide +kernel
theorem d_M_action_9 : decode m_M_action.2.1 9 = .ok (.sipush (-1000), 3) := by decide +kernel
theorem d_M_action_12 : decode m_M_action.2.1 12 = .ok (.goto 25, 3) := by decide +kernel
theorem d_M_action_15 : decode m_M_action.2.1 15 = .ok (.aload_n 0, 1) := by decide +kernel
theorem d_M_action_16 : decode m_M_action.2.1 16 = .ok (.getfield 39, 3) := by decide +kernel
theorem d_M_action_19 : decode m_M_action.2.1 19 = .ok (.iload_n 1, 1) := by decide +kernel
theorem d_M_action_20 : decode m_M_action.2.1 20 = .ok (.iaload, 1) := by decide +kernel
theorem d_M_action_21 : decode m_M_action.2.1 21 = .ok (.ifCond .ne 7, 3) := by decide +kernel
theorem d_M_action_24 : decode m_M_action.2.1 24 = .ok (.iconst 0, 1) := by decide +kernel
theorem d_M_action_25 : decode m_M_action.2.1 25 = .ok (.goto 12, 3) := by decide +kernel
theorem d_M_action_28 : decode m_M_action.2.1 28 = .ok (.aload_n 0, 1) := by decide +kernel
theorem d_M_action_29 : decode m_M_action.2.1 29 = .ok (.getfield 36, 3) := by decide +kernel
theorem d_M_action_32 : decode m_M_action.2.1 32 = .ok (.bipush 12, 2) := by decide +kernel
theorem d_M_action_34 : decode m_M_action.2.1 34 = .ok (.iload_n 1, 1) := by decide +kernel
theorem d_M_action_35 : decode m_M_action.2.1 35 = .ok (.imul, 1) := by decide +kernel
theorem d_M_action_36 : decode m_M_action.2.1 36 = .ok (.iaload, 1) := by decide +kernel
theorem d_M_action_37 : decode m_M_action.2.1 37 = .ok (.ireturn, 1) := by decide +kernel
theorem d_M_add_0 : decode m_M_add.2.1 0 = .ok (.aload_n 0, 1) := by decide +kernel
theorem d_M_add_1 : decode m_M_add.2.1 1 = .ok (.getfield 75, 3) := by decide +kernel
theorem d_M_add_4 : decode m_M_add.2.1 4 = .ok (.bipush 10, 2) := by decide +kernel
theorem d_M_add_6 : decode m_M_add.2.1 6 = .ok (.if_icmp .ne 17, 3) := by decide +kernel
theorem d_M_add_9 : decode m_M_add.2.1 9 = .ok (.aload_n 0, 1) := by decide +kernel
theorem d_M_add_10 : decode m_M_add.2.1 10 = .ok (.invokevirtual 78, 3) := by decide +kernel
theorem d_M_add_13 : decode m_M_add.2.1 13 = .ok (.aload_n 0, 1) := by decide +kernel
theorem d_M_add_14 : decode m_M_add.2.1 14 = .ok (.dup, 1) := by decide +kernel
theorem d_M_add_15 : decode m_M_add.2.1 15 = .ok (.getfield 81, 3) := by decide +kernel
theorem d_M_add_18 : decode m_M_add.2.1 18 = .ok (.iconst 1, 1) := by decide +kernel
theorem d_M_add_19 : decode m_M_add.2.1 19 = .ok (.iadd, 1) := by decide +kernel
theorem d_M_add_20 : decode m_M_add.2.1 20 = .ok (.putfield 81, 3) := by decide +kernel
theorem d_M_add_23 : decode m_M_add.2.1 23 = .ok (.aload_n 0, 1) := by decide +kernel
theorem d_M_add_24 : decode m_M_add.2.1 24 = .ok (.getfield 72, 3) := by decide +kernel
theorem d_M_add_27 : decode m_M_add.2.1 27 = .ok (.iconst 4, 1) := by decide +kernel
theorem d_M_add_28 : decode m_M_add.2.1 28 = .ok (.aload_n 0, 1) := by decide +kernel
theorem d_M_add_29 : decode m_M_add.2.1 29 = .ok (.getfield 75, 3) := by decide +kernel
theorem d_M_add_32 : decode m_M_add.2.1 32 = .ok (.imul, 1) := by decide +kernel
theorem d_M_add_33 : decode m_M_add.2.1 33 = .ok (.iload_n 1, 1) := by decide +kernel
theorem d_M_add_34 : decode m_M_add.2.1 34 = .ok (.iastore, 1) := by decide +kernel
theorem d_M_add_35 : decode m_M_add.2.1 35 = .ok (.aload_n 0, 1) := by decide +kernel
theorem d_M_add_36 : decode m_M_add.2.1 36 = .ok (.getfield 72, 3) := by decide +kernel
theorem d_M_add_39 : decode m_M_add.2.1 39 = .ok (.iconst 4, 1) := by decide +kernel
theorem d_M_add_40 : decode m_M_add.2.1 40 = .ok (.aload_n 0, 1) := by decide +kernel
theorem d_M_add_41 : decode m_M_add.2.1 41 = .ok (.getfield 75, 3) := by decide +kernel
theorem d_M_add_44 : decode m_M_add.2.1 44 = .ok (.imul, 1) := by decide +kernel
theorem d_M_add_45 : decode m_M_add.2.1 45 = .ok (.iconst 1, 1) := by decide +kernel
theorem d_M_add_46 : decode m_M_add.2.1 46 = .ok (.iadd, 1) := by decide +kernel
theorem d_M_add_47 : decode m_M_add.2.1 47 = .ok (.aload_n 0, 1) := by decide +kernel
theorem d_M_add_48 : decode m_M_add.2.1 48 = .ok (.getfield 84, 3) := by decide +kernel
theorem d_M_add_51 : decode m_M_add.2.1 51 = .ok (.iastore, 1) := by decide +kernel
theorem d_M_add_52 : decode m_M_add.2.1 52 = .ok (.aload_n 0, 1) := by decide +kernel
theorem d_M_add_53 : decode m_M_add.2.1 53 = .ok (.getfield 72, 3) := by decide +kernel
theorem d_M_add_56 : decode m_M_add.2.1 56 = .ok (.iconst 4, 1) := by decide +kernel
theorem d_M_add_57 : decode m_M_add.2.1 57 = .ok (.aload_n 0, 1) := by decide +kernel
theorem d_M_add_58 : decode m_M_add.2.1 58 = .ok (.getfield 75, 3) := by decide +kernel
theorem d_M_add_61 : decode m_M_add.2.1 61 = .ok (.imul, 1) := by decide +kernel
theorem d_M_add_62 : decode m_M_add.2.1 62 = .ok (.iconst 2, 1) := by decide +kernel
theorem d_M_add_63 : decode m_M_add.2.1 63 = .ok (.iadd, 1) := by decide +kernel
theorem d_M_add_64 : decode m_M_add.2.1 64 = .ok (.iload_n 2, 1) := by decide +kernel
theorem d_M_add_65 : decode m_M_add.2.1 65 = .ok (.iastore, 1) := by decide +kernel
theorem d_M_add_66 : decode m_M_add.2.1 66 = .ok (.aload_n 0, 1) := by decide +kernel
theorem d_M_add_67 : decode m_M_add.2.1 67 = .ok (.getfield 72, 3) := by decide +kernel
theorem d_M_add_70 : decode m_M_add.2.1 70 = .ok (.iconst 4, 1) := by decide +kernel
theorem d_M_add_71 : decode m_M_add.2.1 71 = .ok (.aload_n 0, 1) := by decide +kernel
theorem d_M_add_72 : decode m_M_add.2.1 72 = .ok (.getfield 75, 3) := by decide +kernel
theorem d_M_add_75 : decode m_M_add.2.1 75 = .ok (.imul, 1) := by decide +kernel
theorem d_M_add_76 : decode m_M_add.2.1 76 = .ok (.iconst 3, 1) := by decide +kernel
theorem d_M_add_77 : decode m_M_add.2.1 77 = .ok (.iadd, 1) := by decide +kernel
theorem d_M_add_78 : decode m_M_add.2.1 78 = .ok (.iload_n 3, 1) := by decide +kernel
theorem d_M_add_79 : decode m_M_add.2.1 79 = .ok (.iastore, 1) := by decide +kernel
theorem d_M_add_80 : decode m_M_add.2.1 80 = .ok (.aload_n 0, 1) := by decide +kernel
theorem d_M_add_81 : decode m_M_add.2.1 81 = .ok (.dup, 1) := by decide +kernel
theorem d_M_add_82 : decode m_M_add.2.1 82 = .ok (.getfield 75, 3) := by decide +kernel
theorem d_M_add_85 : decode m_M_add.2.1 85 = .ok (.iconst 1, 1) := by decide +kernel
theorem d_M_add_86 : decode m_M_add.2.1 86 = .ok (.iadd, 1) := by decide +kernel
theorem d_M_add_87 : decode m_M_add.2.1 87 = .ok (.putfield 75, 3) := by decide +kernel
theorem d_M_add_90 : decode m_M_add.2.1 90 = .ok (.return_, 1) := by decide +kernel
theorem d_M_badShift_0 : decode m_M_badShift.2.1 0 = .ok (.iconst 0, 1) := by decide +kernel
theorem d_M_badShift_1 : decode m_M_badShift.2.1 1 = .ok (.istore_n 2, 1) := by decide +kernel
theorem d_M_badShift_2 : decode m_M_badShift.2.1 2 = .ok (.iload_n 2, 1) := by decide +kernel
theorem d_M_badShift_3 : decode m_M_badShift.2.1 3 = .ok (.bipush 6, 2) := by decide +kernel
theorem d_M_badShift_5 : decode m_M_badShift.2.1 5 = .ok (.if_icmp .ge 57, 3) := by decide +kernel
theorem d_M_badShift_8 : decode m_M_badShift.2.1 8 = .ok (.aload_n 0, 1) := by decide +kernel
theorem d_M_badShift_9 : decode m_M_badShift.2.1 9 = .ok (.getfield 29, 3) := by decide +kernel
theorem d_M_badShift_12 : decode m_M_badShift.2.1 12 = .ok (.iload_n 2, 1) := by decide +kernel
theorem d_M_badShift_13 : decode m_M_badShift.2.1 13 = .ok (.iaload, 1) := by decide +kernel
theorem d_M_badShift_14 : decode m_M_badShift.2.1 14 = .ok (.ifCond .eq 42, 3) := by decide +kernel
theorem d_M_badShift_17 : decode m_M_badShift.2.1 17 = .ok (.aload_n 0, 1) := by decide +kernel
theorem d_M_badShift_18 : decode m_M_badShift.2.1 18 = .ok (.getfield 32, 3) := by decide +kernel
theorem d_M_badShift_21 : decode m_M_badShift.2.1 21 = .ok (.iload_n 2, 1) := by decide +kernel
theorem d_M_badShift_22 : decode m_M_badShift.2.1 22 = .ok (.baload, 1) := by decide +kernel
theorem d_M_badShift_23 : decode m_M_badShift.2.1 23 = .ok (.ifCond .ne 33, 3) := by decide +kernel
theorem d_M_badShift_26 : decode m_M_badShift.2.1 26 = .ok (.aload_n 0, 1) := by decide +kernel
theorem d_M_badShift_27 : decode m_M_badShift.2.1 27 = .ok (.getfield 26, 3) := by decide +kernel
theorem d_M_badShift_30 : decode m_M_badShift.2.1 30 = .ok (.iload_n 2, 1) := by decide +kernel
theorem d_M_badShift_31 : decode m_M_badShift.2.1 31 = .ok (.iaload, 1) := by decide +kernel
theorem d_M_badShift_32 : decode m_M_badShift.2.1 32 = .ok (.iload_n 1, 1) := by decide +kernel
theorem d_M_badShift_33 : decode m_M_badShift.2.1 33 = .ok (.iadd, 1) := by decide +kernel
theorem d_M_badShift_34 : decode m_M_badShift.2.1 34 = .ok (.aload_n 0, 1) := by decide +kernel
theorem d_M_badShift_35 : decode m_M_badShift.2.1 35 = .ok (.getfield 84, 3) := by decide +kernel
theorem d_M_badShift_38 : decode m_M_badShift.2.1 38 = .ok (.if_icmp .le 16, 3) := by decide +kernel
theorem d_M_badShift_41 : decode m_M_badShift.2.1 41 = .ok (.aload_n 0, 1) := by decide +kernel
theorem d_M_badShift_42 : decode m_M_badShift.2.1 42 = .ok (.getfield 26, 3) := by decide +kernel
theorem d_M_badShift_45 : decode m_M_badShift.2.1 45 = .ok (.iload_n 2, 1) := by decide +kernel
theorem d_M_badShift_46 : decode m_M_badShift.2.1 46 = .ok (.iaload, 1) := by decide +kernel
theorem d_M_badShift_47 : decode m_M_badShift.2.1 47 = .ok (.iload_n 1, 1) := by decide +kernel
theorem d_M_badShift_48 : decode m_M_badShift.2.1 48 = .ok (.iadd, 1) := by decide +kernel
theorem d_M_badShift_49 : decode m_M_badShift.2.1 49 = .ok (.ldc 101, 2) := by decide +kernel
theorem d_M_badShift_51 : decode m_M_badShift.2.1 51 = .ok (.if_icmp .le 5, 3) := by decide +kernel
theorem d_M_badShift_54 : decode m_M_badShift.2.1 54 = .ok (.iconst 1, 1) := by decide +kernel
theorem d_M_badShift_55 : decode m_M_badShift.2.1 55 = .ok (.ireturn, 1) := by decide +kernel
theorem d_M_badShift_56 : decode m_M_badShift.2.1 56 = .ok (.iinc 2 1, 3) := by decide +kernel
theorem d_M_badShift_59 : decode m_M_badShift.2.1 59 = .ok (.goto (-57), 3) := by decide +kernel
theorem d_M_badShift_62 : decode m_M_badShift.2.1 62 = .ok (.iconst 0, 1) := by decide +kernel
theorem d_M_badShift_63 : decode m_M_badShift.2.1 63 = .ok (.ireturn, 1) := by decide +kernel
theorem d_M_before_0 : decode m_M_before.2.1 0 = .ok (.aload_n 0, 1) := by decide +kernel
theorem d_M_before_1 : decode m_M_before.2.1 1 = .ok (.getfield 26, 3) := by decide +kernel
theorem d_M_before_4 : decode m_M_before.2.1 4 = .ok (.iload_n 1, 1) := by decide +kernel
theorem d_M_before_5 : decode m_M_before.2.1 5 = .ok (.iaload, 1) := by decide +kernel
theorem d_M_before_6 : decode m_M_before.2.1 6 = .ok (.aload_n 0, 1) := by decide +kernel
theorem d_M_before_7 : decode m_M_before.2.1 7 = .ok (.getfield 26, 3) := by decide +kernel
theorem d_M_before_10 : decode m_M_before.2.1 10 = .ok (.iload_n 2, 1) := by decide +kernel
theorem d_M_before_11 : decode m_M_before.2.1 11 = .ok (.iaload, 1) := by decide +kernel
theorem d_M_before_12 : decode m_M_before.2.1 12 = .ok (.if_icmp .lt 33, 3) := by decide +kernel
theorem d_M_before_15 : decode m_M_before.2.1 15 = .ok (.aload_n 0, 1) := by decide +kernel
theorem d_M_before_16 : decode m_M_before.2.1 16 = .ok (.getfield 26, 3) := by decide +kernel
theorem d_M_before_19 : decode m_M_before.2.1 19 = .ok (.iload_n 1, 1) := by decide +kernel
theorem d_M_before_20 : decode m_M_before.2.1 20 = .ok (.iaload, 1) := by decide +kernel
theorem d_M_before_21 : decode m_M_before.2.1 21 = .ok (.aload_n 0, 1) := by decide +kernel
theorem d_M_before_22 : decode m_M_before.2.1 22 = .ok (.getfield 26, 3) := by decide +kernel
theorem d_M_before_25 : decode m_M_before.2.1 25 = .ok (.iload_n 2, 1) := by decide +kernel
theorem d_M_before_26 : decode m_M_before.2.1 26 = .ok (.iaload, 1) := by decide +kernel
theorem d_M_before_27 : decode m_M_before.2.1 27 = .ok (.if_icmp .ne 22, 3) := by decide +kernel
theorem d_M_before_30 : decode m_M_before.2.1 30 = .ok (.aload_n 0, 1) := by decide +kernel
theorem d_M_before_31 : decode m_M_before.2.1 31 = .ok (.getfield 29, 3) := by decide +kernel
theorem d_M_before_34 : decode m_M_before.2.1 34 = .ok (.iload_n 1, 1) := by decide +kernel
theorem d_M_before_35 : decode m_M_before.2.1 35 = .ok (.iaload, 1) := by decide +kernel
theorem d_M_before_36 : decode m_M_before.2.1 36 = .ok (.aload_n 0, 1) := by decide +kernel
theorem d_M_before_37 : decode m_M_before.2.1 37 = .ok (.getfield 29, 3) := by decide +kernel
theorem d_M_before_40 : decode m_M_before.2.1 40 = .ok (.iload_n 2, 1) := by decide +kernel
theorem d_M_before_41 : decode m_M_before.2.1 41 = .ok (.iaload, 1) := by decide +kernel
theorem d_M_before_42 : decode m_M_before.2.1 42 = .ok (.if_icmp .ge 7, 3) := by decide +kernel
theorem d_M_before_45 : decode m_M_before.2.1 45 = .ok (.iconst 1, 1) := by decide +kernel
theorem d_M_before_46 : decode m_M_before.2.1 46 = .ok (.goto 4, 3) := by decide +kernel
theorem d_M_before_49 : decode m_M_before.2.1 49 = .ok (.iconst 0, 1) := by decide +kernel
theorem d_M_before_50 : decode m_M_before.2.1 50 = .ok (.ireturn, 1) := by decide +kernel
theorem d_M_broken_0 : decode m_M_broken.2.1 0 = .ok (.iconst 0, 1) := by decide +kernel
theorem d_M_broken_1 : decode m_M_broken.2.1 1 = .ok (.istore_n 1, 1) := by decide +kernel
theorem d_M_broken_2 : decode m_M_broken.2.1 2 = .ok (.iconst 0, 1) := by decide +kernel
theorem d_M_broken_3 : decode m_M_broken.2.1 3 = .ok (.istore_n 2, 1) := by decide +kernel
theorem d_M_broken_4 : decode m_M_broken.2.1 4 = .ok (.iload_n 2, 1) := by decide +kernel
theorem d_M_broken_5 : decode m_M_broken.2.1 5 = .ok (.iconst 4, 1) := by decide +kernel
theorem d_M_broken_6 : decode m_M_broken.2.1 6 = .ok (.if_icmp .ge 111, 3) := by decide +kernel
theorem d_M_broken_9 : decode m_M_broken.2.1 9 = .ok (.aload_n 0, 1) := by decide +kernel
theorem d_M_broken_10 : decode m_M_broken.2.1 10 = .ok (.getfield 17, 3) := by decide +kernel
theorem d_M_broken_13 : decode m_M_broken.2.1 13 = .ok (.iload_n 1, 1) := by decide +kernel
theorem d_M_broken_14 : decode m_M_broken.2.1 14 = .ok (.iaload, 1) := by decide +kernel
theorem d_M_broken_15 : decode m_M_broken.2.1 15 = .ok (.istore_n 3, 1) := by decide +kernel
theorem d_M_broken_16 : decode m_M_broken.2.1 16 = .ok (.iload_n 3, 1) := by decide +kernel
theorem d_M_broken_17 : decode m_M_broken.2.1 17 = .ok (.iconst 1, 1) := by decide +kernel
theorem d_M_broken_18 : decode m_M_broken.2.1 18 = .ok (.if_icmp .lt 9, 3) := by decide +kernel
theorem d_M_broken_21 : decode m_M_broken.2.1 21 = .ok (.iload_n 3, 1) := by decide +kernel
theorem d_M_broken_22 : decode m_M_broken.2.1 22 = .ok (.bipush 11, 2) := by decide +kernel
theorem d_M_broken_24 : decode m_M_broken.2.1 24 = .ok (.if_icmp .le 5, 3) := by decide +kernel
theorem d_M_broken_27 : decode m_M_broken.2.1 27 = .ok (.iconst 1, 1) := by decide +kernel
theorem d_M_broken_28 : decode m_M_broken.2.1 28 = .ok (.ireturn, 1) := by decide +kernel
theorem d_M_broken_29 : decode m_M_broken.2.1 29 = .ok (.aload_n 0, 1) := by decide +kernel
theorem d_M_broken_30 : decode m_M_broken.2.1 30 = .ok (.getfield 91, 3) := by decide +kernel
theorem d_M_broken_33 : decode m_M_broken.2.1 33 = .ok (.iload_n 1, 1) := by decide +kernel
theorem d_M_broken_34 : decode m_M_broken.2.1 34 = .ok (.isub, 1) := by decide +kernel
theorem d_M_broken_35 : decode m_M_broken.2.1 35 = .ok (.iconst 1, 1) := by decide +kernel
theorem d_M_broken_36 : decode m_M_broken.2.1 36 = .ok (.isub, 1) := by decide +kernel
theorem d_M_broken_37 : decode m_M_broken.2.1 37 = .ok (.istore 4, 2) := by decide +kernel
theorem d_M_broken_39 : decode m_M_broken.2.1 39 = .ok (.iload_n 3, 1) := by decide +kernel
theorem d_M_broken_40 : decode m_M_broken.2.1 40 = .ok (.iconst 3, 1) := by decide +kernel
theorem d_M_broken_41 : decode m_M_broken.2.1 41 = .ok (.if_icmp .eq 9, 3) := by decide +kernel
theorem d_M_broken_44 : decode m_M_broken.2.1 44 = .ok (.iload_n 3, 1) := by decide +kernel
theorem d_M_broken_45 : decode m_M_broken.2.1 45 = .ok (.bipush 8, 2) := by decide +kernel
theorem d_M_broken_47 : decode m_M_broken.2.1 47 = .ok (.if_icmp .ne 7, 3) := by decide +kernel
theorem d_M_broken_50 : decode m_M_broken.2.1 50 = .ok (.iconst 1, 1) := by decide +kernel
theorem d_M_broken_51 : decode m_M_broken.2.1 51 = .ok (.goto 4, 3) := by decide +kernel
theorem d_M_broken_54 : decode m_M_broken.2.1 54 = .ok (.iconst 0, 1) := by decide +kernel
theorem d_M_broken_55 : decode m_M_broken.2.1 55 = .ok (.istore 5, 2) := by decide +kernel
theorem d_M_broken_57 : decode m_M_broken.2.1 57 = .ok (.iload 5, 2) := by decide +kernel
theorem d_M_broken_59 : decode m_M_broken.2.1 59 = .ok (.ifCond .eq 15, 3) := by decide +kernel
theorem d_M_broken_62 : decode m_M_broken.2.1 62 = .ok (.iload 4, 2) := by decide +kernel
theorem d_M_broken_64 : decode m_M_broken.2.1 64 = .ok (.iload_n 3, 1) := by decide +kernel
theorem d_M_broken_65 : decode m_M_broken.2.1 65 = .ok (.invokestatic 94, 3) := by decide +kernel
theorem d_M_broken_68 : decode m_M_broken.2.1 68 = .ok (.if_icmp .gt 17, 3) := by decide +kernel
theorem d_M_broken_71 : decode m_M_broken.2.1 71 = .ok (.goto 12, 3) := by decide +kernel
theorem d_M_broken_74 : decode m_M_broken.2.1 74 = .ok (.iload 4, 2) := by decide +kernel
theorem d_M_broken_76 : decode m_M_broken.2.1 76 = .ok (.iload_n 3, 1) := by decide +kernel
theorem d_M_broken_77 : decode m_M_broken.2.1 77 = .ok (.invokestatic 94, 3) := by decide +kernel
theorem d_M_broken_80 : decode m_M_broken.2.1 80 = .ok (.if_icmp .eq 5, 3) := by decide +kernel
theorem d_M_broken_83 : decode m_M_broken.2.1 83 = .ok (.iconst 2, 1) := by decide +kernel
theorem d_M_broken_84 : decode m_M_broken.2.1 84 = .ok (.ireturn, 1) := by decide +kernel
theorem d_M_broken_85 : decode m_M_broken.2.1 85 = .ok (.aload_n 0, 1) := by decide +kernel
theorem d_M_broken_86 : decode m_M_broken.2.1 86 = .ok (.iload_n 1, 1) := by decide +kernel
theorem d_M_broken_87 : decode m_M_broken.2.1 87 = .ok (.invokevirtual 97, 3) := by decide +kernel
theorem d_M_broken_90 : decode m_M_broken.2.1 90 = .ok (.ifCond .eq 5, 3) := by decide +kernel
theorem d_M_broken_93 : decode m_M_broken.2.1 93 = .ok (.iconst 3, 1) := by decide +kernel
theorem d_M_broken_94 : decode m_M_broken.2.1 94 = .ok (.ireturn, 1) := by decide +kernel
theorem d_M_broken_95 : decode m_M_broken.2.1 95 = .ok (.iload 5, 2) := by decide +kernel
theorem d_M_broken_97 : decode m_M_broken.2.1 97 = .ok (.ifCond .ne 5, 3) := by decide +kernel
theorem d_M_broken_100 : decode m_M_broken.2.1 100 = .ok (.iconst 0, 1) := by decide +kernel
theorem d_M_broken_101 : decode m_M_broken.2.1 101 = .ok (.ireturn, 1) := by decide +kernel
theorem d_M_broken_102 : decode m_M_broken.2.1 102 = .ok (.iload_n 1, 1) := by decide +kernel
theorem d_M_broken_103 : decode m_M_broken.2.1 103 = .ok (.iload_n 3, 1) := by decide +kernel
theorem d_M_broken_104 : decode m_M_broken.2.1 104 = .ok (.invokestatic 94, 3) := by decide +kernel
theorem d_M_broken_107 : decode m_M_broken.2.1 107 = .ok (.iconst 1, 1) := by decide +kernel
theorem d_M_broken_108 : decode m_M_broken.2.1 108 = .ok (.iadd, 1) := by decide +kernel
theorem d_M_broken_109 : decode m_M_broken.2.1 109 = .ok (.iadd, 1) := by decide +kernel
theorem d_M_broken_110 : decode m_M_broken.2.1 110 = .ok (.istore_n 1, 1) := by decide +kernel
theorem d_M_broken_111 : decode m_M_broken.2.1 111 = .ok (.iinc 2 1, 3) := by decide +kernel
theorem d_M_broken_114 : decode m_M_broken.2.1 114 = .ok (.goto (-110), 3) := by decide +kernel
theorem d_M_broken_117 : decode m_M_broken.2.1 117 = .ok (.iconst 0, 1) := by decide +kernel
theorem d_M_broken_118 : decode m_M_broken.2.1 118 = .ok (.ireturn, 1) := by decide +kernel
theorem d_M_carry_0 : decode m_M_carry.2.1 0 = .ok (.aload_n 0, 1) := by decide +kernel
theorem d_M_carry_1 : decode m_M_carry.2.1 1 = .ok (.invokevirtual 136, 3) := by decide +kernel
theorem d_M_carry_4 : decode m_M_carry.2.1 4 = .ok (.istore_n 2, 1) := by decide +kernel
theorem d_M_carry_5 : decode m_M_carry.2.1 5 = .ok (.iload_n 2, 1) := by decide +kernel
theorem d_M_carry_6 : decode m_M_carry.2.1 6 = .ok (.ifCond .eq 12, 3) := by decide +kernel
theorem d_M_carry_9 : decode m_M_carry.2.1 9 = .ok (.aload_n 0, 1) := by decide +kernel
theorem d_M_carry_10 : decode m_M_carry.2.1 10 = .ok (.iconst 2, 1) := by decide +kernel
theorem d_M_carry_11 : decode m_M_carry.2.1 11 = .ok (.iload_n 1, 1) := by decide +kernel
theorem d_M_carry_12 : decode m_M_carry.2.1 12 = .ok (.iload_n 2, 1) := by decide +kernel
theorem d_M_carry_13 : decode m_M_carry.2.1 13 = .ok (.invokevirtual 119, 3) := by decide +kernel
theorem d_M_carry_16 : decode m_M_carry.2.1 16 = .ok (.iconst 0, 1) := by decide +kernel
theorem d_M_carry_17 : decode m_M_carry.2.1 17 = .ok (.ireturn, 1) := by decide +kernel
theorem d_M_carry_18 : decode m_M_carry.2.1 18 = .ok (.aload_n 0, 1) := by decide +kernel
theorem d_M_carry_19 : decode m_M_carry.2.1 19 = .ok (.getfield 17, 3) := by decide +kernel
theorem d_M_carry_22 : decode m_M_carry.2.1 22 = .ok (.iconst 0, 1) := by decide +kernel
theorem d_M_carry_23 : decode m_M_carry.2.1 23 = .ok (.iaload, 1) := by decide +kernel
theorem d_M_carry_24 : decode m_M_carry.2.1 24 = .ok (.istore_n 3, 1) := by decide +kernel
theorem d_M_carry_25 : decode m_M_carry.2.1 25 = .ok (.aload_n 0, 1) := by decide +kernel
theorem d_M_carry_26 : decode m_M_carry.2.1 26 = .ok (.iload_n 1, 1) := by decide +kernel
theorem d_M_carry_27 : decode m_M_carry.2.1 27 = .ok (.invokevirtual 139, 3) := by decide +kernel
theorem d_M_carry_30 : decode m_M_carry.2.1 30 = .ok (.aload_n 0, 1) := by decide +kernel
theorem d_M_carry_31 : decode m_M_carry.2.1 31 = .ok (.iconst 1, 1) := by decide +kernel
theorem d_M_carry_32 : decode m_M_carry.2.1 32 = .ok (.iload_n 1, 1) := by decide +kernel
theorem d_M_carry_33 : decode m_M_carry.2.1 33 = .ok (.iload_n 3, 1) := by decide +kernel
theorem d_M_carry_34 : decode m_M_carry.2.1 34 = .ok (.invokevirtual 119, 3) := by decide +kernel
theorem d_M_carry_37 : decode m_M_carry.2.1 37 = .ok (.aload_n 0, 1) := by decide +kernel
theorem d_M_carry_38 : decode m_M_carry.2.1 38 = .ok (.dup, 1) := by decide +kernel
theorem d_M_carry_39 : decode m_M_carry.2.1 39 = .ok (.getfield 142, 3) := by decide +kernel
theorem d_M_carry_42 : decode m_M_carry.2.1 42 = .ok (.iconst 1, 1) := by decide +kernel
theorem d_M_carry_43 : decode m_M_carry.2.1 43 = .ok (.iadd, 1) := by decide +kernel
theorem d_M_carry_44 : decode m_M_carry.2.1 44 = .ok (.putfield 142, 3) := by decide +kernel
theorem d_M_carry_47 : decode m_M_carry.2.1 47 = .ok (.iconst 1, 1) := by decide +kernel
theorem d_M_carry_48 : decode m_M_carry.2.1 48 = .ok (.ireturn, 1) := by decide +kernel
theorem d_M_checked_0 : decode m_M_checked.2.1 0 = .ok (.aload_n 0, 1) := by decide +kernel
theorem d_M_checked_1 : decode m_M_checked.2.1 1 = .ok (.getfield 7, 3) := by decide +kernel
theorem d_M_checked_4 : decode m_M_checked.2.1 4 = .ok (.iconst 0, 1) := by decide +kernel
theorem d_M_checked_5 : decode m_M_checked.2.1 5 = .ok (.iaload, 1) := by decide +kernel
theorem d_M_checked_6 : decode m_M_checked.2.1 6 = .ok (.istore_n 1, 1) := by decide +kernel
theorem d_M_checked_7 : decode m_M_checked.2.1 7 = .ok (.sipush 255, 3) := by decide +kernel
theorem d_M_checked_10 : decode m_M_checked.2.1 10 = .ok (.istore_n 2, 1) := by decide +kernel
theorem d_M_checked_11 : decode m_M_checked.2.1 11 = .ok (.iconst 1, 1) := by decide +kernel
theorem d_M_checked_12 : decode m_M_checked.2.1 12 = .ok (.istore_n 3, 1) := by decide +kernel
theorem d_M_checked_13 : decode m_M_checked.2.1 13 = .ok (.iload_n 3, 1) := by decide +kernel
theorem d_M_checked_14 : decode m_M_checked.2.1 14 = .ok (.iload_n 1, 1) := by decide +kernel
theorem d_M_checked_15 : decode m_M_checked.2.1 15 = .ok (.if_icmp .gt 30, 3) := by decide +kernel
theorem d_M_checked_18 : decode m_M_checked.2.1 18 = .ok (.iload_n 2, 1) := by decide +kernel
theorem d_M_checked_19 : decode m_M_checked.2.1 19 = .ok (.iconst 2, 1) := by decide +kernel
theorem d_M_checked_20 : decode m_M_checked.2.1 20 = .ok (.imul, 1) := by decide +kernel
theorem d_M_checked_21 : decode m_M_checked.2.1 21 = .ok (.sipush 256, 3) := by decide +kernel
theorem d_M_checked_24 : decode m_M_checked.2.1 24 = .ok (.irem, 1) := by decide +kernel
theorem d_M_checked_25 : decode m_M_checked.2.1 25 = .ok (.iload_n 2, 1) := by decide +kernel
theorem d_M_checked_26 : decode m_M_checked.2.1 26 = .ok (.sipush 128, 3) := by decide +kernel
theorem d_M_checked_29 : decode m_M_checked.2.1 29 = .ok (.idiv, 1) := by decide +kernel
theorem d_M_checked_30 : decode m_M_checked.2.1 30 = .ok (.iadd, 1) := by decide +kernel
theorem d_M_checked_31 : decode m_M_checked.2.1 31 = .ok (.aload_n 0, 1) := by decide +kernel
theorem d_M_checked_32 : decode m_M_checked.2.1 32 = .ok (.getfield 7, 3) := by decide +kernel
theorem d_M_checked_35 : decode m_M_checked.2.1 35 = .ok (.iload_n 3, 1) := by decide +kernel
theorem d_M_checked_36 : decode m_M_checked.2.1 36 = .ok (.iaload, 1) := by decide +kernel
theorem d_M_checked_37 : decode m_M_checked.2.1 37 = .ok (.ixor, 1) := by decide +kernel
theorem d_M_checked_38 : decode m_M_checked.2.1 38 = .ok (.istore_n 2, 1) := by decide +kernel
theorem d_M_checked_39 : decode m_M_checked.2.1 39 = .ok (.iinc 3 1, 3) := by decide +kernel
theorem d_M_checked_42 : decode m_M_checked.2.1 42 = .ok (.goto (-29), 3) := by decide +kernel
theorem d_M_checked_45 : decode m_M_checked.2.1 45 = .ok (.iload_n 2, 1) := by decide +kernel
theorem d_M_checked_46 : decode m_M_checked.2.1 46 = .ok (.aload_n 0, 1) := by decide +kernel
theorem d_M_checked_47 : decode m_M_checked.2.1 47 = .ok (.getfield 7, 3) := by decide +kernel
theorem d_M_checked_50 : decode m_M_checked.2.1 50 = .ok (.iload_n 1, 1) := by decide +kernel
theorem d_M_checked_51 : decode m_M_checked.2.1 51 = .ok (.iconst 1, 1) := by decide +kernel
theorem d_M_checked_52 : decode m_M_checked.2.1 52 = .ok (.iadd, 1) := by decide +kernel
theorem d_M_checked_53 : decode m_M_checked.2.1 53 = .ok (.iaload, 1) := by decide +kernel
theorem d_M_checked_54 : decode m_M_checked.2.1 54 = .ok (.if_icmp .ne 7, 3) := by decide +kernel
theorem d_M_checked_57 : decode m_M_checked.2.1 57 = .ok (.iconst 1, 1) := by decide +kernel
theorem d_M_checked_58 : decode m_M_checked.2.1 58 = .ok (.goto 4, 3) := by decide +kernel
theorem d_M_checked_61 : decode m_M_checked.2.1 61 = .ok (.iconst 0, 1) := by decide +kernel
theorem d_M_checked_62 : decode m_M_checked.2.1 62 = .ok (.ireturn, 1) := by decide +kernel
theorem d_M_count_0 : decode m_M_count.2.1 0 = .ok (.iload_n 1, 1) := by decide +kernel
theorem d_M_count_1 : decode m_M_count.2.1 1 = .ok (.tableswitch 121 0 9 #[55, 60, 73, 86, 91, 96, 101, 106, 111, 116], 55) := by decide +kernel
theorem d_M_count_56 : decode m_M_count.2.1 56 = .ok (.aload_n 0, 1) := by decide +kernel
theorem d_M_count_57 : decode m_M_count.2.1 57 = .ok (.getfield 84, 3) := by decide +kernel
theorem d_M_count_60 : decode m_M_count.2.1 60 = .ok (.ireturn, 1) := by decide +kernel
theorem d_M_count_61 : decode m_M_count.2.1 61 = .ok (.aload_n 0, 1) := by decide +kernel
theorem d_M_count_62 : decode m_M_count.2.1 62 = .ok (.getfield 102, 3) := by decide +kernel
theorem d_M_count_65 : decode m_M_count.2.1 65 = .ok (.ifCond .eq 7, 3) := by decide +kernel
theorem d_M_count_68 : decode m_M_count.2.1 68 = .ok (.iconst 1, 1) := by decide +kernel
theorem d_M_count_69 : decode m_M_count.2.1 69 = .ok (.goto 4, 3) := by decide +kernel
theorem d_M_count_72 : decode m_M_count.2.1 72 = .ok (.iconst 0, 1) := by decide +kernel
theorem d_M_count_73 : decode m_M_count.2.1 73 = .ok (.ireturn, 1) := by decide +kernel
theorem d_M_count_74 : decode m_M_count.2.1 74 = .ok (.aload_n 0, 1) := by decide +kernel
theorem d_M_count_75 : decode m_M_count.2.1 75 = .ok (.getfield 116, 3) := by decide +kernel
theorem d_M_count_78 : decode m_M_count.2.1 78 = .ok (.ifCond .eq 7, 3) := by decide +kernel
theorem d_M_count_81 : decode m_M_count.2.1 81 = .ok (.iconst 0, 1) := by decide +kernel
theorem d_M_count_82 : decode m_M_count.2.1 82 = .ok (.goto 4, 3) := by decide +kernel
theorem d_M_count_85 : decode m_M_count.2.1 85 = .ok (.iconst 1, 1) := by decide +kernel
theorem d_M_count_86 : decode m_M_count.2.1 86 = .ok (.ireturn, 1) := by decide +kernel
theorem d_M_count_87 : decode m_M_count.2.1 87 = .ok (.aload_n 0, 1) := by decide +kernel
theorem d_M_count_88 : decode m_M_count.2.1 88 = .ok (.invokevirtual 106, 3) := by decide +kernel
theorem d_M_count_91 : decode m_M_count.2.1 91 = .ok (.ireturn, 1) := by decide +kernel
theorem d_M_count_92 : decode m_M_count.2.1 92 = .ok (.aload_n 0, 1) := by decide +kernel
theorem d_M_count_93 : decode m_M_count.2.1 93 = .ok (.getfield 75, 3) := by decide +kernel
theorem d_M_count_96 : decode m_M_count.2.1 96 = .ok (.ireturn, 1) := by decide +kernel
theorem d_M_count_97 : decode m_M_count.2.1 97 = .ok (.aload_n 0, 1) := by decide +kernel
theorem d_M_count_98 : decode m_M_count.2.1 98 = .ok (.getfield 81, 3) := by decide +kernel
theorem d_M_count_101 : decode m_M_count.2.1 101 = .ok (.ireturn, 1) := by decide +kernel
theorem d_M_count_102 : decode m_M_count.2.1 102 = .ok (.aload_n 0, 1) := by decide +kernel
theorem d_M_count_103 : decode m_M_count.2.1 103 = .ok (.getfield 155, 3) := by decide +kernel
theorem d_M_count_106 : decode m_M_count.2.1 106 = .ok (.ireturn, 1) := by decide +kernel
theorem d_M_count_107 : decode m_M_count.2.1 107 = .ok (.aload_n 0, 1) := by decide +kernel
theorem d_M_count_108 : decode m_M_count.2.1 108 = .ok (.getfield 148, 3) := by decide +kernel
theorem d_M_count_111 : decode m_M_count.2.1 111 = .ok (.ireturn, 1) := by decide +kernel
theorem d_M_count_112 : decode m_M_count.2.1 112 = .ok (.aload_n 0, 1) := by decide +kernel
theorem d_M_count_113 : decode m_M_count.2.1 113 = .ok (.getfield 145, 3) := by decide +kernel
theorem d_M_count_116 : decode m_M_count.2.1 116 = .ok (.ireturn, 1) := by decide +kernel
theorem d_M_count_117 : decode m_M_count.2.1 117 = .ok (.aload_n 0, 1) := by decide +kernel
theorem d_M_count_118 : decode m_M_count.2.1 118 = .ok (.getfield 142, 3) := by decide +kernel
theorem d_M_count_121 : decode m_M_count.2.1 121 = .ok (.ireturn, 1) := by decide +kernel
theorem d_M_count_122 : decode m_M_count.2.1 122 = .ok (.sipush (-1000), 3) := by decide +kernel
theorem d_M_count_125 : decode m_M_count.2.1 125 = .ok (.ireturn, 1) := by decide +kernel
theorem d_M_entries_0 : decode m_M_entries.2.1 0 = .ok (.iconst 0, 1) := by decide +kernel
theorem d_M_entries_1 : decode m_M_entries.2.1 1 = .ok (.istore_n 1, 1) := by decide +kernel
theorem d_M_entries_2 : decode m_M_entries.2.1 2 = .ok (.iconst 0, 1) := by decide +kernel
theorem d_M_entries_3 : decode m_M_entries.2.1 3 = .ok (.istore_n 2, 1) := by decide +kernel
theorem d_M_entries_4 : decode m_M_entries.2.1 4 = .ok (.iload_n 2, 1) := by decide +kernel
theorem d_M_entries_5 : decode m_M_entries.2.1 5 = .ok (.bipush 6, 2) := by decide +kernel
theorem d_M_entries_7 : decode m_M_entries.2.1 7 = .ok (.if_icmp .ge 30, 3) := by decide +kernel
theorem d_M_entries_10 : decode m_M_entries.2.1 10 = .ok (.aload_n 0, 1) := by decide +kernel
theorem d_M_entries_11 : decode m_M_entries.2.1 11 = .ok (.getfield 29, 3) := by decide +kernel
theorem d_M_entries_14 : decode m_M_entries.2.1 14 = .ok (.iload_n 2, 1) := by decide +kernel
theorem d_M_entries_15 : decode m_M_entries.2.1 15 = .ok (.iaload, 1) := by decide +kernel
theorem d_M_entries_16 : decode m_M_entries.2.1 16 = .ok (.ifCond .eq 15, 3) := by decide +kernel
theorem d_M_entries_19 : decode m_M_entries.2.1 19 = .ok (.aload_n 0, 1) := by decide +kernel
theorem d_M_entries_20 : decode m_M_entries.2.1 20 = .ok (.getfield 32, 3) := by decide +kernel
theorem d_M_entries_23 : decode m_M_entries.2.1 23 = .ok (.iload_n 2, 1) := by decide +kernel
theorem d_M_entries_24 : decode m_M_entries.2.1 24 = .ok (.baload, 1) := by decide +kernel
theorem d_M_entries_25 : decode m_M_entries.2.1 25 = .ok (.ifCond .ne 6, 3) := by decide +kernel
theorem d_M_entries_28 : decode m_M_entries.2.1 28 = .ok (.iinc 1 1, 3) := by decide +kernel
theorem d_M_entries_31 : decode m_M_entries.2.1 31 = .ok (.iinc 2 1, 3) := by decide +kernel
theorem d_M_entries_34 : decode m_M_entries.2.1 34 = .ok (.goto (-30), 3) := by decide +kernel
theorem d_M_entries_37 : decode m_M_entries.2.1 37 = .ok (.iload_n 1, 1) := by decide +kernel
theorem d_M_entries_38 : decode m_M_entries.2.1 38 = .ok (.ireturn, 1) := by decide +kernel
theorem d_M_entry_0 : decode m_M_entry.2.1 0 = .ok (.iconst 0, 1) := by decide +kernel
theorem d_M_entry_1 : decode m_M_entry.2.1 1 = .ok (.istore_n 3, 1) := by decide +kernel
theorem d_M_entry_2 : decode m_M_entry.2.1 2 = .ok (.iload_n 3, 1) := by decide +kernel
theorem d_M_entry_3 : decode m_M_entry.2.1 3 = .ok (.bipush 6, 2) := by decide +kernel
theorem d_M_entry_5 : decode m_M_entry.2.1 5 = .ok (.if_icmp .ge 92, 3) := by decide +kernel
theorem d_M_entry_8 : decode m_M_entry.2.1 8 = .ok (.aload_n 0, 1) := by decide +kernel
theorem d_M_entry_9 : decode m_M_entry.2.1 9 = .ok (.getfield 29, 3) := by decide +kernel
theorem d_M_entry_12 : decode m_M_entry.2.1 12 = .ok (.iload_n 3, 1) := by decide +kernel
theorem d_M_entry_13 : decode m_M_entry.2.1 13 = .ok (.iaload, 1) := by decide +kernel
theorem d_M_entry_14 : decode m_M_entry.2.1 14 = .ok (.ifCond .eq 77, 3) := by decide +kernel
theorem d_M_entry_17 : decode m_M_entry.2.1 17 = .ok (.aload_n 0, 1) := by decide +kernel
theorem d_M_entry_18 : decode m_M_entry.2.1 18 = .ok (.getfield 32, 3) := by decide +kernel
theorem d_M_entry_21 : decode m_M_entry.2.1 21 = .ok (.iload_n 3, 1) := by decide +kernel
theorem d_M_entry_22 : decode m_M_entry.2.1 22 = .ok (.baload, 1) := by decide +kernel
theorem d_M_entry_23 : decode m_M_entry.2.1 23 = .ok (.iload_n 1, 1) := by decide +kernel
theorem d_M_entry_24 : decode m_M_entry.2.1 24 = .ok (.if_icmp .eq 6, 3) := by decide +kernel
theorem d_M_entry_27 : decode m_M_entry.2.1 27 = .ok (.goto 64, 3) := by decide +kernel
theorem d_M_entry_30 : decode m_M_entry.2.1 30 = .ok (.iconst 0, 1) := by decide +kernel
theorem d_M_entry_31 : decode m_M_entry.2.1 31 = .ok (.istore 4, 2) := by decide +kernel
theorem d_M_entry_33 : decode m_M_entry.2.1 33 = .ok (.iconst 0, 1) := by decide +kernel
theorem d_M_entry_34 : decode m_M_entry.2.1 34 = .ok (.istore 5, 2) := by decide +kernel
theorem d_M_entry_36 : decode m_M_entry.2.1 36 = .ok (.iload 5, 2) := by decide +kernel
theorem d_M_entry_38 : decode m_M_entry.2.1 38 = .ok (.bipush 6, 2) := by decide +kernel
theorem d_M_entry_40 : decode m_M_entry.2.1 40 = .ok (.if_icmp .ge 43, 3) := by decide +kernel
theorem d_M_entry_43 : decode m_M_entry.2.1 43 = .ok (.aload_n 0, 1) := by decide +kernel
theorem d_M_entry_44 : decode m_M_entry.2.1 44 = .ok (.getfield 29, 3) := by decide +kernel
theorem d_M_entry_47 : decode m_M_entry.2.1 47 = .ok (.iload 5, 2) := by decide +kernel
theorem d_M_entry_49 : decode m_M_entry.2.1 49 = .ok (.iaload, 1) := by decide +kernel
theorem d_M_entry_50 : decode m_M_entry.2.1 50 = .ok (.ifCond .eq 27, 3) := by decide +kernel
theorem d_M_entry_53 : decode m_M_entry.2.1 53 = .ok (.aload_n 0, 1) := by decide +kernel
theorem d_M_entry_54 : decode m_M_entry.2.1 54 = .ok (.getfield 32, 3) := by decide +kernel
theorem d_M_entry_57 : decode m_M_entry.2.1 57 = .ok (.iload 5, 2) := by decide +kernel
theorem d_M_entry_59 : decode m_M_entry.2.1 59 = .ok (.baload, 1) := by decide +kernel
theorem d_M_entry_60 : decode m_M_entry.2.1 60 = .ok (.iload_n 1, 1) := by decide +kernel
theorem d_M_entry_61 : decode m_M_entry.2.1 61 = .ok (.if_icmp .ne 16, 3) := by decide +kernel
theorem d_M_entry_64 : decode m_M_entry.2.1 64 = .ok (.aload_n 0, 1) := by decide +kernel
theorem d_M_entry_65 : decode m_M_entry.2.1 65 = .ok (.iload 5, 2) := by decide +kernel
theorem d_M_entry_67 : decode m_M_entry.2.1 67 = .ok (.iload_n 3, 1) := by decide +kernel
theorem d_M_entry_68 : decode m_M_entry.2.1 68 = .ok (.invokevirtual 164, 3) := by decide +kernel
theorem d_M_entry_71 : decode m_M_entry.2.1 71 = .ok (.ifCond .eq 6, 3) := by decide +kernel
theorem d_M_entry_74 : decode m_M_entry.2.1 74 = .ok (.iinc 4 1, 3) := by decide +kernel
theorem d_M_entry_77 : decode m_M_entry.2.1 77 = .ok (.iinc 5 1, 3) := by decide +kernel
theorem d_M_entry_80 : decode m_M_entry.2.1 80 = .ok (.goto (-44), 3) := by decide +kernel
theorem d_M_entry_83 : decode m_M_entry.2.1 83 = .ok (.iload 4, 2) := by decide +kernel
theorem d_M_entry_85 : decode m_M_entry.2.1 85 = .ok (.iload_n 2, 1) := by decide +kernel
theorem d_M_entry_86 : decode m_M_entry.2.1 86 = .ok (.if_icmp .ne 5, 3) := by decide +kernel
theorem d_M_entry_89 : decode m_M_entry.2.1 89 = .ok (.iload_n 3, 1) := by decide +kernel
theorem d_M_entry_90 : decode m_M_entry.2.1 90 = .ok (.ireturn, 1) := by decide +kernel
theorem d_M_entry_91 : decode m_M_entry.2.1 91 = .ok (.iinc 3 1, 3) := by decide +kernel
theorem d_M_entry_94 : decode m_M_entry.2.1 94 = .ok (.goto (-92), 3) := by decide +kernel
theorem d_M_entry_97 : decode m_M_entry.2.1 97 = .ok (.bipush 6, 2) := by decide +kernel
theorem d_M_entry_99 : decode m_M_entry.2.1 99 = .ok (.ireturn, 1) := by decide +kernel
theorem d_M_init_0 : decode m_M_init.2.1 0 = .ok (.aload_n 0, 1) := by decide +kernel
theorem d_M_init_1 : decode m_M_init.2.1 1 = .ok (.invokespecial 1, 3) := by decide +kernel
theorem d_M_init_4 : decode m_M_init.2.1 4 = .ok (.aload_n 0, 1) := by decide +kernel
theorem d_M_init_5 : decode m_M_init.2.1 5 = .ok (.bipush 16, 2) := by decide +kernel
theorem d_M_init_7 : decode m_M_init.2.1 7 = .ok (.newarray .int, 2) := by decide +kernel
theorem d_M_init_9 : decode m_M_init.2.1 9 = .ok (.putfield 7, 3) := by decide +kernel
theorem d_M_init_12 : decode m_M_init.2.1 12 = .ok (.aload_n 0, 1) := by decide +kernel
theorem d_M_init_13 : decode m_M_init.2.1 13 = .ok (.iconst (-1), 1) := by decide +kernel
theorem d_M_init_14 : decode m_M_init.2.1 14 = .ok (.putfield 13, 3) := by decide +kernel
theorem d_M_init_17 : decode m_M_init.2.1 17 = .ok (.aload_n 0, 1) := by decide +kernel
theorem d_M_init_18 : decode m_M_init.2.1 18 = .ok (.bipush 14, 2) := by decide +kernel
theorem d_M_init_20 : decode m_M_init.2.1 20 = .ok (.newarray .int, 2) := by decide +kernel
theorem d_M_init_22 : decode m_M_init.2.1 22 = .ok (.putfield 17, 3) := by decide +kernel
theorem d_M_init_25 : decode m_M_init.2.1 25 = .ok (.aload_n 0, 1) := by decide +kernel
theorem d_M_init_26 : decode m_M_init.2.1 26 = .ok (.bipush 72, 2) := by decide +kernel
theorem d_M_init_28 : decode m_M_init.2.1 28 = .ok (.newarray .int, 2) := by decide +kernel
theorem d_M_init_30 : decode m_M_init.2.1 30 = .ok (.putfield 20, 3) := by decide +kernel
theorem d_M_init_33 : decode m_M_init.2.1 33 = .ok (.aload_n 0, 1) := by decide +kernel
theorem d_M_init_34 : decode m_M_init.2.1 34 = .ok (.bipush 6, 2) := by decide +kernel
theorem d_M_init_36 : decode m_M_init.2.1 36 = .ok (.newarray .int, 2) := by decide +kernel
theorem d_M_init_38 : decode m_M_init.2.1 38 = .ok (.putfield 23, 3) := by decide +kernel
theorem d_M_init_41 : decode m_M_init.2.1 41 = .ok (.aload_n 0, 1) := by decide +kernel
theorem d_M_init_42 : decode m_M_init.2.1 42 = .ok (.bipush 6, 2) := by decide +kernel
theorem d_M_init_44 : decode m_M_init.2.1 44 = .ok (.newarray .int, 2) := by decide +kernel
theorem d_M_init_46 : decode m_M_init.2.1 46 = .ok (.putfield 26, 3) := by decide +kernel
theorem d_M_init_49 : decode m_M_init.2.1 49 = .ok (.aload_n 0, 1) := by decide +kernel
theorem d_M_init_50 : decode m_M_init.2.1 50 = .ok (.bipush 6, 2) := by decide +kernel
theorem d_M_init_52 : decode m_M_init.2.1 52 = .ok (.newarray .int, 2) := by decide +kernel
theorem d_M_init_54 : decode m_M_init.2.1 54 = .ok (.putfield 29, 3) := by decide +kernel
theorem d_M_init_57 : decode m_M_init.2.1 57 = .ok (.aload_n 0, 1) := by decide +kernel
theorem d_M_init_58 : decode m_M_init.2.1 58 = .ok (.bipush 6, 2) := by decide +kernel
theorem d_M_init_60 : decode m_M_init.2.1 60 = .ok (.newarray .boolean, 2) := by decide +kernel
theorem d_M_init_62 : decode m_M_init.2.1 62 = .ok (.putfield 32, 3) := by decide +kernel
theorem d_M_init_65 : decode m_M_init.2.1 65 = .ok (.aload_n 0, 1) := by decide +kernel
theorem d_M_init_66 : decode m_M_init.2.1 66 = .ok (.bipush 48, 2) := by decide +kernel
theorem d_M_init_68 : decode m_M_init.2.1 68 = .ok (.newarray .int, 2) := by decide +kernel
theorem d_M_init_70 : decode m_M_init.2.1 70 = .ok (.putfield 36, 3) := by decide +kernel
theorem d_M_init_73 : decode m_M_init.2.1 73 = .ok (.aload_n 0, 1) := by decide +kernel
theorem d_M_init_74 : decode m_M_init.2.1 74 = .ok (.iconst 4, 1) := by decide +kernel
theorem d_M_init_75 : decode m_M_init.2.1 75 = .ok (.newarray .int, 2) := by decide +kernel
theorem d_M_init_77 : decode m_M_init.2.1 77 = .ok (.putfield 39, 3) := by decide +kernel
theorem d_M_init_80 : decode m_M_init.2.1 80 = .ok (.aload_n 0, 1) := by decide +kernel
theorem d_M_init_81 : decode m_M_init.2.1 81 = .ok (.iconst 4, 1) := by decide +kernel
theorem d_M_init_82 : decode m_M_init.2.1 82 = .ok (.newarray .boolean, 2) := by decide +kernel
theorem d_M_init_84 : decode m_M_init.2.1 84 = .ok (.putfield 42, 3) := by decide +kernel
theorem d_M_init_87 : decode m_M_init.2.1 87 = .ok (.aload_n 0, 1) := by decide +kernel
theorem d_M_init_88 : decode m_M_init.2.1 88 = .ok (.iconst 4, 1) := by decide +kernel
theorem d_M_init_89 : decode m_M_init.2.1 89 = .ok (.newarray .int, 2) := by decide +kernel
theorem d_M_init_91 : decode m_M_init.2.1 91 = .ok (.putfield 45, 3) := by decide +kernel
theorem d_M_init_94 : decode m_M_init.2.1 94 = .ok (.aload_n 0, 1) := by decide +kernel
theorem d_M_init_95 : decode m_M_init.2.1 95 = .ok (.iconst 4, 1) := by decide +kernel
theorem d_M_init_96 : decode m_M_init.2.1 96 = .ok (.newarray .int, 2) := by decide +kernel
theorem d_M_init_98 : decode m_M_init.2.1 98 = .ok (.putfield 48, 3) := by decide +kernel
theorem d_M_init_101 : decode m_M_init.2.1 101 = .ok (.aload_n 0, 1) := by decide +kernel
theorem d_M_init_102 : decode m_M_init.2.1 102 = .ok (.iconst 4, 1) := by decide +kernel
theorem d_M_init_103 : decode m_M_init.2.1 103 = .ok (.newarray .int, 2) := by decide +kernel
theorem d_M_init_105 : decode m_M_init.2.1 105 = .ok (.putfield 51, 3) := by decide +kernel
theorem d_M_init_108 : decode m_M_init.2.1 108 = .ok (.aload_n 0, 1) := by decide +kernel
theorem d_M_init_109 : decode m_M_init.2.1 109 = .ok (.iconst 4, 1) := by decide +kernel
theorem d_M_init_110 : decode m_M_init.2.1 110 = .ok (.newarray .int, 2) := by decide +kernel
theorem d_M_init_112 : decode m_M_init.2.1 112 = .ok (.putfield 54, 3) := by decide +kernel
theorem d_M_init_115 : decode m_M_init.2.1 115 = .ok (.aload_n 0, 1) := by decide +kernel
theorem d_M_init_116 : decode m_M_init.2.1 116 = .ok (.iconst 4, 1) := by decide +kernel
theorem d_M_init_117 : decode m_M_init.2.1 117 = .ok (.newarray .int, 2) := by decide +kernel
theorem d_M_init_119 : decode m_M_init.2.1 119 = .ok (.putfield 57, 3) := by decide +kernel
theorem d_M_init_122 : decode m_M_init.2.1 122 = .ok (.aload_n 0, 1) := by decide +kernel
theorem d_M_init_123 : decode m_M_init.2.1 123 = .ok (.iconst 4, 1) := by decide +kernel
theorem d_M_init_124 : decode m_M_init.2.1 124 = .ok (.newarray .int, 2) := by decide +kernel
theorem d_M_init_126 : decode m_M_init.2.1 126 = .ok (.putfield 60, 3) := by decide +kernel
theorem d_M_init_129 : decode m_M_init.2.1 129 = .ok (.aload_n 0, 1) := by decide +kernel
theorem d_M_init_130 : decode m_M_init.2.1 130 = .ok (.iconst 2, 1) := by decide +kernel
theorem d_M_init_131 : decode m_M_init.2.1 131 = .ok (.newarray .int, 2) := by decide +kernel
theorem d_M_init_133 : decode m_M_init.2.1 133 = .ok (.putfield 63, 3) := by decide +kernel
theorem d_M_init_136 : decode m_M_init.2.1 136 = .ok (.aload_n 0, 1) := by decide +kernel
theorem d_M_init_137 : decode m_M_init.2.1 137 = .ok (.iconst 2, 1) := by decide +kernel
theorem d_M_init_138 : decode m_M_init.2.1 138 = .ok (.newarray .int, 2) := by decide +kernel
theorem d_M_init_140 : decode m_M_init.2.1 140 = .ok (.putfield 66, 3) := by decide +kernel
theorem d_M_init_143 : decode m_M_init.2.1 143 = .ok (.aload_n 0, 1) := by decide +kernel
theorem d_M_init_144 : decode m_M_init.2.1 144 = .ok (.bipush 8, 2) := by decide +kernel
theorem d_M_init_146 : decode m_M_init.2.1 146 = .ok (.newarray .int, 2) := by decide +kernel
theorem d_M_init_148 : decode m_M_init.2.1 148 = .ok (.putfield 69, 3) := by decide +kernel
theorem d_M_init_151 : decode m_M_init.2.1 151 = .ok (.aload_n 0, 1) := by decide +kernel
theorem d_M_init_152 : decode m_M_init.2.1 152 = .ok (.bipush 40, 2) := by decide +kernel
theorem d_M_init_154 : decode m_M_init.2.1 154 = .ok (.newarray .int, 2) := by decide +kernel
theorem d_M_init_156 : decode m_M_init.2.1 156 = .ok (.putfield 72, 3) := by decide +kernel
theorem d_M_init_159 : decode m_M_init.2.1 159 = .ok (.return_, 1) := by decide +kernel
theorem d_M_look_0 : decode m_M_look.2.1 0 = .ok (.aload_n 0, 1) := by decide +kernel
theorem d_M_look_1 : decode m_M_look.2.1 1 = .ok (.getfield 69, 3) := by decide +kernel
theorem d_M_look_4 : decode m_M_look.2.1 4 = .ok (.aload_n 0, 1) := by decide +kernel
theorem d_M_look_5 : decode m_M_look.2.1 5 = .ok (.getfield 45, 3) := by decide +kernel
theorem d_M_look_8 : decode m_M_look.2.1 8 = .ok (.iload_n 1, 1) := by decide +kernel
theorem d_M_look_9 : decode m_M_look.2.1 9 = .ok (.iaload, 1) := by decide +kernel
theorem d_M_look_10 : decode m_M_look.2.1 10 = .ok (.iaload, 1) := by decide +kernel
theorem d_M_look_11 : decode m_M_look.2.1 11 = .ok (.istore_n 2, 1) := by decide +kernel
theorem d_M_look_12 : decode m_M_look.2.1 12 = .ok (.iload_n 2, 1) := by decide +kernel
theorem d_M_look_13 : decode m_M_look.2.1 13 = .ok (.aload_n 0, 1) := by decide +kernel
theorem d_M_look_14 : decode m_M_look.2.1 14 = .ok (.getfield 48, 3) := by decide +kernel
theorem d_M_look_17 : decode m_M_look.2.1 17 = .ok (.iload_n 1, 1) := by decide +kernel
theorem d_M_look_18 : decode m_M_look.2.1 18 = .ok (.iaload, 1) := by decide +kernel
theorem d_M_look_19 : decode m_M_look.2.1 19 = .ok (.if_icmp .lt 21, 3) := by decide +kernel
theorem d_M_look_22 : decode m_M_look.2.1 22 = .ok (.iload_n 2, 1) := by decide +kernel
theorem d_M_look_23 : decode m_M_look.2.1 23 = .ok (.aload_n 0, 1) := by decide +kernel
theorem d_M_look_24 : decode m_M_look.2.1 24 = .ok (.getfield 51, 3) := by decide +kernel
theorem d_M_look_27 : decode m_M_look.2.1 27 = .ok (.iload_n 1, 1) := by decide +kernel
theorem d_M_look_28 : decode m_M_look.2.1 28 = .ok (.iaload, 1) := by decide +kernel
theorem d_M_look_29 : decode m_M_look.2.1 29 = .ok (.if_icmp .gt 11, 3) := by decide +kernel
theorem d_M_look_32 : decode m_M_look.2.1 32 = .ok (.aload_n 0, 1) := by decide +kernel
theorem d_M_look_33 : decode m_M_look.2.1 33 = .ok (.getfield 60, 3) := by decide +kernel
theorem d_M_look_36 : decode m_M_look.2.1 36 = .ok (.iload_n 1, 1) := by decide +kernel
theorem d_M_look_37 : decode m_M_look.2.1 37 = .ok (.iconst 0, 1) := by decide +kernel
theorem d_M_look_38 : decode m_M_look.2.1 38 = .ok (.iastore, 1) := by decide +kernel
theorem d_M_look_39 : decode m_M_look.2.1 39 = .ok (.return_, 1) := by decide +kernel
theorem d_M_look_40 : decode m_M_look.2.1 40 = .ok (.aload_n 0, 1) := by decide +kernel
theorem d_M_look_41 : decode m_M_look.2.1 41 = .ok (.getfield 60, 3) := by decide +kernel
theorem d_M_look_44 : decode m_M_look.2.1 44 = .ok (.iload_n 1, 1) := by decide +kernel
theorem d_M_look_45 : decode m_M_look.2.1 45 = .ok (.iaload, 1) := by decide +kernel
theorem d_M_look_46 : decode m_M_look.2.1 46 = .ok (.aload_n 0, 1) := by decide +kernel
theorem d_M_look_47 : decode m_M_look.2.1 47 = .ok (.getfield 54, 3) := by decide +kernel
theorem d_M_look_50 : decode m_M_look.2.1 50 = .ok (.iload_n 1, 1) := by decide +kernel
theorem d_M_look_51 : decode m_M_look.2.1 51 = .ok (.iaload, 1) := by decide +kernel
theorem d_M_look_52 : decode m_M_look.2.1 52 = .ok (.if_icmp .ne 4, 3) := by decide +kernel
theorem d_M_look_55 : decode m_M_look.2.1 55 = .ok (.return_, 1) := by decide +kernel
theorem d_M_look_56 : decode m_M_look.2.1 56 = .ok (.aload_n 0, 1) := by decide +kernel
theorem d_M_look_57 : decode m_M_look.2.1 57 = .ok (.getfield 60, 3) := by decide +kernel
theorem d_M_look_60 : decode m_M_look.2.1 60 = .ok (.iload_n 1, 1) := by decide +kernel
theorem d_M_look_61 : decode m_M_look.2.1 61 = .ok (.dup2, 1) := by decide +kernel
theorem d_M_look_62 : decode m_M_look.2.1 62 = .ok (.iaload, 1) := by decide +kernel
theorem d_M_look_63 : decode m_M_look.2.1 63 = .ok (.iconst 1, 1) := by decide +kernel
theorem d_M_look_64 : decode m_M_look.2.1 64 = .ok (.iadd, 1) := by decide +kernel
theorem d_M_look_65 : decode m_M_look.2.1 65 = .ok (.iastore, 1) := by decide +kernel
theorem d_M_look_66 : decode m_M_look.2.1 66 = .ok (.aload_n 0, 1) := by decide +kernel
theorem d_M_look_67 : decode m_M_look.2.1 67 = .ok (.getfield 60, 3) := by decide +kernel
theorem d_M_look_70 : decode m_M_look.2.1 70 = .ok (.iload_n 1, 1) := by decide +kernel
theorem d_M_look_71 : decode m_M_look.2.1 71 = .ok (.iaload, 1) := by decide +kernel
theorem d_M_look_72 : decode m_M_look.2.1 72 = .ok (.aload_n 0, 1) := by decide +kernel
theorem d_M_look_73 : decode m_M_look.2.1 73 = .ok (.getfield 54, 3) := by decide +kernel
theorem d_M_look_76 : decode m_M_look.2.1 76 = .ok (.iload_n 1, 1) := by decide +kernel
theorem d_M_look_77 : decode m_M_look.2.1 77 = .ok (.iaload, 1) := by decide +kernel
theorem d_M_look_78 : decode m_M_look.2.1 78 = .ok (.if_icmp .ge 4, 3) := by decide +kernel
theorem d_M_look_81 : decode m_M_look.2.1 81 = .ok (.return_, 1) := by decide +kernel
theorem d_M_look_82 : decode m_M_look.2.1 82 = .ok (.aload_n 0, 1) := by decide +kernel
theorem d_M_look_83 : decode m_M_look.2.1 83 = .ok (.getfield 57, 3) := by decide +kernel
theorem d_M_look_86 : decode m_M_look.2.1 86 = .ok (.iload_n 1, 1) := by decide +kernel
theorem d_M_look_87 : decode m_M_look.2.1 87 = .ok (.iaload, 1) := by decide +kernel
theorem d_M_look_88 : decode m_M_look.2.1 88 = .ok (.istore_n 3, 1) := by decide +kernel
theorem d_M_look_89 : decode m_M_look.2.1 89 = .ok (.aload_n 0, 1) := by decide +kernel
theorem d_M_look_90 : decode m_M_look.2.1 90 = .ok (.iconst 4, 1) := by decide +kernel
theorem d_M_look_91 : decode m_M_look.2.1 91 = .ok (.iload_n 3, 1) := by decide +kernel
theorem d_M_look_92 : decode m_M_look.2.1 92 = .ok (.iload_n 2, 1) := by decide +kernel
theorem d_M_look_93 : decode m_M_look.2.1 93 = .ok (.invokevirtual 119, 3) := by decide +kernel
theorem d_M_look_96 : decode m_M_look.2.1 96 = .ok (.aload_n 0, 1) := by decide +kernel
theorem d_M_look_97 : decode m_M_look.2.1 97 = .ok (.getfield 39, 3) := by decide +kernel
theorem d_M_look_100 : decode m_M_look.2.1 100 = .ok (.iload_n 3, 1) := by decide +kernel
theorem d_M_look_101 : decode m_M_look.2.1 101 = .ok (.iaload, 1) := by decide +kernel
theorem d_M_look_102 : decode m_M_look.2.1 102 = .ok (.ifCond .ne 4, 3) := by decide +kernel
theorem d_M_look_105 : decode m_M_look.2.1 105 = .ok (.return_, 1) := by decide +kernel
theorem d_M_look_106 : decode m_M_look.2.1 106 = .ok (.aload_n 0, 1) := by decide +kernel
theorem d_M_look_107 : decode m_M_look.2.1 107 = .ok (.aload_n 0, 1) := by decide +kernel
theorem d_M_look_108 : decode m_M_look.2.1 108 = .ok (.getfield 39, 3) := by decide +kernel
theorem d_M_look_111 : decode m_M_look.2.1 111 = .ok (.iload_n 3, 1) := by decide +kernel
theorem d_M_look_112 : decode m_M_look.2.1 112 = .ok (.iaload, 1) := by decide +kernel
theorem d_M_look_113 : decode m_M_look.2.1 113 = .ok (.putfield 91, 3) := by decide +kernel
theorem d_M_look_116 : decode m_M_look.2.1 116 = .ok (.iconst 0, 1) := by decide +kernel
theorem d_M_look_117 : decode m_M_look.2.1 117 = .ok (.istore 4, 2) := by decide +kernel
theorem d_M_look_119 : decode m_M_look.2.1 119 = .ok (.iload 4, 2) := by decide +kernel
theorem d_M_look_121 : decode m_M_look.2.1 121 = .ok (.aload_n 0, 1) := by decide +kernel
theorem d_M_look_122 : decode m_M_look.2.1 122 = .ok (.getfield 91, 3) := by decide +kernel
theorem d_M_look_125 : decode m_M_look.2.1 125 = .ok (.if_icmp .ge 28, 3) := by decide +kernel
theorem d_M_look_128 : decode m_M_look.2.1 128 = .ok (.aload_n 0, 1) := by decide +kernel
theorem d_M_look_129 : decode m_M_look.2.1 129 = .ok (.getfield 17, 3) := by decide +kernel
theorem d_M_look_132 : decode m_M_look.2.1 132 = .ok (.iload 4, 2) := by decide +kernel
theorem d_M_look_134 : decode m_M_look.2.1 134 = .ok (.aload_n 0, 1) := by decide +kernel
theorem d_M_look_135 : decode m_M_look.2.1 135 = .ok (.getfield 36, 3) := by decide +kernel
theorem d_M_look_138 : decode m_M_look.2.1 138 = .ok (.bipush 12, 2) := by decide +kernel
theorem d_M_look_140 : decode m_M_look.2.1 140 = .ok (.iload_n 3, 1) := by decide +kernel
theorem d_M_look_141 : decode m_M_look.2.1 141 = .ok (.imul, 1) := by decide +kernel
theorem d_M_look_142 : decode m_M_look.2.1 142 = .ok (.iload 4, 2) := by decide +kernel
theorem d_M_look_144 : decode m_M_look.2.1 144 = .ok (.iadd, 1) := by decide +kernel
theorem d_M_look_145 : decode m_M_look.2.1 145 = .ok (.iaload, 1) := by decide +kernel
theorem d_M_look_146 : decode m_M_look.2.1 146 = .ok (.iastore, 1) := by decide +kernel
theorem d_M_look_147 : decode m_M_look.2.1 147 = .ok (.iinc 4 1, 3) := by decide +kernel
theorem d_M_look_150 : decode m_M_look.2.1 150 = .ok (.goto (-31), 3) := by decide +kernel
theorem d_M_look_153 : decode m_M_look.2.1 153 = .ok (.aload_n 0, 1) := by decide +kernel
theorem d_M_look_154 : decode m_M_look.2.1 154 = .ok (.sipush 257, 3) := by decide +kernel
theorem d_M_look_157 : decode m_M_look.2.1 157 = .ok (.invokevirtual 161, 3) := by decide +kernel
theorem d_M_look_160 : decode m_M_look.2.1 160 = .ok (.ifCond .ne 8, 3) := by decide +kernel
theorem d_M_look_163 : decode m_M_look.2.1 163 = .ok (.aload_n 0, 1) := by decide +kernel
theorem d_M_look_164 : decode m_M_look.2.1 164 = .ok (.iconst 0, 1) := by decide +kernel
theorem d_M_look_165 : decode m_M_look.2.1 165 = .ok (.putfield 91, 3) := by decide +kernel
theorem d_M_look_168 : decode m_M_look.2.1 168 = .ok (.return_, 1) := by decide +kernel
theorem d_M_outOfRange_0 : decode m_M_outOfRange.2.1 0 = .ok (.aload_n 0, 1) := by decide +kernel
theorem d_M_outOfRange_1 : decode m_M_outOfRange.2.1 1 = .ok (.getfield 17, 3) := by decide +kernel
theorem d_M_outOfRange_4 : decode m_M_outOfRange.2.1 4 = .ok (.iload_n 1, 1) := by decide +kernel
theorem d_M_outOfRange_5 : decode m_M_outOfRange.2.1 5 = .ok (.iaload, 1) := by decide +kernel
theorem d_M_outOfRange_6 : decode m_M_outOfRange.2.1 6 = .ok (.istore_n 2, 1) := by decide +kernel
theorem d_M_outOfRange_7 : decode m_M_outOfRange.2.1 7 = .ok (.aload_n 0, 1) := by decide +kernel
theorem d_M_outOfRange_8 : decode m_M_outOfRange.2.1 8 = .ok (.getfield 17, 3) := by decide +kernel
theorem d_M_outOfRange_11 : decode m_M_outOfRange.2.1 11 = .ok (.iload_n 1, 1) := by decide +kernel
theorem d_M_outOfRange_12 : decode m_M_outOfRange.2.1 12 = .ok (.iconst 1, 1) := by decide +kernel
theorem d_M_outOfRange_13 : decode m_M_outOfRange.2.1 13 = .ok (.iadd, 1) := by decide +kernel
theorem d_M_outOfRange_14 : decode m_M_outOfRange.2.1 14 = .ok (.iaload, 1) := by decide +kernel
theorem d_M_outOfRange_15 : decode m_M_outOfRange.2.1 15 = .ok (.istore_n 3, 1) := by decide +kernel
theorem d_M_outOfRange_16 : decode m_M_outOfRange.2.1 16 = .ok (.iload_n 2, 1) := by decide +kernel
theorem d_M_outOfRange_17 : decode m_M_outOfRange.2.1 17 = .ok (.tableswitch 238 2 11 #[55, 76, 55, 238, 94, 180, 191, 180, 227, 227], 55) := by decide +kernel
theorem d_M_outOfRange_72 : decode m_M_outOfRange.2.1 72 = .ok (.iload_n 3, 1) := by decide +kernel
theorem d_M_outOfRange_73 : decode m_M_outOfRange.2.1 73 = .ok (.iload_n 2, 1) := by decide +kernel
theorem d_M_outOfRange_74 : decode m_M_outOfRange.2.1 74 = .ok (.iconst 2, 1) := by decide +kernel
theorem d_M_outOfRange_75 : decode m_M_outOfRange.2.1 75 = .ok (.if_icmp .ne 8, 3) := by decide +kernel
theorem d_M_outOfRange_78 : decode m_M_outOfRange.2.1 78 = .ok (.bipush 8, 2) := by decide +kernel
theorem d_M_outOfRange_80 : decode m_M_outOfRange.2.1 80 = .ok (.goto 4, 3) := by decide +kernel
theorem d_M_outOfRange_83 : decode m_M_outOfRange.2.1 83 = .ok (.iconst 3, 1) := by decide +kernel
theorem d_M_outOfRange_84 : decode m_M_outOfRange.2.1 84 = .ok (.if_icmp .lt 7, 3) := by decide +kernel
theorem d_M_outOfRange_87 : decode m_M_outOfRange.2.1 87 = .ok (.iconst 1, 1) := by decide +kernel
theorem d_M_outOfRange_88 : decode m_M_outOfRange.2.1 88 = .ok (.goto 4, 3) := by decide +kernel
theorem d_M_outOfRange_91 : decode m_M_outOfRange.2.1 91 = .ok (.iconst 0, 1) := by decide +kernel
theorem d_M_outOfRange_92 : decode m_M_outOfRange.2.1 92 = .ok (.ireturn, 1) := by decide +kernel
theorem d_M_outOfRange_93 : decode m_M_outOfRange.2.1 93 = .ok (.aload_n 0, 1) := by decide +kernel
theorem d_M_outOfRange_94 : decode m_M_outOfRange.2.1 94 = .ok (.getfield 17, 3) := by decide +kernel
theorem d_M_outOfRange_97 : decode m_M_outOfRange.2.1 97 = .ok (.iload_n 1, 1) := by decide +kernel
theorem d_M_outOfRange_98 : decode m_M_outOfRange.2.1 98 = .ok (.iconst 3, 1) := by decide +kernel
theorem d_M_outOfRange_99 : decode m_M_outOfRange.2.1 99 = .ok (.iadd, 1) := by decide +kernel
theorem d_M_outOfRange_100 : decode m_M_outOfRange.2.1 100 = .ok (.iaload, 1) := by decide +kernel
theorem d_M_outOfRange_101 : decode m_M_outOfRange.2.1 101 = .ok (.iconst 3, 1) := by decide +kernel
theorem d_M_outOfRange_102 : decode m_M_outOfRange.2.1 102 = .ok (.if_icmp .ne 7, 3) := by decide +kernel
theorem d_M_outOfRange_105 : decode m_M_outOfRange.2.1 105 = .ok (.iconst 1, 1) := by decide +kernel
theorem d_M_outOfRange_106 : decode m_M_outOfRange.2.1 106 = .ok (.goto 4, 3) := by decide +kernel
theorem d_M_outOfRange_109 : decode m_M_outOfRange.2.1 109 = .ok (.iconst 0, 1) := by decide +kernel
theorem d_M_outOfRange_110 : decode m_M_outOfRange.2.1 110 = .ok (.ireturn, 1) := by decide +kernel
theorem d_M_outOfRange_111 : decode m_M_outOfRange.2.1 111 = .ok (.iload_n 3, 1) := by decide +kernel
theorem d_M_outOfRange_112 : decode m_M_outOfRange.2.1 112 = .ok (.iconst 3, 1) := by decide +kernel
theorem d_M_outOfRange_113 : decode m_M_outOfRange.2.1 113 = .ok (.if_icmp .gt 78, 3) := by decide +kernel
theorem d_M_outOfRange_116 : decode m_M_outOfRange.2.1 116 = .ok (.aload_n 0, 1) := by decide +kernel
theorem d_M_outOfRange_117 : decode m_M_outOfRange.2.1 117 = .ok (.getfield 17, 3) := by decide +kernel
theorem d_M_outOfRange_120 : decode m_M_outOfRange.2.1 120 = .ok (.iload_n 1, 1) := by decide +kernel
theorem d_M_outOfRange_121 : decode m_M_outOfRange.2.1 121 = .ok (.iconst 2, 1) := by decide +kernel
theorem d_M_outOfRange_122 : decode m_M_outOfRange.2.1 122 = .ok (.iadd, 1) := by decide +kernel
theorem d_M_outOfRange_123 : decode m_M_outOfRange.2.1 123 = .ok (.iaload, 1) := by decide +kernel
theorem d_M_outOfRange_124 : decode m_M_outOfRange.2.1 124 = .ok (.bipush 7, 2) := by decide +kernel
theorem d_M_outOfRange_126 : decode m_M_outOfRange.2.1 126 = .ok (.if_icmp .gt 65, 3) := by decide +kernel
theorem d_M_outOfRange_129 : decode m_M_outOfRange.2.1 129 = .ok (.aload_n 0, 1) := by decide +kernel
theorem d_M_outOfRange_130 : decode m_M_outOfRange.2.1 130 = .ok (.getfield 17, 3) := by decide +kernel
theorem d_M_outOfRange_133 : decode m_M_outOfRange.2.1 133 = .ok (.iload_n 1, 1) := by decide +kernel
theorem d_M_outOfRange_134 : decode m_M_outOfRange.2.1 134 = .ok (.iconst 4, 1) := by decide +kernel
theorem d_M_outOfRange_135 : decode m_M_outOfRange.2.1 135 = .ok (.iadd, 1) := by decide +kernel
theorem d_M_outOfRange_136 : decode m_M_outOfRange.2.1 136 = .ok (.iaload, 1) := by decide +kernel
theorem d_M_outOfRange_137 : decode m_M_outOfRange.2.1 137 = .ok (.invokestatic 87, 3) := by decide +kernel
theorem d_M_outOfRange_140 : decode m_M_outOfRange.2.1 140 = .ok (.aload_n 0, 1) := by decide +kernel
theorem d_M_outOfRange_141 : decode m_M_outOfRange.2.1 141 = .ok (.getfield 17, 3) := by decide +kernel
theorem d_M_outOfRange_144 : decode m_M_outOfRange.2.1 144 = .ok (.iload_n 1, 1) := by decide +kernel
theorem d_M_outOfRange_145 : decode m_M_outOfRange.2.1 145 = .ok (.iconst 3, 1) := by decide +kernel
theorem d_M_outOfRange_146 : decode m_M_outOfRange.2.1 146 = .ok (.iadd, 1) := by decide +kernel
theorem d_M_outOfRange_147 : decode m_M_outOfRange.2.1 147 = .ok (.iaload, 1) := by decide +kernel
theorem d_M_outOfRange_148 : decode m_M_outOfRange.2.1 148 = .ok (.invokestatic 87, 3) := by decide +kernel
theorem d_M_outOfRange_151 : decode m_M_outOfRange.2.1 151 = .ok (.if_icmp .lt 40, 3) := by decide +kernel
theorem d_M_outOfRange_154 : decode m_M_outOfRange.2.1 154 = .ok (.aload_n 0, 1) := by decide +kernel
theorem d_M_outOfRange_155 : decode m_M_outOfRange.2.1 155 = .ok (.getfield 17, 3) := by decide +kernel
theorem d_M_outOfRange_158 : decode m_M_outOfRange.2.1 158 = .ok (.iload_n 1, 1) := by decide +kernel
theorem d_M_outOfRange_159 : decode m_M_outOfRange.2.1 159 = .ok (.iconst 5, 1) := by decide +kernel
theorem d_M_outOfRange_160 : decode m_M_outOfRange.2.1 160 = .ok (.iadd, 1) := by decide +kernel
theorem d_M_outOfRange_161 : decode m_M_outOfRange.2.1 161 = .ok (.iaload, 1) := by decide +kernel
theorem d_M_outOfRange_162 : decode m_M_outOfRange.2.1 162 = .ok (.iconst 1, 1) := by decide +kernel
theorem d_M_outOfRange_163 : decode m_M_outOfRange.2.1 163 = .ok (.if_icmp .lt 28, 3) := by decide +kernel
theorem d_M_outOfRange_166 : decode m_M_outOfRange.2.1 166 = .ok (.aload_n 0, 1) := by decide +kernel
theorem d_M_outOfRange_167 : decode m_M_outOfRange.2.1 167 = .ok (.getfield 17, 3) := by decide +kernel
theorem d_M_outOfRange_170 : decode m_M_outOfRange.2.1 170 = .ok (.iload_n 1, 1) := by decide +kernel
theorem d_M_outOfRange_171 : decode m_M_outOfRange.2.1 171 = .ok (.iconst 5, 1) := by decide +kernel
theorem d_M_outOfRange_172 : decode m_M_outOfRange.2.1 172 = .ok (.iadd, 1) := by decide +kernel
theorem d_M_outOfRange_173 : decode m_M_outOfRange.2.1 173 = .ok (.iaload, 1) := by decide +kernel
theorem d_M_outOfRange_174 : decode m_M_outOfRange.2.1 174 = .ok (.iconst 3, 1) := by decide +kernel
theorem d_M_outOfRange_175 : decode m_M_outOfRange.2.1 175 = .ok (.if_icmp .gt 16, 3) := by decide +kernel
theorem d_M_outOfRange_178 : decode m_M_outOfRange.2.1 178 = .ok (.aload_n 0, 1) := by decide +kernel
theorem d_M_outOfRange_179 : decode m_M_outOfRange.2.1 179 = .ok (.getfield 17, 3) := by decide +kernel
theorem d_M_outOfRange_182 : decode m_M_outOfRange.2.1 182 = .ok (.iload_n 1, 1) := by decide +kernel
theorem d_M_outOfRange_183 : decode m_M_outOfRange.2.1 183 = .ok (.bipush 6, 2) := by decide +kernel
theorem d_M_outOfRange_185 : decode m_M_outOfRange.2.1 185 = .ok (.iadd, 1) := by decide +kernel
theorem d_M_outOfRange_186 : decode m_M_outOfRange.2.1 186 = .ok (.iaload, 1) := by decide +kernel
theorem d_M_outOfRange_187 : decode m_M_outOfRange.2.1 187 = .ok (.iconst 3, 1) := by decide +kernel
theorem d_M_outOfRange_188 : decode m_M_outOfRange.2.1 188 = .ok (.if_icmp .le 7, 3) := by decide +kernel
theorem d_M_outOfRange_191 : decode m_M_outOfRange.2.1 191 = .ok (.iconst 1, 1) := by decide +kernel
theorem d_M_outOfRange_192 : decode m_M_outOfRange.2.1 192 = .ok (.goto 4, 3) := by decide +kernel
theorem d_M_outOfRange_195 : decode m_M_outOfRange.2.1 195 = .ok (.iconst 0, 1) := by decide +kernel
theorem d_M_outOfRange_196 : decode m_M_outOfRange.2.1 196 = .ok (.ireturn, 1) := by decide +kernel
theorem d_M_outOfRange_197 : decode m_M_outOfRange.2.1 197 = .ok (.iload_n 3, 1) := by decide +kernel
theorem d_M_outOfRange_198 : decode m_M_outOfRange.2.1 198 = .ok (.iconst 3, 1) := by decide +kernel
theorem d_M_outOfRange_199 : decode m_M_outOfRange.2.1 199 = .ok (.if_icmp .le 7, 3) := by decide +kernel
theorem d_M_outOfRange_202 : decode m_M_outOfRange.2.1 202 = .ok (.iconst 1, 1) := by decide +kernel
theorem d_M_outOfRange_203 : decode m_M_outOfRange.2.1 203 = .ok (.goto 4, 3) := by decide +kernel
theorem d_M_outOfRange_206 : decode m_M_outOfRange.2.1 206 = .ok (.iconst 0, 1) := by decide +kernel
theorem d_M_outOfRange_207 : decode m_M_outOfRange.2.1 207 = .ok (.ireturn, 1) := by decide +kernel
theorem d_M_outOfRange_208 : decode m_M_outOfRange.2.1 208 = .ok (.iload_n 3, 1) := by decide +kernel
theorem d_M_outOfRange_209 : decode m_M_outOfRange.2.1 209 = .ok (.iconst 3, 1) := by decide +kernel
theorem d_M_outOfRange_210 : decode m_M_outOfRange.2.1 210 = .ok (.if_icmp .gt 28, 3) := by decide +kernel
theorem d_M_outOfRange_213 : decode m_M_outOfRange.2.1 213 = .ok (.aload_n 0, 1) := by decide +kernel
theorem d_M_outOfRange_214 : decode m_M_outOfRange.2.1 214 = .ok (.getfield 17, 3) := by decide +kernel
theorem d_M_outOfRange_217 : decode m_M_outOfRange.2.1 217 = .ok (.iload_n 1, 1) := by decide +kernel
theorem d_M_outOfRange_218 : decode m_M_outOfRange.2.1 218 = .ok (.iconst 2, 1) := by decide +kernel
theorem d_M_outOfRange_219 : decode m_M_outOfRange.2.1 219 = .ok (.iadd, 1) := by decide +kernel
theorem d_M_outOfRange_220 : decode m_M_outOfRange.2.1 220 = .ok (.iaload, 1) := by decide +kernel
theorem d_M_outOfRange_221 : decode m_M_outOfRange.2.1 221 = .ok (.iconst 3, 1) := by decide +kernel
theorem d_M_outOfRange_222 : decode m_M_outOfRange.2.1 222 = .ok (.if_icmp .eq 16, 3) := by decide +kernel
theorem d_M_outOfRange_225 : decode m_M_outOfRange.2.1 225 = .ok (.aload_n 0, 1) := by decide +kernel
theorem d_M_outOfRange_226 : decode m_M_outOfRange.2.1 226 = .ok (.getfield 17, 3) := by decide +kernel
theorem d_M_outOfRange_229 : decode m_M_outOfRange.2.1 229 = .ok (.iload_n 1, 1) := by decide +kernel
theorem d_M_outOfRange_230 : decode m_M_outOfRange.2.1 230 = .ok (.iconst 2, 1) := by decide +kernel
theorem d_M_outOfRange_231 : decode m_M_outOfRange.2.1 231 = .ok (.iadd, 1) := by decide +kernel
theorem d_M_outOfRange_232 : decode m_M_outOfRange.2.1 232 = .ok (.iaload, 1) := by decide +kernel
theorem d_M_outOfRange_233 : decode m_M_outOfRange.2.1 233 = .ok (.bipush 8, 2) := by decide +kernel
theorem d_M_outOfRange_235 : decode m_M_outOfRange.2.1 235 = .ok (.if_icmp .ne 7, 3) := by decide +kernel
theorem d_M_outOfRange_238 : decode m_M_outOfRange.2.1 238 = .ok (.iconst 1, 1) := by decide +kernel
theorem d_M_outOfRange_239 : decode m_M_outOfRange.2.1 239 = .ok (.goto 4, 3) := by decide +kernel
theorem d_M_outOfRange_242 : decode m_M_outOfRange.2.1 242 = .ok (.iconst 0, 1) := by decide +kernel
theorem d_M_outOfRange_243 : decode m_M_outOfRange.2.1 243 = .ok (.ireturn, 1) := by decide +kernel
theorem d_M_outOfRange_244 : decode m_M_outOfRange.2.1 244 = .ok (.iload_n 3, 1) := by decide +kernel
theorem d_M_outOfRange_245 : decode m_M_outOfRange.2.1 245 = .ok (.iconst 1, 1) := by decide +kernel
theorem d_M_outOfRange_246 : decode m_M_outOfRange.2.1 246 = .ok (.if_icmp .le 7, 3) := by decide +kernel
theorem d_M_outOfRange_249 : decode m_M_outOfRange.2.1 249 = .ok (.iconst 1, 1) := by decide +kernel
theorem d_M_outOfRange_250 : decode m_M_outOfRange.2.1 250 = .ok (.goto 4, 3) := by decide +kernel
theorem d_M_outOfRange_253 : decode m_M_outOfRange.2.1 253 = .ok (.iconst 0, 1) := by decide +kernel
theorem d_M_outOfRange_254 : decode m_M_outOfRange.2.1 254 = .ok (.ireturn, 1) := by decide +kernel
theorem d_M_outOfRange_255 : decode m_M_outOfRange.2.1 255 = .ok (.iconst 0, 1) := by decide +kernel
theorem d_M_outOfRange_256 : decode m_M_outOfRange.2.1 256 = .ok (.ireturn, 1) := by decide +kernel
theorem d_M_parameter_0 : decode m_M_parameter.2.1 0 = .ok (.iload_n 1, 1) := by decide +kernel
theorem d_M_parameter_1 : decode m_M_parameter.2.1 1 = .ok (.ifCond .lt 9, 3) := by decide +kernel
theorem d_M_parameter_4 : decode m_M_parameter.2.1 4 = .ok (.iload_n 1, 1) := by decide +kernel
theorem d_M_parameter_5 : decode m_M_parameter.2.1 5 = .ok (.bipush 7, 2) := by decide +kernel
theorem d_M_parameter_7 : decode m_M_parameter.2.1 7 = .ok (.if_icmp .le 9, 3) := by decide +kernel
theorem d_M_parameter_10 : decode m_M_parameter.2.1 10 = .ok (.sipush (-1000), 3) := by decide +kernel
theorem d_M_parameter_13 : decode m_M_parameter.2.1 13 = .ok (.goto 9, 3) := by decide +kernel
theorem d_M_parameter_16 : decode m_M_parameter.2.1 16 = .ok (.aload_n 0, 1) := by decide +kernel
theorem d_M_parameter_17 : decode m_M_parameter.2.1 17 = .ok (.getfield 69, 3) := by decide +kernel
theorem d_M_parameter_20 : decode m_M_parameter.2.1 20 = .ok (.iload_n 1, 1) := by decide +kernel
theorem d_M_parameter_21 : decode m_M_parameter.2.1 21 = .ok (.iaload, 1) := by decide +kernel
theorem d_M_parameter_22 : decode m_M_parameter.2.1 22 = .ok (.ireturn, 1) := by decide +kernel
theorem d_M_plan_0 : decode m_M_plan.2.1 0 = .ok (.iconst 0, 1) := by decide +kernel
theorem d_M_plan_1 : decode m_M_plan.2.1 1 = .ok (.istore_n 1, 1) := by decide +kernel
theorem d_M_plan_2 : decode m_M_plan.2.1 2 = .ok (.iload_n 1, 1) := by decide +kernel
theorem d_M_plan_3 : decode m_M_plan.2.1 3 = .ok (.iconst 5, 1) := by decide +kernel
theorem d_M_plan_4 : decode m_M_plan.2.1 4 = .ok (.if_icmp .ge 18, 3) := by decide +kernel
theorem d_M_plan_7 : decode m_M_plan.2.1 7 = .ok (.aload_n 0, 1) := by decide +kernel
theorem d_M_plan_8 : decode m_M_plan.2.1 8 = .ok (.getfield 29, 3) := by decide +kernel
theorem d_M_plan_11 : decode m_M_plan.2.1 11 = .ok (.iload_n 1, 1) := by decide +kernel
theorem d_M_plan_12 : decode m_M_plan.2.1 12 = .ok (.iaload, 1) := by decide +kernel
theorem d_M_plan_13 : decode m_M_plan.2.1 13 = .ok (.ifCond .eq 9, 3) := by decide +kernel
theorem d_M_plan_16 : decode m_M_plan.2.1 16 = .ok (.iinc 1 1, 3) := by decide +kernel
theorem d_M_plan_19 : decode m_M_plan.2.1 19 = .ok (.goto (-17), 3) := by decide +kernel
theorem d_M_plan_22 : decode m_M_plan.2.1 22 = .ok (.aload_n 0, 1) := by decide +kernel
theorem d_M_plan_23 : decode m_M_plan.2.1 23 = .ok (.dup, 1) := by decide +kernel
theorem d_M_plan_24 : decode m_M_plan.2.1 24 = .ok (.getfield 113, 3) := by decide +kernel
theorem d_M_plan_27 : decode m_M_plan.2.1 27 = .ok (.iconst 1, 1) := by decide +kernel
theorem d_M_plan_28 : decode m_M_plan.2.1 28 = .ok (.iadd, 1) := by decide +kernel
theorem d_M_plan_29 : decode m_M_plan.2.1 29 = .ok (.putfield 113, 3) := by decide +kernel
theorem d_M_plan_32 : decode m_M_plan.2.1 32 = .ok (.aload_n 0, 1) := by decide +kernel
theorem d_M_plan_33 : decode m_M_plan.2.1 33 = .ok (.getfield 29, 3) := by decide +kernel
theorem d_M_plan_36 : decode m_M_plan.2.1 36 = .ok (.iload_n 1, 1) := by decide +kernel
theorem d_M_plan_37 : decode m_M_plan.2.1 37 = .ok (.aload_n 0, 1) := by decide +kernel
theorem d_M_plan_38 : decode m_M_plan.2.1 38 = .ok (.getfield 113, 3) := by decide +kernel
theorem d_M_plan_41 : decode m_M_plan.2.1 41 = .ok (.iastore, 1) := by decide +kernel
theorem d_M_plan_42 : decode m_M_plan.2.1 42 = .ok (.aload_n 0, 1) := by decide +kernel
theorem d_M_plan_43 : decode m_M_plan.2.1 43 = .ok (.getfield 26, 3) := by decide +kernel
theorem d_M_plan_46 : decode m_M_plan.2.1 46 = .ok (.iload_n 1, 1) := by decide +kernel
theorem d_M_plan_47 : decode m_M_plan.2.1 47 = .ok (.aload_n 0, 1) := by decide +kernel
theorem d_M_plan_48 : decode m_M_plan.2.1 48 = .ok (.getfield 17, 3) := by decide +kernel
theorem d_M_plan_51 : decode m_M_plan.2.1 51 = .ok (.iconst 1, 1) := by decide +kernel
theorem d_M_plan_52 : decode m_M_plan.2.1 52 = .ok (.iaload, 1) := by decide +kernel
theorem d_M_plan_53 : decode m_M_plan.2.1 53 = .ok (.sipush 256, 3) := by decide +kernel
theorem d_M_plan_56 : decode m_M_plan.2.1 56 = .ok (.imul, 1) := by decide +kernel
theorem d_M_plan_57 : decode m_M_plan.2.1 57 = .ok (.aload_n 0, 1) := by decide +kernel
theorem d_M_plan_58 : decode m_M_plan.2.1 58 = .ok (.getfield 17, 3) := by decide +kernel
theorem d_M_plan_61 : decode m_M_plan.2.1 61 = .ok (.iconst 2, 1) := by decide +kernel
theorem d_M_plan_62 : decode m_M_plan.2.1 62 = .ok (.iaload, 1) := by decide +kernel
theorem d_M_plan_63 : decode m_M_plan.2.1 63 = .ok (.iadd, 1) := by decide +kernel
theorem d_M_plan_64 : decode m_M_plan.2.1 64 = .ok (.iastore, 1) := by decide +kernel
theorem d_M_plan_65 : decode m_M_plan.2.1 65 = .ok (.aload_n 0, 1) := by decide +kernel
theorem d_M_plan_66 : decode m_M_plan.2.1 66 = .ok (.getfield 23, 3) := by decide +kernel
theorem d_M_plan_69 : decode m_M_plan.2.1 69 = .ok (.iload_n 1, 1) := by decide +kernel
theorem d_M_plan_70 : decode m_M_plan.2.1 70 = .ok (.aload_n 0, 1) := by decide +kernel
theorem d_M_plan_71 : decode m_M_plan.2.1 71 = .ok (.getfield 91, 3) := by decide +kernel
theorem d_M_plan_74 : decode m_M_plan.2.1 74 = .ok (.iconst 3, 1) := by decide +kernel
theorem d_M_plan_75 : decode m_M_plan.2.1 75 = .ok (.isub, 1) := by decide +kernel
theorem d_M_plan_76 : decode m_M_plan.2.1 76 = .ok (.iastore, 1) := by decide +kernel
theorem d_M_plan_77 : decode m_M_plan.2.1 77 = .ok (.iconst 3, 1) := by decide +kernel
theorem d_M_plan_78 : decode m_M_plan.2.1 78 = .ok (.istore_n 2, 1) := by decide +kernel
theorem d_M_plan_79 : decode m_M_plan.2.1 79 = .ok (.iload_n 2, 1) := by decide +kernel
theorem d_M_plan_80 : decode m_M_plan.2.1 80 = .ok (.aload_n 0, 1) := by decide +kernel
theorem d_M_plan_81 : decode m_M_plan.2.1 81 = .ok (.getfield 91, 3) := by decide +kernel
theorem d_M_plan_84 : decode m_M_plan.2.1 84 = .ok (.if_icmp .ge 28, 3) := by decide +kernel
theorem d_M_plan_87 : decode m_M_plan.2.1 87 = .ok (.aload_n 0, 1) := by decide +kernel
theorem d_M_plan_88 : decode m_M_plan.2.1 88 = .ok (.getfield 20, 3) := by decide +kernel
theorem d_M_plan_91 : decode m_M_plan.2.1 91 = .ok (.bipush 12, 2) := by decide +kernel
theorem d_M_plan_93 : decode m_M_plan.2.1 93 = .ok (.iload_n 1, 1) := by decide +kernel
theorem d_M_plan_94 : decode m_M_plan.2.1 94 = .ok (.imul, 1) := by decide +kernel
theorem d_M_plan_95 : decode m_M_plan.2.1 95 = .ok (.iload_n 2, 1) := by decide +kernel
theorem d_M_plan_96 : decode m_M_plan.2.1 96 = .ok (.iadd, 1) := by decide +kernel
theorem d_M_plan_97 : decode m_M_plan.2.1 97 = .ok (.iconst 3, 1) := by decide +kernel
theorem d_M_plan_98 : decode m_M_plan.2.1 98 = .ok (.isub, 1) := by decide +kernel
theorem d_M_plan_99 : decode m_M_plan.2.1 99 = .ok (.aload_n 0, 1) := by decide +kernel
theorem d_M_plan_100 : decode m_M_plan.2.1 100 = .ok (.getfield 17, 3) := by decide +kernel
theorem d_M_plan_103 : decode m_M_plan.2.1 103 = .ok (.iload_n 2, 1) := by decide +kernel
theorem d_M_plan_104 : decode m_M_plan.2.1 104 = .ok (.iaload, 1) := by decide +kernel
theorem d_M_plan_105 : decode m_M_plan.2.1 105 = .ok (.iastore, 1) := by decide +kernel
theorem d_M_plan_106 : decode m_M_plan.2.1 106 = .ok (.iinc 2 1, 3) := by decide +kernel
theorem d_M_plan_109 : decode m_M_plan.2.1 109 = .ok (.goto (-30), 3) := by decide +kernel
theorem d_M_plan_112 : decode m_M_plan.2.1 112 = .ok (.return_, 1) := by decide +kernel
theorem d_M_planned_0 : decode m_M_planned.2.1 0 = .ok (.aload_n 0, 1) := by decide +kernel
theorem d_M_planned_1 : decode m_M_planned.2.1 1 = .ok (.iconst 0, 1) := by decide +kernel
theorem d_M_planned_2 : decode m_M_planned.2.1 2 = .ok (.iload_n 1, 1) := by decide +kernel
theorem d_M_planned_3 : decode m_M_planned.2.1 3 = .ok (.invokevirtual 168, 3) := by decide +kernel
theorem d_M_planned_6 : decode m_M_planned.2.1 6 = .ok (.istore_n 2, 1) := by decide +kernel
theorem d_M_planned_7 : decode m_M_planned.2.1 7 = .ok (.iload_n 2, 1) := by decide +kernel
theorem d_M_planned_8 : decode m_M_planned.2.1 8 = .ok (.bipush 6, 2) := by decide +kernel
theorem d_M_planned_10 : decode m_M_planned.2.1 10 = .ok (.if_icmp .ne 9, 3) := by decide +kernel
theorem d_M_planned_13 : decode m_M_planned.2.1 13 = .ok (.sipush (-1000), 3) := by decide +kernel
theorem d_M_planned_16 : decode m_M_planned.2.1 16 = .ok (.goto 9, 3) := by decide +kernel
theorem d_M_planned_19 : decode m_M_planned.2.1 19 = .ok (.aload_n 0, 1) := by decide +kernel
theorem d_M_planned_20 : decode m_M_planned.2.1 20 = .ok (.getfield 26, 3) := by decide +kernel
theorem d_M_planned_23 : decode m_M_planned.2.1 23 = .ok (.iload_n 2, 1) := by decide +kernel
theorem d_M_planned_24 : decode m_M_planned.2.1 24 = .ok (.iaload, 1) := by decide +kernel
theorem d_M_planned_25 : decode m_M_planned.2.1 25 = .ok (.ireturn, 1) := by decide +kernel
