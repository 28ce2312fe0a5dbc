/-! decode rows, by wip/whole/gen_facts.py -/
theorem d_zs_init_0 : decode m_zs_init.2.1 0 = .ok (.aload_n 0, 1) := by decide +kernel
theorem d_zs_init_1 : decode m_zs_init.2.1 1 = .ok (.invokespecial 3, 3) := by decide +kernel
theorem d_zs_init_4 : decode m_zs_init.2.1 4 = .ok (.aload_n 0, 1) := by decide +kernel
theorem d_zs_init_5 : decode m_zs_init.2.1 5 = .ok (.iconst 3, 1) := by decide +kernel
theorem d_zs_init_6 : decode m_zs_init.2.1 6 = .ok (.anewarray 9, 3) := by decide +kernel
theorem d_zs_init_9 : decode m_zs_init.2.1 9 = .ok (.putfield 11, 3) := by decide +kernel
theorem d_zs_init_12 : decode m_zs_init.2.1 12 = .ok (.aload_n 0, 1) := by decide +kernel
theorem d_zs_init_13 : decode m_zs_init.2.1 13 = .ok (.iconst 4, 1) := by decide +kernel
theorem d_zs_init_14 : decode m_zs_init.2.1 14 = .ok (.anewarray 15, 3) := by decide +kernel
theorem d_zs_init_17 : decode m_zs_init.2.1 17 = .ok (.putfield 17, 3) := by decide +kernel
theorem d_zs_init_20 : decode m_zs_init.2.1 20 = .ok (.aload_n 0, 1) := by decide +kernel
theorem d_zs_init_21 : decode m_zs_init.2.1 21 = .ok (.new 21, 3) := by decide +kernel
theorem d_zs_init_24 : decode m_zs_init.2.1 24 = .ok (.dup, 1) := by decide +kernel
theorem d_zs_init_25 : decode m_zs_init.2.1 25 = .ok (.invokespecial 23, 3) := by decide +kernel
theorem d_zs_init_28 : decode m_zs_init.2.1 28 = .ok (.putfield 24, 3) := by decide +kernel
theorem d_zs_init_31 : decode m_zs_init.2.1 31 = .ok (.aload_n 0, 1) := by decide +kernel
theorem d_zs_init_32 : decode m_zs_init.2.1 32 = .ok (.iconst 0, 1) := by decide +kernel
theorem d_zs_init_33 : decode m_zs_init.2.1 33 = .ok (.putfield 28, 3) := by decide +kernel
theorem d_zs_init_36 : decode m_zs_init.2.1 36 = .ok (.aload_n 0, 1) := by decide +kernel
theorem d_zs_init_37 : decode m_zs_init.2.1 37 = .ok (.iconst 1, 1) := by decide +kernel
theorem d_zs_init_38 : decode m_zs_init.2.1 38 = .ok (.putfield 32, 3) := by decide +kernel
theorem d_zs_init_41 : decode m_zs_init.2.1 41 = .ok (.aload_n 0, 1) := by decide +kernel
theorem d_zs_init_42 : decode m_zs_init.2.1 42 = .ok (.iconst 0, 1) := by decide +kernel
theorem d_zs_init_43 : decode m_zs_init.2.1 43 = .ok (.putfield 35, 3) := by decide +kernel
theorem d_zs_init_46 : decode m_zs_init.2.1 46 = .ok (.iconst 0, 1) := by decide +kernel
theorem d_zs_init_47 : decode m_zs_init.2.1 47 = .ok (.istore_n 1, 1) := by decide +kernel
theorem d_zs_init_48 : decode m_zs_init.2.1 48 = .ok (.iload_n 1, 1) := by decide +kernel
theorem d_zs_init_49 : decode m_zs_init.2.1 49 = .ok (.iconst 3, 1) := by decide +kernel
theorem d_zs_init_50 : decode m_zs_init.2.1 50 = .ok (.if_icmp .ge (22), 3) := by decide +kernel
theorem d_zs_init_53 : decode m_zs_init.2.1 53 = .ok (.aload_n 0, 1) := by decide +kernel
theorem d_zs_init_54 : decode m_zs_init.2.1 54 = .ok (.getfield 11, 3) := by decide +kernel
theorem d_zs_init_57 : decode m_zs_init.2.1 57 = .ok (.iload_n 1, 1) := by decide +kernel
theorem d_zs_init_58 : decode m_zs_init.2.1 58 = .ok (.new 9, 3) := by decide +kernel
theorem d_zs_init_61 : decode m_zs_init.2.1 61 = .ok (.dup, 1) := by decide +kernel
theorem d_zs_init_62 : decode m_zs_init.2.1 62 = .ok (.invokespecial 38, 3) := by decide +kernel
theorem d_zs_init_65 : decode m_zs_init.2.1 65 = .ok (.aastore, 1) := by decide +kernel
theorem d_zs_init_66 : decode m_zs_init.2.1 66 = .ok (.iinc 1 1, 3) := by decide +kernel
theorem d_zs_init_69 : decode m_zs_init.2.1 69 = .ok (.goto (-21), 3) := by decide +kernel
theorem d_zs_init_72 : decode m_zs_init.2.1 72 = .ok (.iconst 0, 1) := by decide +kernel
theorem d_zs_init_73 : decode m_zs_init.2.1 73 = .ok (.istore_n 1, 1) := by decide +kernel
theorem d_zs_init_74 : decode m_zs_init.2.1 74 = .ok (.iload_n 1, 1) := by decide +kernel
theorem d_zs_init_75 : decode m_zs_init.2.1 75 = .ok (.iconst 4, 1) := by decide +kernel
theorem d_zs_init_76 : decode m_zs_init.2.1 76 = .ok (.if_icmp .ge (22), 3) := by decide +kernel
theorem d_zs_init_79 : decode m_zs_init.2.1 79 = .ok (.aload_n 0, 1) := by decide +kernel
theorem d_zs_init_80 : decode m_zs_init.2.1 80 = .ok (.getfield 17, 3) := by decide +kernel
theorem d_zs_init_83 : decode m_zs_init.2.1 83 = .ok (.iload_n 1, 1) := by decide +kernel
theorem d_zs_init_84 : decode m_zs_init.2.1 84 = .ok (.new 15, 3) := by decide +kernel
theorem d_zs_init_87 : decode m_zs_init.2.1 87 = .ok (.dup, 1) := by decide +kernel
theorem d_zs_init_88 : decode m_zs_init.2.1 88 = .ok (.invokespecial 39, 3) := by decide +kernel
theorem d_zs_init_91 : decode m_zs_init.2.1 91 = .ok (.aastore, 1) := by decide +kernel
theorem d_zs_init_92 : decode m_zs_init.2.1 92 = .ok (.iinc 1 1, 3) := by decide +kernel
theorem d_zs_init_95 : decode m_zs_init.2.1 95 = .ok (.goto (-21), 3) := by decide +kernel
theorem d_zs_init_98 : decode m_zs_init.2.1 98 = .ok (.return_, 1) := by decide +kernel
theorem d_zs_open_0 : decode m_zs_open.2.1 0 = .ok (.iload_n 1, 1) := by decide +kernel
theorem d_zs_open_1 : decode m_zs_open.2.1 1 = .ok (.invokestatic 40, 3) := by decide +kernel
theorem d_zs_open_4 : decode m_zs_open.2.1 4 = .ok (.iload_n 2, 1) := by decide +kernel
theorem d_zs_open_5 : decode m_zs_open.2.1 5 = .ok (.invokestatic 44, 3) := by decide +kernel
theorem d_zs_open_8 : decode m_zs_open.2.1 8 = .ok (.iload_n 3, 1) := by decide +kernel
theorem d_zs_open_9 : decode m_zs_open.2.1 9 = .ok (.iconst 1, 1) := by decide +kernel
theorem d_zs_open_10 : decode m_zs_open.2.1 10 = .ok (.bipush 50, 2) := by decide +kernel
theorem d_zs_open_12 : decode m_zs_open.2.1 12 = .ok (.invokestatic 47, 3) := by decide +kernel
theorem d_zs_open_15 : decode m_zs_open.2.1 15 = .ok (.aload_n 0, 1) := by decide +kernel
theorem d_zs_open_16 : decode m_zs_open.2.1 16 = .ok (.getfield 17, 3) := by decide +kernel
theorem d_zs_open_19 : decode m_zs_open.2.1 19 = .ok (.iload_n 1, 1) := by decide +kernel
theorem d_zs_open_20 : decode m_zs_open.2.1 20 = .ok (.aaload, 1) := by decide +kernel
theorem d_zs_open_21 : decode m_zs_open.2.1 21 = .ok (.astore 4, 2) := by decide +kernel
theorem d_zs_open_23 : decode m_zs_open.2.1 23 = .ok (.aload 4, 2) := by decide +kernel
theorem d_zs_open_25 : decode m_zs_open.2.1 25 = .ok (.getfield 51, 3) := by decide +kernel
theorem d_zs_open_28 : decode m_zs_open.2.1 28 = .ok (.ifCond .ne (26), 3) := by decide +kernel
theorem d_zs_open_31 : decode m_zs_open.2.1 31 = .ok (.aload 4, 2) := by decide +kernel
theorem d_zs_open_33 : decode m_zs_open.2.1 33 = .ok (.getfield 55, 3) := by decide +kernel
theorem d_zs_open_36 : decode m_zs_open.2.1 36 = .ok (.ifCond .ne (18), 3) := by decide +kernel
theorem d_zs_open_39 : decode m_zs_open.2.1 39 = .ok (.aload_n 0, 1) := by decide +kernel
theorem d_zs_open_40 : decode m_zs_open.2.1 40 = .ok (.iload_n 2, 1) := by decide +kernel
theorem d_zs_open_41 : decode m_zs_open.2.1 41 = .ok (.invokevirtual 58, 3) := by decide +kernel
theorem d_zs_open_44 : decode m_zs_open.2.1 44 = .ok (.ifCond .eq (10), 3) := by decide +kernel
theorem d_zs_open_47 : decode m_zs_open.2.1 47 = .ok (.aload_n 0, 1) := by decide +kernel
theorem d_zs_open_48 : decode m_zs_open.2.1 48 = .ok (.invokevirtual 62, 3) := by decide +kernel
theorem d_zs_open_51 : decode m_zs_open.2.1 51 = .ok (.ifCond .ne (11), 3) := by decide +kernel
theorem d_zs_open_54 : decode m_zs_open.2.1 54 = .ok (.new 66, 3) := by decide +kernel
theorem d_zs_open_57 : decode m_zs_open.2.1 57 = .ok (.dup, 1) := by decide +kernel
theorem d_zs_open_58 : decode m_zs_open.2.1 58 = .ok (.invokespecial 68, 3) := by decide +kernel
theorem d_zs_open_61 : decode m_zs_open.2.1 61 = .ok (.athrow, 1) := by decide +kernel
theorem d_zs_open_62 : decode m_zs_open.2.1 62 = .ok (.aload 4, 2) := by decide +kernel
theorem d_zs_open_64 : decode m_zs_open.2.1 64 = .ok (.iload_n 2, 1) := by decide +kernel
theorem d_zs_open_65 : decode m_zs_open.2.1 65 = .ok (.iload_n 3, 1) := by decide +kernel
theorem d_zs_open_66 : decode m_zs_open.2.1 66 = .ok (.aload_n 0, 1) := by decide +kernel
theorem d_zs_open_67 : decode m_zs_open.2.1 67 = .ok (.getfield 35, 3) := by decide +kernel
theorem d_zs_open_70 : decode m_zs_open.2.1 70 = .ok (.invokevirtual 69, 3) := by decide +kernel
theorem d_zs_open_73 : decode m_zs_open.2.1 73 = .ok (.aload_n 0, 1) := by decide +kernel
theorem d_zs_open_74 : decode m_zs_open.2.1 74 = .ok (.getfield 35, 3) := by decide +kernel
theorem d_zs_open_77 : decode m_zs_open.2.1 77 = .ok (.iload_n 3, 1) := by decide +kernel
theorem d_zs_open_78 : decode m_zs_open.2.1 78 = .ok (.iadd, 1) := by decide +kernel
theorem d_zs_open_79 : decode m_zs_open.2.1 79 = .ok (.ireturn, 1) := by decide +kernel
theorem d_zs_requireSession_0 : decode m_zs_requireSession.2.1 0 = .ok (.iload_n 0, 1) := by decide +kernel
theorem d_zs_requireSession_1 : decode m_zs_requireSession.2.1 1 = .ok (.iconst 0, 1) := by decide +kernel
theorem d_zs_requireSession_2 : decode m_zs_requireSession.2.1 2 = .ok (.iconst 3, 1) := by decide +kernel
theorem d_zs_requireSession_3 : decode m_zs_requireSession.2.1 3 = .ok (.invokestatic 47, 3) := by decide +kernel
theorem d_zs_requireSession_6 : decode m_zs_requireSession.2.1 6 = .ok (.return_, 1) := by decide +kernel
theorem d_zs_requireRange_0 : decode m_zs_requireRange.2.1 0 = .ok (.iload_n 0, 1) := by decide +kernel
theorem d_zs_requireRange_1 : decode m_zs_requireRange.2.1 1 = .ok (.iload_n 1, 1) := by decide +kernel
theorem d_zs_requireRange_2 : decode m_zs_requireRange.2.1 2 = .ok (.if_icmp .lt (8), 3) := by decide +kernel
theorem d_zs_requireRange_5 : decode m_zs_requireRange.2.1 5 = .ok (.iload_n 0, 1) := by decide +kernel
theorem d_zs_requireRange_6 : decode m_zs_requireRange.2.1 6 = .ok (.iload_n 2, 1) := by decide +kernel
theorem d_zs_requireRange_7 : decode m_zs_requireRange.2.1 7 = .ok (.if_icmp .le (11), 3) := by decide +kernel
theorem d_zs_requireRange_10 : decode m_zs_requireRange.2.1 10 = .ok (.new 217, 3) := by decide +kernel
theorem d_zs_requireRange_13 : decode m_zs_requireRange.2.1 13 = .ok (.dup, 1) := by decide +kernel
theorem d_zs_requireRange_14 : decode m_zs_requireRange.2.1 14 = .ok (.invokespecial 219, 3) := by decide +kernel
theorem d_zs_requireRange_17 : decode m_zs_requireRange.2.1 17 = .ok (.athrow, 1) := by decide +kernel
theorem d_zs_requireRange_18 : decode m_zs_requireRange.2.1 18 = .ok (.return_, 1) := by decide +kernel
theorem d_zs_requireServer_0 : decode m_zs_requireServer.2.1 0 = .ok (.iload_n 0, 1) := by decide +kernel
theorem d_zs_requireServer_1 : decode m_zs_requireServer.2.1 1 = .ok (.iconst 0, 1) := by decide +kernel
theorem d_zs_requireServer_2 : decode m_zs_requireServer.2.1 2 = .ok (.iconst 2, 1) := by decide +kernel
theorem d_zs_requireServer_3 : decode m_zs_requireServer.2.1 3 = .ok (.invokestatic 47, 3) := by decide +kernel
theorem d_zs_requireServer_6 : decode m_zs_requireServer.2.1 6 = .ok (.return_, 1) := by decide +kernel
theorem d_zs_isLinked_0 : decode m_zs_isLinked.2.1 0 = .ok (.aload_n 0, 1) := by decide +kernel
theorem d_zs_isLinked_1 : decode m_zs_isLinked.2.1 1 = .ok (.getfield 28, 3) := by decide +kernel
theorem d_zs_isLinked_4 : decode m_zs_isLinked.2.1 4 = .ok (.iconst (-1), 1) := by decide +kernel
theorem d_zs_isLinked_5 : decode m_zs_isLinked.2.1 5 = .ok (.if_icmp .eq (34), 3) := by decide +kernel
theorem d_zs_isLinked_8 : decode m_zs_isLinked.2.1 8 = .ok (.aload_n 0, 1) := by decide +kernel
theorem d_zs_isLinked_9 : decode m_zs_isLinked.2.1 9 = .ok (.getfield 11, 3) := by decide +kernel
theorem d_zs_isLinked_12 : decode m_zs_isLinked.2.1 12 = .ok (.aload_n 0, 1) := by decide +kernel
theorem d_zs_isLinked_13 : decode m_zs_isLinked.2.1 13 = .ok (.getfield 28, 3) := by decide +kernel
theorem d_zs_isLinked_16 : decode m_zs_isLinked.2.1 16 = .ok (.aaload, 1) := by decide +kernel
theorem d_zs_isLinked_17 : decode m_zs_isLinked.2.1 17 = .ok (.invokevirtual 191, 3) := by decide +kernel
theorem d_zs_isLinked_20 : decode m_zs_isLinked.2.1 20 = .ok (.ifCond .eq (19), 3) := by decide +kernel
theorem d_zs_isLinked_23 : decode m_zs_isLinked.2.1 23 = .ok (.aload_n 0, 1) := by decide +kernel
theorem d_zs_isLinked_24 : decode m_zs_isLinked.2.1 24 = .ok (.getfield 11, 3) := by decide +kernel
theorem d_zs_isLinked_27 : decode m_zs_isLinked.2.1 27 = .ok (.iload_n 1, 1) := by decide +kernel
theorem d_zs_isLinked_28 : decode m_zs_isLinked.2.1 28 = .ok (.aaload, 1) := by decide +kernel
theorem d_zs_isLinked_29 : decode m_zs_isLinked.2.1 29 = .ok (.invokevirtual 191, 3) := by decide +kernel
theorem d_zs_isLinked_32 : decode m_zs_isLinked.2.1 32 = .ok (.ifCond .eq (7), 3) := by decide +kernel
theorem d_zs_isLinked_35 : decode m_zs_isLinked.2.1 35 = .ok (.iconst 1, 1) := by decide +kernel
theorem d_zs_isLinked_36 : decode m_zs_isLinked.2.1 36 = .ok (.goto 4, 3) := by decide +kernel
theorem d_zs_isLinked_39 : decode m_zs_isLinked.2.1 39 = .ok (.iconst 0, 1) := by decide +kernel
theorem d_zs_isLinked_40 : decode m_zs_isLinked.2.1 40 = .ok (.ireturn, 1) := by decide +kernel
theorem d_zs_hasQuorum_0 : decode m_zs_hasQuorum.2.1 0 = .ok (.iconst 0, 1) := by decide +kernel
theorem d_zs_hasQuorum_1 : decode m_zs_hasQuorum.2.1 1 = .ok (.istore_n 1, 1) := by decide +kernel
theorem d_zs_hasQuorum_2 : decode m_zs_hasQuorum.2.1 2 = .ok (.iconst 0, 1) := by decide +kernel
theorem d_zs_hasQuorum_3 : decode m_zs_hasQuorum.2.1 3 = .ok (.istore_n 2, 1) := by decide +kernel
theorem d_zs_hasQuorum_4 : decode m_zs_hasQuorum.2.1 4 = .ok (.iload_n 2, 1) := by decide +kernel
theorem d_zs_hasQuorum_5 : decode m_zs_hasQuorum.2.1 5 = .ok (.iconst 3, 1) := by decide +kernel
theorem d_zs_hasQuorum_6 : decode m_zs_hasQuorum.2.1 6 = .ok (.if_icmp .ge (20), 3) := by decide +kernel
theorem d_zs_hasQuorum_9 : decode m_zs_hasQuorum.2.1 9 = .ok (.aload_n 0, 1) := by decide +kernel
theorem d_zs_hasQuorum_10 : decode m_zs_hasQuorum.2.1 10 = .ok (.iload_n 2, 1) := by decide +kernel
theorem d_zs_hasQuorum_11 : decode m_zs_hasQuorum.2.1 11 = .ok (.invokevirtual 58, 3) := by decide +kernel
theorem d_zs_hasQuorum_14 : decode m_zs_hasQuorum.2.1 14 = .ok (.ifCond .eq (6), 3) := by decide +kernel
theorem d_zs_hasQuorum_17 : decode m_zs_hasQuorum.2.1 17 = .ok (.iinc 1 1, 3) := by decide +kernel
theorem d_zs_hasQuorum_20 : decode m_zs_hasQuorum.2.1 20 = .ok (.iinc 2 1, 3) := by decide +kernel
theorem d_zs_hasQuorum_23 : decode m_zs_hasQuorum.2.1 23 = .ok (.goto (-19), 3) := by decide +kernel
theorem d_zs_hasQuorum_26 : decode m_zs_hasQuorum.2.1 26 = .ok (.iload_n 1, 1) := by decide +kernel
theorem d_zs_hasQuorum_27 : decode m_zs_hasQuorum.2.1 27 = .ok (.iconst 2, 1) := by decide +kernel
theorem d_zs_hasQuorum_28 : decode m_zs_hasQuorum.2.1 28 = .ok (.if_icmp .lt (7), 3) := by decide +kernel
theorem d_zs_hasQuorum_31 : decode m_zs_hasQuorum.2.1 31 = .ok (.iconst 1, 1) := by decide +kernel
theorem d_zs_hasQuorum_32 : decode m_zs_hasQuorum.2.1 32 = .ok (.goto 4, 3) := by decide +kernel
theorem d_zs_hasQuorum_35 : decode m_zs_hasQuorum.2.1 35 = .ok (.iconst 0, 1) := by decide +kernel
theorem d_zs_hasQuorum_36 : decode m_zs_hasQuorum.2.1 36 = .ok (.ireturn, 1) := by decide +kernel
theorem d_zs_close_0 : decode m_zs_close.2.1 0 = .ok (.iload_n 1, 1) := by decide +kernel
theorem d_zs_close_1 : decode m_zs_close.2.1 1 = .ok (.invokestatic 40, 3) := by decide +kernel
theorem d_zs_close_4 : decode m_zs_close.2.1 4 = .ok (.aload_n 0, 1) := by decide +kernel
theorem d_zs_close_5 : decode m_zs_close.2.1 5 = .ok (.iload_n 1, 1) := by decide +kernel
theorem d_zs_close_6 : decode m_zs_close.2.1 6 = .ok (.invokevirtual 72, 3) := by decide +kernel
theorem d_zs_close_9 : decode m_zs_close.2.1 9 = .ok (.aload_n 0, 1) := by decide +kernel
theorem d_zs_close_10 : decode m_zs_close.2.1 10 = .ok (.invokevirtual 75, 3) := by decide +kernel
theorem d_zs_close_13 : decode m_zs_close.2.1 13 = .ok (.aload_n 0, 1) := by decide +kernel
theorem d_zs_close_14 : decode m_zs_close.2.1 14 = .ok (.getfield 24, 3) := by decide +kernel
theorem d_zs_close_17 : decode m_zs_close.2.1 17 = .ok (.iload_n 1, 1) := by decide +kernel
theorem d_zs_close_18 : decode m_zs_close.2.1 18 = .ok (.invokevirtual 78, 3) := by decide +kernel
theorem d_zs_close_21 : decode m_zs_close.2.1 21 = .ok (.istore_n 2, 1) := by decide +kernel
theorem d_zs_close_22 : decode m_zs_close.2.1 22 = .ok (.aload_n 0, 1) := by decide +kernel
theorem d_zs_close_23 : decode m_zs_close.2.1 23 = .ok (.getfield 17, 3) := by decide +kernel
theorem d_zs_close_26 : decode m_zs_close.2.1 26 = .ok (.iload_n 1, 1) := by decide +kernel
theorem d_zs_close_27 : decode m_zs_close.2.1 27 = .ok (.aaload, 1) := by decide +kernel
theorem d_zs_close_28 : decode m_zs_close.2.1 28 = .ok (.invokevirtual 82, 3) := by decide +kernel
theorem d_zs_close_31 : decode m_zs_close.2.1 31 = .ok (.aload_n 0, 1) := by decide +kernel
theorem d_zs_close_32 : decode m_zs_close.2.1 32 = .ok (.invokevirtual 85, 3) := by decide +kernel
theorem d_zs_close_35 : decode m_zs_close.2.1 35 = .ok (.iload_n 2, 1) := by decide +kernel
theorem d_zs_close_36 : decode m_zs_close.2.1 36 = .ok (.ireturn, 1) := by decide +kernel
theorem d_zs_requireReach_0 : decode m_zs_requireReach.2.1 0 = .ok (.aload_n 0, 1) := by decide +kernel
theorem d_zs_requireReach_1 : decode m_zs_requireReach.2.1 1 = .ok (.getfield 17, 3) := by decide +kernel
theorem d_zs_requireReach_4 : decode m_zs_requireReach.2.1 4 = .ok (.iload_n 1, 1) := by decide +kernel
theorem d_zs_requireReach_5 : decode m_zs_requireReach.2.1 5 = .ok (.aaload, 1) := by decide +kernel
theorem d_zs_requireReach_6 : decode m_zs_requireReach.2.1 6 = .ok (.astore_n 2, 1) := by decide +kernel
theorem d_zs_requireReach_7 : decode m_zs_requireReach.2.1 7 = .ok (.aload_n 2, 1) := by decide +kernel
theorem d_zs_requireReach_8 : decode m_zs_requireReach.2.1 8 = .ok (.getfield 51, 3) := by decide +kernel
theorem d_zs_requireReach_11 : decode m_zs_requireReach.2.1 11 = .ok (.ifCond .eq (44), 3) := by decide +kernel
theorem d_zs_requireReach_14 : decode m_zs_requireReach.2.1 14 = .ok (.aload_n 0, 1) := by decide +kernel
theorem d_zs_requireReach_15 : decode m_zs_requireReach.2.1 15 = .ok (.getfield 11, 3) := by decide +kernel
theorem d_zs_requireReach_18 : decode m_zs_requireReach.2.1 18 = .ok (.aload_n 2, 1) := by decide +kernel
theorem d_zs_requireReach_19 : decode m_zs_requireReach.2.1 19 = .ok (.getfield 100, 3) := by decide +kernel
theorem d_zs_requireReach_22 : decode m_zs_requireReach.2.1 22 = .ok (.aaload, 1) := by decide +kernel
theorem d_zs_requireReach_23 : decode m_zs_requireReach.2.1 23 = .ok (.getfield 97, 3) := by decide +kernel
theorem d_zs_requireReach_26 : decode m_zs_requireReach.2.1 26 = .ok (.ifCond .eq (29), 3) := by decide +kernel
theorem d_zs_requireReach_29 : decode m_zs_requireReach.2.1 29 = .ok (.aload_n 0, 1) := by decide +kernel
theorem d_zs_requireReach_30 : decode m_zs_requireReach.2.1 30 = .ok (.aload_n 2, 1) := by decide +kernel
theorem d_zs_requireReach_31 : decode m_zs_requireReach.2.1 31 = .ok (.getfield 100, 3) := by decide +kernel
theorem d_zs_requireReach_34 : decode m_zs_requireReach.2.1 34 = .ok (.invokevirtual 58, 3) := by decide +kernel
theorem d_zs_requireReach_37 : decode m_zs_requireReach.2.1 37 = .ok (.ifCond .ne (14), 3) := by decide +kernel
theorem d_zs_requireReach_40 : decode m_zs_requireReach.2.1 40 = .ok (.aload_n 2, 1) := by decide +kernel
theorem d_zs_requireReach_41 : decode m_zs_requireReach.2.1 41 = .ok (.getfield 100, 3) := by decide +kernel
theorem d_zs_requireReach_44 : decode m_zs_requireReach.2.1 44 = .ok (.aload_n 0, 1) := by decide +kernel
theorem d_zs_requireReach_45 : decode m_zs_requireReach.2.1 45 = .ok (.getfield 28, 3) := by decide +kernel
theorem d_zs_requireReach_48 : decode m_zs_requireReach.2.1 48 = .ok (.if_icmp .ne (7), 3) := by decide +kernel
theorem d_zs_requireReach_51 : decode m_zs_requireReach.2.1 51 = .ok (.iconst 1, 1) := by decide +kernel
theorem d_zs_requireReach_52 : decode m_zs_requireReach.2.1 52 = .ok (.goto 4, 3) := by decide +kernel
theorem d_zs_requireReach_55 : decode m_zs_requireReach.2.1 55 = .ok (.iconst 0, 1) := by decide +kernel
theorem d_zs_requireReach_56 : decode m_zs_requireReach.2.1 56 = .ok (.istore_n 3, 1) := by decide +kernel
theorem d_zs_requireReach_57 : decode m_zs_requireReach.2.1 57 = .ok (.iload_n 3, 1) := by decide +kernel
theorem d_zs_requireReach_58 : decode m_zs_requireReach.2.1 58 = .ok (.ifCond .ne (11), 3) := by decide +kernel
theorem d_zs_requireReach_61 : decode m_zs_requireReach.2.1 61 = .ok (.new 66, 3) := by decide +kernel
theorem d_zs_requireReach_64 : decode m_zs_requireReach.2.1 64 = .ok (.dup, 1) := by decide +kernel
theorem d_zs_requireReach_65 : decode m_zs_requireReach.2.1 65 = .ok (.invokespecial 68, 3) := by decide +kernel
theorem d_zs_requireReach_68 : decode m_zs_requireReach.2.1 68 = .ok (.athrow, 1) := by decide +kernel
theorem d_zs_requireReach_69 : decode m_zs_requireReach.2.1 69 = .ok (.return_, 1) := by decide +kernel
theorem d_zs_requireQuorum_0 : decode m_zs_requireQuorum.2.1 0 = .ok (.aload_n 0, 1) := by decide +kernel
theorem d_zs_requireQuorum_1 : decode m_zs_requireQuorum.2.1 1 = .ok (.invokevirtual 62, 3) := by decide +kernel
theorem d_zs_requireQuorum_4 : decode m_zs_requireQuorum.2.1 4 = .ok (.ifCond .ne (11), 3) := by decide +kernel
theorem d_zs_requireQuorum_7 : decode m_zs_requireQuorum.2.1 7 = .ok (.new 66, 3) := by decide +kernel
theorem d_zs_requireQuorum_10 : decode m_zs_requireQuorum.2.1 10 = .ok (.dup, 1) := by decide +kernel
theorem d_zs_requireQuorum_11 : decode m_zs_requireQuorum.2.1 11 = .ok (.invokespecial 68, 3) := by decide +kernel
theorem d_zs_requireQuorum_14 : decode m_zs_requireQuorum.2.1 14 = .ok (.athrow, 1) := by decide +kernel
theorem d_zs_requireQuorum_15 : decode m_zs_requireQuorum.2.1 15 = .ok (.return_, 1) := by decide +kernel
theorem d_zs_closeDueSessions_0 : decode m_zs_closeDueSessions.2.1 0 = .ok (.aload_n 0, 1) := by decide +kernel
theorem d_zs_closeDueSessions_1 : decode m_zs_closeDueSessions.2.1 1 = .ok (.invokevirtual 62, 3) := by decide +kernel
theorem d_zs_closeDueSessions_4 : decode m_zs_closeDueSessions.2.1 4 = .ok (.ifCond .ne (4), 3) := by decide +kernel
theorem d_zs_closeDueSessions_7 : decode m_zs_closeDueSessions.2.1 7 = .ok (.return_, 1) := by decide +kernel
theorem d_zs_closeDueSessions_8 : decode m_zs_closeDueSessions.2.1 8 = .ok (.iconst 0, 1) := by decide +kernel
theorem d_zs_closeDueSessions_9 : decode m_zs_closeDueSessions.2.1 9 = .ok (.istore_n 1, 1) := by decide +kernel
theorem d_zs_closeDueSessions_10 : decode m_zs_closeDueSessions.2.1 10 = .ok (.iload_n 1, 1) := by decide +kernel
theorem d_zs_closeDueSessions_11 : decode m_zs_closeDueSessions.2.1 11 = .ok (.iconst 4, 1) := by decide +kernel
theorem d_zs_closeDueSessions_12 : decode m_zs_closeDueSessions.2.1 12 = .ok (.if_icmp .ge (62), 3) := by decide +kernel
theorem d_zs_closeDueSessions_15 : decode m_zs_closeDueSessions.2.1 15 = .ok (.aload_n 0, 1) := by decide +kernel
theorem d_zs_closeDueSessions_16 : decode m_zs_closeDueSessions.2.1 16 = .ok (.getfield 17, 3) := by decide +kernel
theorem d_zs_closeDueSessions_19 : decode m_zs_closeDueSessions.2.1 19 = .ok (.iload_n 1, 1) := by decide +kernel
theorem d_zs_closeDueSessions_20 : decode m_zs_closeDueSessions.2.1 20 = .ok (.aaload, 1) := by decide +kernel
theorem d_zs_closeDueSessions_21 : decode m_zs_closeDueSessions.2.1 21 = .ok (.getfield 55, 3) := by decide +kernel
theorem d_zs_closeDueSessions_24 : decode m_zs_closeDueSessions.2.1 24 = .ok (.ifCond .eq (44), 3) := by decide +kernel
theorem d_zs_closeDueSessions_27 : decode m_zs_closeDueSessions.2.1 27 = .ok (.aload_n 0, 1) := by decide +kernel
theorem d_zs_closeDueSessions_28 : decode m_zs_closeDueSessions.2.1 28 = .ok (.getfield 24, 3) := by decide +kernel
theorem d_zs_closeDueSessions_31 : decode m_zs_closeDueSessions.2.1 31 = .ok (.iload_n 1, 1) := by decide +kernel
theorem d_zs_closeDueSessions_32 : decode m_zs_closeDueSessions.2.1 32 = .ok (.invokevirtual 78, 3) := by decide +kernel
theorem d_zs_closeDueSessions_35 : decode m_zs_closeDueSessions.2.1 35 = .ok (.ifCond .le (23), 3) := by decide +kernel
theorem d_zs_closeDueSessions_38 : decode m_zs_closeDueSessions.2.1 38 = .ok (.aload_n 0, 1) := by decide +kernel
theorem d_zs_closeDueSessions_39 : decode m_zs_closeDueSessions.2.1 39 = .ok (.new 133, 3) := by decide +kernel
theorem d_zs_closeDueSessions_42 : decode m_zs_closeDueSessions.2.1 42 = .ok (.dup, 1) := by decide +kernel
theorem d_zs_closeDueSessions_43 : decode m_zs_closeDueSessions.2.1 43 = .ok (.iconst 3, 1) := by decide +kernel
theorem d_zs_closeDueSessions_44 : decode m_zs_closeDueSessions.2.1 44 = .ok (.iconst 0, 1) := by decide +kernel
theorem d_zs_closeDueSessions_45 : decode m_zs_closeDueSessions.2.1 45 = .ok (.iconst 0, 1) := by decide +kernel
theorem d_zs_closeDueSessions_46 : decode m_zs_closeDueSessions.2.1 46 = .ok (.iload_n 1, 1) := by decide +kernel
theorem d_zs_closeDueSessions_47 : decode m_zs_closeDueSessions.2.1 47 = .ok (.iconst 0, 1) := by decide +kernel
theorem d_zs_closeDueSessions_48 : decode m_zs_closeDueSessions.2.1 48 = .ok (.invokespecial 135, 3) := by decide +kernel
theorem d_zs_closeDueSessions_51 : decode m_zs_closeDueSessions.2.1 51 = .ok (.invokevirtual 220, 3) := by decide +kernel
theorem d_zs_closeDueSessions_54 : decode m_zs_closeDueSessions.2.1 54 = .ok (.aload_n 0, 1) := by decide +kernel
theorem d_zs_closeDueSessions_55 : decode m_zs_closeDueSessions.2.1 55 = .ok (.invokevirtual 182, 3) := by decide +kernel
theorem d_zs_closeDueSessions_58 : decode m_zs_closeDueSessions.2.1 58 = .ok (.aload_n 0, 1) := by decide +kernel
theorem d_zs_closeDueSessions_59 : decode m_zs_closeDueSessions.2.1 59 = .ok (.getfield 17, 3) := by decide +kernel
theorem d_zs_closeDueSessions_62 : decode m_zs_closeDueSessions.2.1 62 = .ok (.iload_n 1, 1) := by decide +kernel
theorem d_zs_closeDueSessions_63 : decode m_zs_closeDueSessions.2.1 63 = .ok (.aaload, 1) := by decide +kernel
theorem d_zs_closeDueSessions_64 : decode m_zs_closeDueSessions.2.1 64 = .ok (.iconst 0, 1) := by decide +kernel
theorem d_zs_closeDueSessions_65 : decode m_zs_closeDueSessions.2.1 65 = .ok (.putfield 55, 3) := by decide +kernel
theorem d_zs_closeDueSessions_68 : decode m_zs_closeDueSessions.2.1 68 = .ok (.iinc 1 1, 3) := by decide +kernel
theorem d_zs_closeDueSessions_71 : decode m_zs_closeDueSessions.2.1 71 = .ok (.goto (-61), 3) := by decide +kernel
theorem d_zs_closeDueSessions_74 : decode m_zs_closeDueSessions.2.1 74 = .ok (.return_, 1) := by decide +kernel
theorem d_zs_appendAndPlan_0 : decode m_zs_appendAndPlan.2.1 0 = .ok (.aload_n 0, 1) := by decide +kernel
theorem d_zs_appendAndPlan_1 : decode m_zs_appendAndPlan.2.1 1 = .ok (.getfield 28, 3) := by decide +kernel
theorem d_zs_appendAndPlan_4 : decode m_zs_appendAndPlan.2.1 4 = .ok (.iconst (-1), 1) := by decide +kernel
theorem d_zs_appendAndPlan_5 : decode m_zs_appendAndPlan.2.1 5 = .ok (.if_icmp .eq (24), 3) := by decide +kernel
theorem d_zs_appendAndPlan_8 : decode m_zs_appendAndPlan.2.1 8 = .ok (.aload_n 0, 1) := by decide +kernel
theorem d_zs_appendAndPlan_9 : decode m_zs_appendAndPlan.2.1 9 = .ok (.getfield 11, 3) := by decide +kernel
theorem d_zs_appendAndPlan_12 : decode m_zs_appendAndPlan.2.1 12 = .ok (.aload_n 0, 1) := by decide +kernel
theorem d_zs_appendAndPlan_13 : decode m_zs_appendAndPlan.2.1 13 = .ok (.getfield 28, 3) := by decide +kernel
theorem d_zs_appendAndPlan_16 : decode m_zs_appendAndPlan.2.1 16 = .ok (.aaload, 1) := by decide +kernel
theorem d_zs_appendAndPlan_17 : decode m_zs_appendAndPlan.2.1 17 = .ok (.aload_n 1, 1) := by decide +kernel
theorem d_zs_appendAndPlan_18 : decode m_zs_appendAndPlan.2.1 18 = .ok (.invokevirtual 223, 3) := by decide +kernel
theorem d_zs_appendAndPlan_21 : decode m_zs_appendAndPlan.2.1 21 = .ok (.aload_n 0, 1) := by decide +kernel
theorem d_zs_appendAndPlan_22 : decode m_zs_appendAndPlan.2.1 22 = .ok (.getfield 24, 3) := by decide +kernel
theorem d_zs_appendAndPlan_25 : decode m_zs_appendAndPlan.2.1 25 = .ok (.aload_n 1, 1) := by decide +kernel
theorem d_zs_appendAndPlan_26 : decode m_zs_appendAndPlan.2.1 26 = .ok (.invokevirtual 226, 3) := by decide +kernel
theorem d_zs_appendAndPlan_29 : decode m_zs_appendAndPlan.2.1 29 = .ok (.return_, 1) := by decide +kernel
theorem d_zs_parentOf_0 : decode m_zs_parentOf.2.1 0 = .ok (.iload_n 0, 1) := by decide +kernel
theorem d_zs_parentOf_1 : decode m_zs_parentOf.2.1 1 = .ok (.iconst 1, 1) := by decide +kernel
theorem d_zs_parentOf_2 : decode m_zs_parentOf.2.1 2 = .ok (.isub, 1) := by decide +kernel
theorem d_zs_parentOf_3 : decode m_zs_parentOf.2.1 3 = .ok (.bipush 6, 2) := by decide +kernel
theorem d_zs_parentOf_5 : decode m_zs_parentOf.2.1 5 = .ok (.idiv, 1) := by decide +kernel
theorem d_zs_parentOf_6 : decode m_zs_parentOf.2.1 6 = .ok (.ireturn, 1) := by decide +kernel
theorem d_zs_childOf_0 : decode m_zs_childOf.2.1 0 = .ok (.bipush 6, 2) := by decide +kernel
theorem d_zs_childOf_2 : decode m_zs_childOf.2.1 2 = .ok (.iload_n 0, 1) := by decide +kernel
theorem d_zs_childOf_3 : decode m_zs_childOf.2.1 3 = .ok (.imul, 1) := by decide +kernel
theorem d_zs_childOf_4 : decode m_zs_childOf.2.1 4 = .ok (.iload_n 1, 1) := by decide +kernel
theorem d_zs_childOf_5 : decode m_zs_childOf.2.1 5 = .ok (.iadd, 1) := by decide +kernel
theorem d_zs_childOf_6 : decode m_zs_childOf.2.1 6 = .ok (.iconst 1, 1) := by decide +kernel
theorem d_zs_childOf_7 : decode m_zs_childOf.2.1 7 = .ok (.iadd, 1) := by decide +kernel
theorem d_zs_childOf_8 : decode m_zs_childOf.2.1 8 = .ok (.ireturn, 1) := by decide +kernel
theorem d_zs_spread_0 : decode m_zs_spread.2.1 0 = .ok (.aload_n 0, 1) := by decide +kernel
theorem d_zs_spread_1 : decode m_zs_spread.2.1 1 = .ok (.getfield 28, 3) := by decide +kernel
theorem d_zs_spread_4 : decode m_zs_spread.2.1 4 = .ok (.iconst (-1), 1) := by decide +kernel
theorem d_zs_spread_5 : decode m_zs_spread.2.1 5 = .ok (.if_icmp .ne (4), 3) := by decide +kernel
theorem d_zs_spread_8 : decode m_zs_spread.2.1 8 = .ok (.return_, 1) := by decide +kernel
theorem d_zs_spread_9 : decode m_zs_spread.2.1 9 = .ok (.aload_n 0, 1) := by decide +kernel
theorem d_zs_spread_10 : decode m_zs_spread.2.1 10 = .ok (.invokevirtual 62, 3) := by decide +kernel
theorem d_zs_spread_13 : decode m_zs_spread.2.1 13 = .ok (.istore_n 1, 1) := by decide +kernel
theorem d_zs_spread_14 : decode m_zs_spread.2.1 14 = .ok (.iconst 0, 1) := by decide +kernel
theorem d_zs_spread_15 : decode m_zs_spread.2.1 15 = .ok (.istore_n 2, 1) := by decide +kernel
theorem d_zs_spread_16 : decode m_zs_spread.2.1 16 = .ok (.iload_n 2, 1) := by decide +kernel
theorem d_zs_spread_17 : decode m_zs_spread.2.1 17 = .ok (.iconst 3, 1) := by decide +kernel
theorem d_zs_spread_18 : decode m_zs_spread.2.1 18 = .ok (.if_icmp .ge (48), 3) := by decide +kernel
theorem d_zs_spread_21 : decode m_zs_spread.2.1 21 = .ok (.aload_n 0, 1) := by decide +kernel
theorem d_zs_spread_22 : decode m_zs_spread.2.1 22 = .ok (.iload_n 2, 1) := by decide +kernel
theorem d_zs_spread_23 : decode m_zs_spread.2.1 23 = .ok (.invokevirtual 58, 3) := by decide +kernel
theorem d_zs_spread_26 : decode m_zs_spread.2.1 26 = .ok (.ifCond .eq (34), 3) := by decide +kernel
theorem d_zs_spread_29 : decode m_zs_spread.2.1 29 = .ok (.aload_n 0, 1) := by decide +kernel
theorem d_zs_spread_30 : decode m_zs_spread.2.1 30 = .ok (.getfield 11, 3) := by decide +kernel
theorem d_zs_spread_33 : decode m_zs_spread.2.1 33 = .ok (.iload_n 2, 1) := by decide +kernel
theorem d_zs_spread_34 : decode m_zs_spread.2.1 34 = .ok (.aaload, 1) := by decide +kernel
theorem d_zs_spread_35 : decode m_zs_spread.2.1 35 = .ok (.aload_n 0, 1) := by decide +kernel
theorem d_zs_spread_36 : decode m_zs_spread.2.1 36 = .ok (.getfield 11, 3) := by decide +kernel
theorem d_zs_spread_39 : decode m_zs_spread.2.1 39 = .ok (.aload_n 0, 1) := by decide +kernel
theorem d_zs_spread_40 : decode m_zs_spread.2.1 40 = .ok (.getfield 28, 3) := by decide +kernel
theorem d_zs_spread_43 : decode m_zs_spread.2.1 43 = .ok (.aaload, 1) := by decide +kernel
theorem d_zs_spread_44 : decode m_zs_spread.2.1 44 = .ok (.aload_n 0, 1) := by decide +kernel
theorem d_zs_spread_45 : decode m_zs_spread.2.1 45 = .ok (.getfield 32, 3) := by decide +kernel
theorem d_zs_spread_48 : decode m_zs_spread.2.1 48 = .ok (.invokevirtual 236, 3) := by decide +kernel
theorem d_zs_spread_51 : decode m_zs_spread.2.1 51 = .ok (.iload_n 1, 1) := by decide +kernel
theorem d_zs_spread_52 : decode m_zs_spread.2.1 52 = .ok (.ifCond .eq (8), 3) := by decide +kernel
theorem d_zs_spread_55 : decode m_zs_spread.2.1 55 = .ok (.aload_n 0, 1) := by decide +kernel
theorem d_zs_spread_56 : decode m_zs_spread.2.1 56 = .ok (.iload_n 2, 1) := by decide +kernel
theorem d_zs_spread_57 : decode m_zs_spread.2.1 57 = .ok (.invokevirtual 240, 3) := by decide +kernel
theorem d_zs_spread_60 : decode m_zs_spread.2.1 60 = .ok (.iinc 2 1, 3) := by decide +kernel
theorem d_zs_spread_63 : decode m_zs_spread.2.1 63 = .ok (.goto (-47), 3) := by decide +kernel
theorem d_zs_spread_66 : decode m_zs_spread.2.1 66 = .ok (.return_, 1) := by decide +kernel
theorem d_zs_applyLog_0 : decode m_zs_applyLog.2.1 0 = .ok (.aload_n 0, 1) := by decide +kernel
theorem d_zs_applyLog_1 : decode m_zs_applyLog.2.1 1 = .ok (.getfield 11, 3) := by decide +kernel
theorem d_zs_applyLog_4 : decode m_zs_applyLog.2.1 4 = .ok (.iload_n 1, 1) := by decide +kernel
theorem d_zs_applyLog_5 : decode m_zs_applyLog.2.1 5 = .ok (.aaload, 1) := by decide +kernel
theorem d_zs_applyLog_6 : decode m_zs_applyLog.2.1 6 = .ok (.astore_n 2, 1) := by decide +kernel
theorem d_zs_applyLog_7 : decode m_zs_applyLog.2.1 7 = .ok (.aload_n 2, 1) := by decide +kernel
theorem d_zs_applyLog_8 : decode m_zs_applyLog.2.1 8 = .ok (.getfield 185, 3) := by decide +kernel
theorem d_zs_applyLog_11 : decode m_zs_applyLog.2.1 11 = .ok (.istore_n 3, 1) := by decide +kernel
theorem d_zs_applyLog_12 : decode m_zs_applyLog.2.1 12 = .ok (.iload_n 3, 1) := by decide +kernel
theorem d_zs_applyLog_13 : decode m_zs_applyLog.2.1 13 = .ok (.aload_n 2, 1) := by decide +kernel
theorem d_zs_applyLog_14 : decode m_zs_applyLog.2.1 14 = .ok (.getfield 179, 3) := by decide +kernel
theorem d_zs_applyLog_17 : decode m_zs_applyLog.2.1 17 = .ok (.if_icmp .ge (67), 3) := by decide +kernel
theorem d_zs_applyLog_20 : decode m_zs_applyLog.2.1 20 = .ok (.aload_n 2, 1) := by decide +kernel
theorem d_zs_applyLog_21 : decode m_zs_applyLog.2.1 21 = .ok (.getfield 232, 3) := by decide +kernel
theorem d_zs_applyLog_24 : decode m_zs_applyLog.2.1 24 = .ok (.iload_n 3, 1) := by decide +kernel
theorem d_zs_applyLog_25 : decode m_zs_applyLog.2.1 25 = .ok (.aaload, 1) := by decide +kernel
theorem d_zs_applyLog_26 : decode m_zs_applyLog.2.1 26 = .ok (.astore 4, 2) := by decide +kernel
theorem d_zs_applyLog_28 : decode m_zs_applyLog.2.1 28 = .ok (.iconst 0, 1) := by decide +kernel
theorem d_zs_applyLog_29 : decode m_zs_applyLog.2.1 29 = .ok (.istore 5, 2) := by decide +kernel
theorem d_zs_applyLog_31 : decode m_zs_applyLog.2.1 31 = .ok (.iload 5, 2) := by decide +kernel
theorem d_zs_applyLog_33 : decode m_zs_applyLog.2.1 33 = .ok (.iconst 4, 1) := by decide +kernel
theorem d_zs_applyLog_34 : decode m_zs_applyLog.2.1 34 = .ok (.if_icmp .ge (35), 3) := by decide +kernel
theorem d_zs_applyLog_37 : decode m_zs_applyLog.2.1 37 = .ok (.aload_n 0, 1) := by decide +kernel
theorem d_zs_applyLog_38 : decode m_zs_applyLog.2.1 38 = .ok (.iload 5, 2) := by decide +kernel
theorem d_zs_applyLog_40 : decode m_zs_applyLog.2.1 40 = .ok (.iload_n 1, 1) := by decide +kernel
theorem d_zs_applyLog_41 : decode m_zs_applyLog.2.1 41 = .ok (.invokevirtual 176, 3) := by decide +kernel
theorem d_zs_applyLog_44 : decode m_zs_applyLog.2.1 44 = .ok (.ifCond .eq (19), 3) := by decide +kernel
theorem d_zs_applyLog_47 : decode m_zs_applyLog.2.1 47 = .ok (.aload_n 0, 1) := by decide +kernel
theorem d_zs_applyLog_48 : decode m_zs_applyLog.2.1 48 = .ok (.getfield 17, 3) := by decide +kernel
theorem d_zs_applyLog_51 : decode m_zs_applyLog.2.1 51 = .ok (.iload 5, 2) := by decide +kernel
theorem d_zs_applyLog_53 : decode m_zs_applyLog.2.1 53 = .ok (.aaload, 1) := by decide +kernel
theorem d_zs_applyLog_54 : decode m_zs_applyLog.2.1 54 = .ok (.aload 4, 2) := by decide +kernel
theorem d_zs_applyLog_56 : decode m_zs_applyLog.2.1 56 = .ok (.aload_n 2, 1) := by decide +kernel
theorem d_zs_applyLog_57 : decode m_zs_applyLog.2.1 57 = .ok (.getfield 205, 3) := by decide +kernel
theorem d_zs_applyLog_60 : decode m_zs_applyLog.2.1 60 = .ok (.invokevirtual 243, 3) := by decide +kernel
theorem d_zs_applyLog_63 : decode m_zs_applyLog.2.1 63 = .ok (.iinc 5 1, 3) := by decide +kernel
theorem d_zs_applyLog_66 : decode m_zs_applyLog.2.1 66 = .ok (.goto (-35), 3) := by decide +kernel
theorem d_zs_applyLog_69 : decode m_zs_applyLog.2.1 69 = .ok (.aload_n 2, 1) := by decide +kernel
theorem d_zs_applyLog_70 : decode m_zs_applyLog.2.1 70 = .ok (.getfield 205, 3) := by decide +kernel
theorem d_zs_applyLog_73 : decode m_zs_applyLog.2.1 73 = .ok (.aload 4, 2) := by decide +kernel
theorem d_zs_applyLog_75 : decode m_zs_applyLog.2.1 75 = .ok (.invokevirtual 226, 3) := by decide +kernel
theorem d_zs_applyLog_78 : decode m_zs_applyLog.2.1 78 = .ok (.iinc 3 1, 3) := by decide +kernel
theorem d_zs_applyLog_81 : decode m_zs_applyLog.2.1 81 = .ok (.goto (-69), 3) := by decide +kernel
theorem d_zs_applyLog_84 : decode m_zs_applyLog.2.1 84 = .ok (.aload_n 2, 1) := by decide +kernel
theorem d_zs_applyLog_85 : decode m_zs_applyLog.2.1 85 = .ok (.aload_n 2, 1) := by decide +kernel
theorem d_zs_applyLog_86 : decode m_zs_applyLog.2.1 86 = .ok (.getfield 179, 3) := by decide +kernel
theorem d_zs_applyLog_89 : decode m_zs_applyLog.2.1 89 = .ok (.putfield 185, 3) := by decide +kernel
theorem d_zs_applyLog_92 : decode m_zs_applyLog.2.1 92 = .ok (.return_, 1) := by decide +kernel
theorem d_zs_isAt_0 : decode m_zs_isAt.2.1 0 = .ok (.aload_n 0, 1) := by decide +kernel
theorem d_zs_isAt_1 : decode m_zs_isAt.2.1 1 = .ok (.getfield 17, 3) := by decide +kernel
theorem d_zs_isAt_4 : decode m_zs_isAt.2.1 4 = .ok (.iload_n 1, 1) := by decide +kernel
theorem d_zs_isAt_5 : decode m_zs_isAt.2.1 5 = .ok (.aaload, 1) := by decide +kernel
theorem d_zs_isAt_6 : decode m_zs_isAt.2.1 6 = .ok (.getfield 51, 3) := by decide +kernel
theorem d_zs_isAt_9 : decode m_zs_isAt.2.1 9 = .ok (.ifCond .eq (20), 3) := by decide +kernel
theorem d_zs_isAt_12 : decode m_zs_isAt.2.1 12 = .ok (.aload_n 0, 1) := by decide +kernel
theorem d_zs_isAt_13 : decode m_zs_isAt.2.1 13 = .ok (.getfield 17, 3) := by decide +kernel
theorem d_zs_isAt_16 : decode m_zs_isAt.2.1 16 = .ok (.iload_n 1, 1) := by decide +kernel
theorem d_zs_isAt_17 : decode m_zs_isAt.2.1 17 = .ok (.aaload, 1) := by decide +kernel
theorem d_zs_isAt_18 : decode m_zs_isAt.2.1 18 = .ok (.getfield 100, 3) := by decide +kernel
theorem d_zs_isAt_21 : decode m_zs_isAt.2.1 21 = .ok (.iload_n 2, 1) := by decide +kernel
theorem d_zs_isAt_22 : decode m_zs_isAt.2.1 22 = .ok (.if_icmp .ne (7), 3) := by decide +kernel
theorem d_zs_isAt_25 : decode m_zs_isAt.2.1 25 = .ok (.iconst 1, 1) := by decide +kernel
theorem d_zs_isAt_26 : decode m_zs_isAt.2.1 26 = .ok (.goto 4, 3) := by decide +kernel
theorem d_zs_isAt_29 : decode m_zs_isAt.2.1 29 = .ok (.iconst 0, 1) := by decide +kernel
theorem d_zs_isAt_30 : decode m_zs_isAt.2.1 30 = .ok (.ireturn, 1) := by decide +kernel
theorem d_zs_ping_0 : decode m_zs_ping.2.1 0 = .ok (.iload_n 1, 1) := by decide +kernel
theorem d_zs_ping_1 : decode m_zs_ping.2.1 1 = .ok (.invokestatic 40, 3) := by decide +kernel
theorem d_zs_ping_4 : decode m_zs_ping.2.1 4 = .ok (.aload_n 0, 1) := by decide +kernel
theorem d_zs_ping_5 : decode m_zs_ping.2.1 5 = .ok (.iload_n 1, 1) := by decide +kernel
theorem d_zs_ping_6 : decode m_zs_ping.2.1 6 = .ok (.invokevirtual 72, 3) := by decide +kernel
theorem d_zs_ping_9 : decode m_zs_ping.2.1 9 = .ok (.aload_n 0, 1) := by decide +kernel
theorem d_zs_ping_10 : decode m_zs_ping.2.1 10 = .ok (.invokevirtual 75, 3) := by decide +kernel
theorem d_zs_ping_13 : decode m_zs_ping.2.1 13 = .ok (.aload_n 0, 1) := by decide +kernel
theorem d_zs_ping_14 : decode m_zs_ping.2.1 14 = .ok (.getfield 17, 3) := by decide +kernel
theorem d_zs_ping_17 : decode m_zs_ping.2.1 17 = .ok (.iload_n 1, 1) := by decide +kernel
theorem d_zs_ping_18 : decode m_zs_ping.2.1 18 = .ok (.aaload, 1) := by decide +kernel
theorem d_zs_ping_19 : decode m_zs_ping.2.1 19 = .ok (.aload_n 0, 1) := by decide +kernel
theorem d_zs_ping_20 : decode m_zs_ping.2.1 20 = .ok (.getfield 35, 3) := by decide +kernel
theorem d_zs_ping_23 : decode m_zs_ping.2.1 23 = .ok (.putfield 88, 3) := by decide +kernel
theorem d_zs_ping_26 : decode m_zs_ping.2.1 26 = .ok (.aload_n 0, 1) := by decide +kernel
theorem d_zs_ping_27 : decode m_zs_ping.2.1 27 = .ok (.getfield 17, 3) := by decide +kernel
theorem d_zs_ping_30 : decode m_zs_ping.2.1 30 = .ok (.iload_n 1, 1) := by decide +kernel
theorem d_zs_ping_31 : decode m_zs_ping.2.1 31 = .ok (.aaload, 1) := by decide +kernel
theorem d_zs_ping_32 : decode m_zs_ping.2.1 32 = .ok (.getfield 91, 3) := by decide +kernel
theorem d_zs_ping_35 : decode m_zs_ping.2.1 35 = .ok (.ireturn, 1) := by decide +kernel
theorem d_zs_move_0 : decode m_zs_move.2.1 0 = .ok (.iload_n 1, 1) := by decide +kernel
theorem d_zs_move_1 : decode m_zs_move.2.1 1 = .ok (.invokestatic 40, 3) := by decide +kernel
theorem d_zs_move_4 : decode m_zs_move.2.1 4 = .ok (.iload_n 2, 1) := by decide +kernel
theorem d_zs_move_5 : decode m_zs_move.2.1 5 = .ok (.invokestatic 44, 3) := by decide +kernel
theorem d_zs_move_8 : decode m_zs_move.2.1 8 = .ok (.aload_n 0, 1) := by decide +kernel
theorem d_zs_move_9 : decode m_zs_move.2.1 9 = .ok (.iload_n 1, 1) := by decide +kernel
theorem d_zs_move_10 : decode m_zs_move.2.1 10 = .ok (.invokevirtual 94, 3) := by decide +kernel
theorem d_zs_move_13 : decode m_zs_move.2.1 13 = .ok (.aload_n 0, 1) := by decide +kernel
theorem d_zs_move_14 : decode m_zs_move.2.1 14 = .ok (.getfield 11, 3) := by decide +kernel
theorem d_zs_move_17 : decode m_zs_move.2.1 17 = .ok (.iload_n 2, 1) := by decide +kernel
theorem d_zs_move_18 : decode m_zs_move.2.1 18 = .ok (.aaload, 1) := by decide +kernel
theorem d_zs_move_19 : decode m_zs_move.2.1 19 = .ok (.getfield 97, 3) := by decide +kernel
theorem d_zs_move_22 : decode m_zs_move.2.1 22 = .ok (.ifCond .ne (11), 3) := by decide +kernel
theorem d_zs_move_25 : decode m_zs_move.2.1 25 = .ok (.new 66, 3) := by decide +kernel
theorem d_zs_move_28 : decode m_zs_move.2.1 28 = .ok (.dup, 1) := by decide +kernel
theorem d_zs_move_29 : decode m_zs_move.2.1 29 = .ok (.invokespecial 68, 3) := by decide +kernel
theorem d_zs_move_32 : decode m_zs_move.2.1 32 = .ok (.athrow, 1) := by decide +kernel
theorem d_zs_move_33 : decode m_zs_move.2.1 33 = .ok (.aload_n 0, 1) := by decide +kernel
theorem d_zs_move_34 : decode m_zs_move.2.1 34 = .ok (.getfield 17, 3) := by decide +kernel
theorem d_zs_move_37 : decode m_zs_move.2.1 37 = .ok (.iload_n 1, 1) := by decide +kernel
theorem d_zs_move_38 : decode m_zs_move.2.1 38 = .ok (.aaload, 1) := by decide +kernel
theorem d_zs_move_39 : decode m_zs_move.2.1 39 = .ok (.astore_n 3, 1) := by decide +kernel
theorem d_zs_move_40 : decode m_zs_move.2.1 40 = .ok (.aload_n 3, 1) := by decide +kernel
theorem d_zs_move_41 : decode m_zs_move.2.1 41 = .ok (.getfield 100, 3) := by decide +kernel
theorem d_zs_move_44 : decode m_zs_move.2.1 44 = .ok (.istore 4, 2) := by decide +kernel
theorem d_zs_move_46 : decode m_zs_move.2.1 46 = .ok (.aload_n 3, 1) := by decide +kernel
theorem d_zs_move_47 : decode m_zs_move.2.1 47 = .ok (.iload_n 2, 1) := by decide +kernel
theorem d_zs_move_48 : decode m_zs_move.2.1 48 = .ok (.putfield 100, 3) := by decide +kernel
theorem d_zs_move_51 : decode m_zs_move.2.1 51 = .ok (.aload_n 3, 1) := by decide +kernel
theorem d_zs_move_52 : decode m_zs_move.2.1 52 = .ok (.invokevirtual 103, 3) := by decide +kernel
theorem d_zs_move_55 : decode m_zs_move.2.1 55 = .ok (.iload 4, 2) := by decide +kernel
theorem d_zs_move_57 : decode m_zs_move.2.1 57 = .ok (.ireturn, 1) := by decide +kernel
theorem d_zs_requireOpen_0 : decode m_zs_requireOpen.2.1 0 = .ok (.aload_n 0, 1) := by decide +kernel
theorem d_zs_requireOpen_1 : decode m_zs_requireOpen.2.1 1 = .ok (.getfield 17, 3) := by decide +kernel
theorem d_zs_requireOpen_4 : decode m_zs_requireOpen.2.1 4 = .ok (.iload_n 1, 1) := by decide +kernel
theorem d_zs_requireOpen_5 : decode m_zs_requireOpen.2.1 5 = .ok (.aaload, 1) := by decide +kernel
theorem d_zs_requireOpen_6 : decode m_zs_requireOpen.2.1 6 = .ok (.getfield 51, 3) := by decide +kernel
theorem d_zs_requireOpen_9 : decode m_zs_requireOpen.2.1 9 = .ok (.ifCond .ne (11), 3) := by decide +kernel
theorem d_zs_requireOpen_12 : decode m_zs_requireOpen.2.1 12 = .ok (.new 66, 3) := by decide +kernel
theorem d_zs_requireOpen_15 : decode m_zs_requireOpen.2.1 15 = .ok (.dup, 1) := by decide +kernel
theorem d_zs_requireOpen_16 : decode m_zs_requireOpen.2.1 16 = .ok (.invokespecial 68, 3) := by decide +kernel
theorem d_zs_requireOpen_19 : decode m_zs_requireOpen.2.1 19 = .ok (.athrow, 1) := by decide +kernel
theorem d_zs_requireOpen_20 : decode m_zs_requireOpen.2.1 20 = .ok (.return_, 1) := by decide +kernel
theorem d_zs_create_0 : decode m_zs_create.2.1 0 = .ok (.iload_n 1, 1) := by decide +kernel
theorem d_zs_create_1 : decode m_zs_create.2.1 1 = .ok (.invokestatic 40, 3) := by decide +kernel
theorem d_zs_create_4 : decode m_zs_create.2.1 4 = .ok (.iload 4, 2) := by decide +kernel
theorem d_zs_create_6 : decode m_zs_create.2.1 6 = .ok (.iconst 0, 1) := by decide +kernel
theorem d_zs_create_7 : decode m_zs_create.2.1 7 = .ok (.iconst 3, 1) := by decide +kernel
theorem d_zs_create_8 : decode m_zs_create.2.1 8 = .ok (.invokestatic 47, 3) := by decide +kernel
theorem d_zs_create_11 : decode m_zs_create.2.1 11 = .ok (.iload 4, 2) := by decide +kernel
theorem d_zs_create_13 : decode m_zs_create.2.1 13 = .ok (.iconst 2, 1) := by decide +kernel
theorem d_zs_create_14 : decode m_zs_create.2.1 14 = .ok (.iand, 1) := by decide +kernel
theorem d_zs_create_15 : decode m_zs_create.2.1 15 = .ok (.ifCond .eq (7), 3) := by decide +kernel
theorem d_zs_create_18 : decode m_zs_create.2.1 18 = .ok (.iconst 1, 1) := by decide +kernel
theorem d_zs_create_19 : decode m_zs_create.2.1 19 = .ok (.goto 4, 3) := by decide +kernel
theorem d_zs_create_22 : decode m_zs_create.2.1 22 = .ok (.iconst 0, 1) := by decide +kernel
theorem d_zs_create_23 : decode m_zs_create.2.1 23 = .ok (.istore 5, 2) := by decide +kernel
theorem d_zs_create_25 : decode m_zs_create.2.1 25 = .ok (.iload_n 2, 1) := by decide +kernel
theorem d_zs_create_26 : decode m_zs_create.2.1 26 = .ok (.iload 5, 2) := by decide +kernel
theorem d_zs_create_28 : decode m_zs_create.2.1 28 = .ok (.ifCond .eq (7), 3) := by decide +kernel
theorem d_zs_create_31 : decode m_zs_create.2.1 31 = .ok (.iconst 0, 1) := by decide +kernel
theorem d_zs_create_32 : decode m_zs_create.2.1 32 = .ok (.goto 4, 3) := by decide +kernel
theorem d_zs_create_35 : decode m_zs_create.2.1 35 = .ok (.iconst 1, 1) := by decide +kernel
theorem d_zs_create_36 : decode m_zs_create.2.1 36 = .ok (.iload 5, 2) := by decide +kernel
theorem d_zs_create_38 : decode m_zs_create.2.1 38 = .ok (.ifCond .eq (8), 3) := by decide +kernel
theorem d_zs_create_41 : decode m_zs_create.2.1 41 = .ok (.bipush 43, 2) := by decide +kernel
theorem d_zs_create_43 : decode m_zs_create.2.1 43 = .ok (.goto 6, 3) := by decide +kernel
theorem d_zs_create_46 : decode m_zs_create.2.1 46 = .ok (.sipush 259, 3) := by decide +kernel
theorem d_zs_create_49 : decode m_zs_create.2.1 49 = .ok (.iconst 1, 1) := by decide +kernel
theorem d_zs_create_50 : decode m_zs_create.2.1 50 = .ok (.isub, 1) := by decide +kernel
theorem d_zs_create_51 : decode m_zs_create.2.1 51 = .ok (.invokestatic 47, 3) := by decide +kernel
theorem d_zs_create_54 : decode m_zs_create.2.1 54 = .ok (.aload_n 0, 1) := by decide +kernel
theorem d_zs_create_55 : decode m_zs_create.2.1 55 = .ok (.iload_n 1, 1) := by decide +kernel
theorem d_zs_create_56 : decode m_zs_create.2.1 56 = .ok (.invokevirtual 72, 3) := by decide +kernel
theorem d_zs_create_59 : decode m_zs_create.2.1 59 = .ok (.iload 5, 2) := by decide +kernel
theorem d_zs_create_61 : decode m_zs_create.2.1 61 = .ok (.ifCond .eq (7), 3) := by decide +kernel
theorem d_zs_create_64 : decode m_zs_create.2.1 64 = .ok (.iload_n 2, 1) := by decide +kernel
theorem d_zs_create_65 : decode m_zs_create.2.1 65 = .ok (.goto 7, 3) := by decide +kernel
theorem d_zs_create_68 : decode m_zs_create.2.1 68 = .ok (.iload_n 2, 1) := by decide +kernel
theorem d_zs_create_69 : decode m_zs_create.2.1 69 = .ok (.invokestatic 106, 3) := by decide +kernel
theorem d_zs_create_72 : decode m_zs_create.2.1 72 = .ok (.istore 6, 2) := by decide +kernel
theorem d_zs_create_74 : decode m_zs_create.2.1 74 = .ok (.aload_n 0, 1) := by decide +kernel
theorem d_zs_create_75 : decode m_zs_create.2.1 75 = .ok (.getfield 24, 3) := by decide +kernel
theorem d_zs_create_78 : decode m_zs_create.2.1 78 = .ok (.iload 6, 2) := by decide +kernel
theorem d_zs_create_80 : decode m_zs_create.2.1 80 = .ok (.invokestatic 109, 3) := by decide +kernel
theorem d_zs_create_83 : decode m_zs_create.2.1 83 = .ok (.aload_n 0, 1) := by decide +kernel
theorem d_zs_create_84 : decode m_zs_create.2.1 84 = .ok (.getfield 24, 3) := by decide +kernel
theorem d_zs_create_87 : decode m_zs_create.2.1 87 = .ok (.getfield 113, 3) := by decide +kernel
theorem d_zs_create_90 : decode m_zs_create.2.1 90 = .ok (.iload 6, 2) := by decide +kernel
theorem d_zs_create_92 : decode m_zs_create.2.1 92 = .ok (.iaload, 1) := by decide +kernel
theorem d_zs_create_93 : decode m_zs_create.2.1 93 = .ok (.iconst (-1), 1) := by decide +kernel
theorem d_zs_create_94 : decode m_zs_create.2.1 94 = .ok (.if_icmp .ne (23), 3) := by decide +kernel
theorem d_zs_create_97 : decode m_zs_create.2.1 97 = .ok (.iload 5, 2) := by decide +kernel
theorem d_zs_create_99 : decode m_zs_create.2.1 99 = .ok (.ifCond .eq (26), 3) := by decide +kernel
theorem d_zs_create_102 : decode m_zs_create.2.1 102 = .ok (.aload_n 0, 1) := by decide +kernel
theorem d_zs_create_103 : decode m_zs_create.2.1 103 = .ok (.getfield 24, 3) := by decide +kernel
theorem d_zs_create_106 : decode m_zs_create.2.1 106 = .ok (.getfield 117, 3) := by decide +kernel
theorem d_zs_create_109 : decode m_zs_create.2.1 109 = .ok (.iload 6, 2) := by decide +kernel
theorem d_zs_create_111 : decode m_zs_create.2.1 111 = .ok (.iaload, 1) := by decide +kernel
theorem d_zs_create_112 : decode m_zs_create.2.1 112 = .ok (.bipush 6, 2) := by decide +kernel
theorem d_zs_create_114 : decode m_zs_create.2.1 114 = .ok (.if_icmp .lt (11), 3) := by decide +kernel
theorem d_zs_create_117 : decode m_zs_create.2.1 117 = .ok (.new 120, 3) := by decide +kernel
theorem d_zs_create_120 : decode m_zs_create.2.1 120 = .ok (.dup, 1) := by decide +kernel
theorem d_zs_create_121 : decode m_zs_create.2.1 121 = .ok (.invokespecial 122, 3) := by decide +kernel
theorem d_zs_create_124 : decode m_zs_create.2.1 124 = .ok (.athrow, 1) := by decide +kernel
theorem d_zs_create_125 : decode m_zs_create.2.1 125 = .ok (.iload 5, 2) := by decide +kernel
theorem d_zs_create_127 : decode m_zs_create.2.1 127 = .ok (.ifCond .eq (21), 3) := by decide +kernel
theorem d_zs_create_130 : decode m_zs_create.2.1 130 = .ok (.iload 6, 2) := by decide +kernel
theorem d_zs_create_132 : decode m_zs_create.2.1 132 = .ok (.aload_n 0, 1) := by decide +kernel
theorem d_zs_create_133 : decode m_zs_create.2.1 133 = .ok (.getfield 24, 3) := by decide +kernel
theorem d_zs_create_136 : decode m_zs_create.2.1 136 = .ok (.getfield 117, 3) := by decide +kernel
theorem d_zs_create_139 : decode m_zs_create.2.1 139 = .ok (.iload 6, 2) := by decide +kernel
theorem d_zs_create_141 : decode m_zs_create.2.1 141 = .ok (.iaload, 1) := by decide +kernel
theorem d_zs_create_142 : decode m_zs_create.2.1 142 = .ok (.invokestatic 123, 3) := by decide +kernel
theorem d_zs_create_145 : decode m_zs_create.2.1 145 = .ok (.goto 4, 3) := by decide +kernel
theorem d_zs_create_148 : decode m_zs_create.2.1 148 = .ok (.iload_n 2, 1) := by decide +kernel
theorem d_zs_create_149 : decode m_zs_create.2.1 149 = .ok (.istore 7, 2) := by decide +kernel
theorem d_zs_create_151 : decode m_zs_create.2.1 151 = .ok (.aload_n 0, 1) := by decide +kernel
theorem d_zs_create_152 : decode m_zs_create.2.1 152 = .ok (.getfield 24, 3) := by decide +kernel
theorem d_zs_create_155 : decode m_zs_create.2.1 155 = .ok (.iload 7, 2) := by decide +kernel
theorem d_zs_create_157 : decode m_zs_create.2.1 157 = .ok (.invokevirtual 127, 3) := by decide +kernel
theorem d_zs_create_160 : decode m_zs_create.2.1 160 = .ok (.ifCond .eq (11), 3) := by decide +kernel
theorem d_zs_create_163 : decode m_zs_create.2.1 163 = .ok (.new 130, 3) := by decide +kernel
theorem d_zs_create_166 : decode m_zs_create.2.1 166 = .ok (.dup, 1) := by decide +kernel
theorem d_zs_create_167 : decode m_zs_create.2.1 167 = .ok (.invokespecial 132, 3) := by decide +kernel
theorem d_zs_create_170 : decode m_zs_create.2.1 170 = .ok (.athrow, 1) := by decide +kernel
theorem d_zs_create_171 : decode m_zs_create.2.1 171 = .ok (.iload 4, 2) := by decide +kernel
theorem d_zs_create_173 : decode m_zs_create.2.1 173 = .ok (.iconst 1, 1) := by decide +kernel
theorem d_zs_create_174 : decode m_zs_create.2.1 174 = .ok (.iand, 1) := by decide +kernel
theorem d_zs_create_175 : decode m_zs_create.2.1 175 = .ok (.ifCond .eq (7), 3) := by decide +kernel
theorem d_zs_create_178 : decode m_zs_create.2.1 178 = .ok (.iload_n 1, 1) := by decide +kernel
theorem d_zs_create_179 : decode m_zs_create.2.1 179 = .ok (.goto 4, 3) := by decide +kernel
theorem d_zs_create_182 : decode m_zs_create.2.1 182 = .ok (.iconst (-1), 1) := by decide +kernel
theorem d_zs_create_183 : decode m_zs_create.2.1 183 = .ok (.istore 8, 2) := by decide +kernel
theorem d_zs_create_185 : decode m_zs_create.2.1 185 = .ok (.aload_n 0, 1) := by decide +kernel
theorem d_zs_create_186 : decode m_zs_create.2.1 186 = .ok (.new 133, 3) := by decide +kernel
theorem d_zs_create_189 : decode m_zs_create.2.1 189 = .ok (.dup, 1) := by decide +kernel
theorem d_zs_create_190 : decode m_zs_create.2.1 190 = .ok (.iconst 0, 1) := by decide +kernel
theorem d_zs_create_191 : decode m_zs_create.2.1 191 = .ok (.iload 7, 2) := by decide +kernel
theorem d_zs_create_193 : decode m_zs_create.2.1 193 = .ok (.iload_n 3, 1) := by decide +kernel
theorem d_zs_create_194 : decode m_zs_create.2.1 194 = .ok (.iload 8, 2) := by decide +kernel
theorem d_zs_create_196 : decode m_zs_create.2.1 196 = .ok (.iload 5, 2) := by decide +kernel
theorem d_zs_create_198 : decode m_zs_create.2.1 198 = .ok (.invokespecial 135, 3) := by decide +kernel
theorem d_zs_create_201 : decode m_zs_create.2.1 201 = .ok (.invokevirtual 138, 3) := by decide +kernel
theorem d_zs_create_204 : decode m_zs_create.2.1 204 = .ok (.iload 7, 2) := by decide +kernel
theorem d_zs_create_206 : decode m_zs_create.2.1 206 = .ok (.ireturn, 1) := by decide +kernel
theorem d_zs_requireNode_0 : decode m_zs_requireNode.2.1 0 = .ok (.aload_n 0, 1) := by decide +kernel
theorem d_zs_requireNode_1 : decode m_zs_requireNode.2.1 1 = .ok (.iload_n 1, 1) := by decide +kernel
theorem d_zs_requireNode_2 : decode m_zs_requireNode.2.1 2 = .ok (.invokevirtual 127, 3) := by decide +kernel
theorem d_zs_requireNode_5 : decode m_zs_requireNode.2.1 5 = .ok (.ifCond .ne (11), 3) := by decide +kernel
theorem d_zs_requireNode_8 : decode m_zs_requireNode.2.1 8 = .ok (.new 169, 3) := by decide +kernel
theorem d_zs_requireNode_11 : decode m_zs_requireNode.2.1 11 = .ok (.dup, 1) := by decide +kernel
theorem d_zs_requireNode_12 : decode m_zs_requireNode.2.1 12 = .ok (.invokespecial 171, 3) := by decide +kernel
theorem d_zs_requireNode_15 : decode m_zs_requireNode.2.1 15 = .ok (.athrow, 1) := by decide +kernel
theorem d_zs_requireNode_16 : decode m_zs_requireNode.2.1 16 = .ok (.return_, 1) := by decide +kernel
theorem d_zs_proposeChange_0 : decode m_zs_proposeChange.2.1 0 = .ok (.aload_n 0, 1) := by decide +kernel
theorem d_zs_proposeChange_1 : decode m_zs_proposeChange.2.1 1 = .ok (.getfield 28, 3) := by decide +kernel
theorem d_zs_proposeChange_4 : decode m_zs_proposeChange.2.1 4 = .ok (.iconst (-1), 1) := by decide +kernel
theorem d_zs_proposeChange_5 : decode m_zs_proposeChange.2.1 5 = .ok (.if_icmp .eq (20), 3) := by decide +kernel
theorem d_zs_proposeChange_8 : decode m_zs_proposeChange.2.1 8 = .ok (.aload_n 0, 1) := by decide +kernel
theorem d_zs_proposeChange_9 : decode m_zs_proposeChange.2.1 9 = .ok (.getfield 11, 3) := by decide +kernel
theorem d_zs_proposeChange_12 : decode m_zs_proposeChange.2.1 12 = .ok (.aload_n 0, 1) := by decide +kernel
theorem d_zs_proposeChange_13 : decode m_zs_proposeChange.2.1 13 = .ok (.getfield 28, 3) := by decide +kernel
theorem d_zs_proposeChange_16 : decode m_zs_proposeChange.2.1 16 = .ok (.aaload, 1) := by decide +kernel
theorem d_zs_proposeChange_17 : decode m_zs_proposeChange.2.1 17 = .ok (.getfield 179, 3) := by decide +kernel
theorem d_zs_proposeChange_20 : decode m_zs_proposeChange.2.1 20 = .ok (.bipush 60, 2) := by decide +kernel
theorem d_zs_proposeChange_22 : decode m_zs_proposeChange.2.1 22 = .ok (.if_icmp .lt (11), 3) := by decide +kernel
theorem d_zs_proposeChange_25 : decode m_zs_proposeChange.2.1 25 = .ok (.new 66, 3) := by decide +kernel
theorem d_zs_proposeChange_28 : decode m_zs_proposeChange.2.1 28 = .ok (.dup, 1) := by decide +kernel
theorem d_zs_proposeChange_29 : decode m_zs_proposeChange.2.1 29 = .ok (.invokespecial 68, 3) := by decide +kernel
theorem d_zs_proposeChange_32 : decode m_zs_proposeChange.2.1 32 = .ok (.athrow, 1) := by decide +kernel
theorem d_zs_proposeChange_33 : decode m_zs_proposeChange.2.1 33 = .ok (.aload_n 0, 1) := by decide +kernel
theorem d_zs_proposeChange_34 : decode m_zs_proposeChange.2.1 34 = .ok (.aload_n 1, 1) := by decide +kernel
theorem d_zs_proposeChange_35 : decode m_zs_proposeChange.2.1 35 = .ok (.invokevirtual 220, 3) := by decide +kernel
theorem d_zs_proposeChange_38 : decode m_zs_proposeChange.2.1 38 = .ok (.aload_n 0, 1) := by decide +kernel
theorem d_zs_proposeChange_39 : decode m_zs_proposeChange.2.1 39 = .ok (.invokevirtual 182, 3) := by decide +kernel
theorem d_zs_proposeChange_42 : decode m_zs_proposeChange.2.1 42 = .ok (.aload_n 0, 1) := by decide +kernel
theorem d_zs_proposeChange_43 : decode m_zs_proposeChange.2.1 43 = .ok (.invokevirtual 75, 3) := by decide +kernel
theorem d_zs_proposeChange_46 : decode m_zs_proposeChange.2.1 46 = .ok (.return_, 1) := by decide +kernel
theorem d_zs_set_0 : decode m_zs_set.2.1 0 = .ok (.iload_n 1, 1) := by decide +kernel
theorem d_zs_set_1 : decode m_zs_set.2.1 1 = .ok (.invokestatic 40, 3) := by decide +kernel
theorem d_zs_set_4 : decode m_zs_set.2.1 4 = .ok (.iload_n 2, 1) := by decide +kernel
theorem d_zs_set_5 : decode m_zs_set.2.1 5 = .ok (.invokestatic 142, 3) := by decide +kernel
theorem d_zs_set_8 : decode m_zs_set.2.1 8 = .ok (.iload_n 3, 1) := by decide +kernel
theorem d_zs_set_9 : decode m_zs_set.2.1 9 = .ok (.invokestatic 145, 3) := by decide +kernel
theorem d_zs_set_12 : decode m_zs_set.2.1 12 = .ok (.aload_n 0, 1) := by decide +kernel
theorem d_zs_set_13 : decode m_zs_set.2.1 13 = .ok (.iload_n 1, 1) := by decide +kernel
theorem d_zs_set_14 : decode m_zs_set.2.1 14 = .ok (.invokevirtual 72, 3) := by decide +kernel
theorem d_zs_set_17 : decode m_zs_set.2.1 17 = .ok (.aload_n 0, 1) := by decide +kernel
theorem d_zs_set_18 : decode m_zs_set.2.1 18 = .ok (.getfield 24, 3) := by decide +kernel
theorem d_zs_set_21 : decode m_zs_set.2.1 21 = .ok (.iload_n 2, 1) := by decide +kernel
theorem d_zs_set_22 : decode m_zs_set.2.1 22 = .ok (.invokestatic 109, 3) := by decide +kernel
theorem d_zs_set_25 : decode m_zs_set.2.1 25 = .ok (.aload_n 0, 1) := by decide +kernel
theorem d_zs_set_26 : decode m_zs_set.2.1 26 = .ok (.iload_n 2, 1) := by decide +kernel
theorem d_zs_set_27 : decode m_zs_set.2.1 27 = .ok (.iload_n 3, 1) := by decide +kernel
theorem d_zs_set_28 : decode m_zs_set.2.1 28 = .ok (.invokevirtual 148, 3) := by decide +kernel
theorem d_zs_set_31 : decode m_zs_set.2.1 31 = .ok (.ifCond .eq (6), 3) := by decide +kernel
theorem d_zs_set_34 : decode m_zs_set.2.1 34 = .ok (.bipush (-2), 2) := by decide +kernel
theorem d_zs_set_36 : decode m_zs_set.2.1 36 = .ok (.ireturn, 1) := by decide +kernel
theorem d_zs_set_37 : decode m_zs_set.2.1 37 = .ok (.aload_n 0, 1) := by decide +kernel
theorem d_zs_set_38 : decode m_zs_set.2.1 38 = .ok (.new 133, 3) := by decide +kernel
theorem d_zs_set_41 : decode m_zs_set.2.1 41 = .ok (.dup, 1) := by decide +kernel
theorem d_zs_set_42 : decode m_zs_set.2.1 42 = .ok (.iconst 1, 1) := by decide +kernel
theorem d_zs_set_43 : decode m_zs_set.2.1 43 = .ok (.iload_n 2, 1) := by decide +kernel
theorem d_zs_set_44 : decode m_zs_set.2.1 44 = .ok (.iload 4, 2) := by decide +kernel
theorem d_zs_set_46 : decode m_zs_set.2.1 46 = .ok (.iconst (-1), 1) := by decide +kernel
theorem d_zs_set_47 : decode m_zs_set.2.1 47 = .ok (.iconst 0, 1) := by decide +kernel
theorem d_zs_set_48 : decode m_zs_set.2.1 48 = .ok (.invokespecial 135, 3) := by decide +kernel
theorem d_zs_set_51 : decode m_zs_set.2.1 51 = .ok (.invokevirtual 138, 3) := by decide +kernel
theorem d_zs_set_54 : decode m_zs_set.2.1 54 = .ok (.aload_n 0, 1) := by decide +kernel
theorem d_zs_set_55 : decode m_zs_set.2.1 55 = .ok (.getfield 24, 3) := by decide +kernel
theorem d_zs_set_58 : decode m_zs_set.2.1 58 = .ok (.getfield 152, 3) := by decide +kernel
theorem d_zs_set_61 : decode m_zs_set.2.1 61 = .ok (.iload_n 2, 1) := by decide +kernel
theorem d_zs_set_62 : decode m_zs_set.2.1 62 = .ok (.iaload, 1) := by decide +kernel
theorem d_zs_set_63 : decode m_zs_set.2.1 63 = .ok (.ireturn, 1) := by decide +kernel
theorem d_zs_requirePath_0 : decode m_zs_requirePath.2.1 0 = .ok (.iload_n 0, 1) := by decide +kernel
theorem d_zs_requirePath_1 : decode m_zs_requirePath.2.1 1 = .ok (.iconst 0, 1) := by decide +kernel
theorem d_zs_requirePath_2 : decode m_zs_requirePath.2.1 2 = .ok (.sipush 258, 3) := by decide +kernel
theorem d_zs_requirePath_5 : decode m_zs_requirePath.2.1 5 = .ok (.invokestatic 47, 3) := by decide +kernel
theorem d_zs_requirePath_8 : decode m_zs_requirePath.2.1 8 = .ok (.return_, 1) := by decide +kernel
theorem d_zs_requireVersion_0 : decode m_zs_requireVersion.2.1 0 = .ok (.iload_n 0, 1) := by decide +kernel
theorem d_zs_requireVersion_1 : decode m_zs_requireVersion.2.1 1 = .ok (.iconst (-1), 1) := by decide +kernel
theorem d_zs_requireVersion_2 : decode m_zs_requireVersion.2.1 2 = .ok (.if_icmp .ge (11), 3) := by decide +kernel
theorem d_zs_requireVersion_5 : decode m_zs_requireVersion.2.1 5 = .ok (.new 217, 3) := by decide +kernel
theorem d_zs_requireVersion_8 : decode m_zs_requireVersion.2.1 8 = .ok (.dup, 1) := by decide +kernel
theorem d_zs_requireVersion_9 : decode m_zs_requireVersion.2.1 9 = .ok (.invokespecial 219, 3) := by decide +kernel
theorem d_zs_requireVersion_12 : decode m_zs_requireVersion.2.1 12 = .ok (.athrow, 1) := by decide +kernel
theorem d_zs_requireVersion_13 : decode m_zs_requireVersion.2.1 13 = .ok (.return_, 1) := by decide +kernel
theorem d_zs_isOtherVersion_0 : decode m_zs_isOtherVersion.2.1 0 = .ok (.iload_n 2, 1) := by decide +kernel
theorem d_zs_isOtherVersion_1 : decode m_zs_isOtherVersion.2.1 1 = .ok (.iconst (-1), 1) := by decide +kernel
theorem d_zs_isOtherVersion_2 : decode m_zs_isOtherVersion.2.1 2 = .ok (.if_icmp .eq (20), 3) := by decide +kernel
theorem d_zs_isOtherVersion_5 : decode m_zs_isOtherVersion.2.1 5 = .ok (.iload_n 2, 1) := by decide +kernel
theorem d_zs_isOtherVersion_6 : decode m_zs_isOtherVersion.2.1 6 = .ok (.aload_n 0, 1) := by decide +kernel
theorem d_zs_isOtherVersion_7 : decode m_zs_isOtherVersion.2.1 7 = .ok (.getfield 24, 3) := by decide +kernel
theorem d_zs_isOtherVersion_10 : decode m_zs_isOtherVersion.2.1 10 = .ok (.getfield 152, 3) := by decide +kernel
theorem d_zs_isOtherVersion_13 : decode m_zs_isOtherVersion.2.1 13 = .ok (.iload_n 1, 1) := by decide +kernel
theorem d_zs_isOtherVersion_14 : decode m_zs_isOtherVersion.2.1 14 = .ok (.iaload, 1) := by decide +kernel
theorem d_zs_isOtherVersion_15 : decode m_zs_isOtherVersion.2.1 15 = .ok (.if_icmp .eq (7), 3) := by decide +kernel
theorem d_zs_isOtherVersion_18 : decode m_zs_isOtherVersion.2.1 18 = .ok (.iconst 1, 1) := by decide +kernel
theorem d_zs_isOtherVersion_19 : decode m_zs_isOtherVersion.2.1 19 = .ok (.goto 4, 3) := by decide +kernel
theorem d_zs_isOtherVersion_22 : decode m_zs_isOtherVersion.2.1 22 = .ok (.iconst 0, 1) := by decide +kernel
theorem d_zs_isOtherVersion_23 : decode m_zs_isOtherVersion.2.1 23 = .ok (.ireturn, 1) := by decide +kernel
theorem d_zs_delete_0 : decode m_zs_delete.2.1 0 = .ok (.iload_n 1, 1) := by decide +kernel
theorem d_zs_delete_1 : decode m_zs_delete.2.1 1 = .ok (.invokestatic 40, 3) := by decide +kernel
theorem d_zs_delete_4 : decode m_zs_delete.2.1 4 = .ok (.iload_n 2, 1) := by decide +kernel
theorem d_zs_delete_5 : decode m_zs_delete.2.1 5 = .ok (.iconst 1, 1) := by decide +kernel
theorem d_zs_delete_6 : decode m_zs_delete.2.1 6 = .ok (.sipush 258, 3) := by decide +kernel
theorem d_zs_delete_9 : decode m_zs_delete.2.1 9 = .ok (.invokestatic 47, 3) := by decide +kernel
theorem d_zs_delete_12 : decode m_zs_delete.2.1 12 = .ok (.iload_n 3, 1) := by decide +kernel
theorem d_zs_delete_13 : decode m_zs_delete.2.1 13 = .ok (.invokestatic 145, 3) := by decide +kernel
theorem d_zs_delete_16 : decode m_zs_delete.2.1 16 = .ok (.aload_n 0, 1) := by decide +kernel
theorem d_zs_delete_17 : decode m_zs_delete.2.1 17 = .ok (.iload_n 1, 1) := by decide +kernel
theorem d_zs_delete_18 : decode m_zs_delete.2.1 18 = .ok (.invokevirtual 72, 3) := by decide +kernel
theorem d_zs_delete_21 : decode m_zs_delete.2.1 21 = .ok (.aload_n 0, 1) := by decide +kernel
theorem d_zs_delete_22 : decode m_zs_delete.2.1 22 = .ok (.getfield 24, 3) := by decide +kernel
theorem d_zs_delete_25 : decode m_zs_delete.2.1 25 = .ok (.iload_n 2, 1) := by decide +kernel
theorem d_zs_delete_26 : decode m_zs_delete.2.1 26 = .ok (.invokestatic 109, 3) := by decide +kernel
theorem d_zs_delete_29 : decode m_zs_delete.2.1 29 = .ok (.aload_n 0, 1) := by decide +kernel
theorem d_zs_delete_30 : decode m_zs_delete.2.1 30 = .ok (.iload_n 2, 1) := by decide +kernel
theorem d_zs_delete_31 : decode m_zs_delete.2.1 31 = .ok (.iload_n 3, 1) := by decide +kernel
theorem d_zs_delete_32 : decode m_zs_delete.2.1 32 = .ok (.invokevirtual 148, 3) := by decide +kernel
theorem d_zs_delete_35 : decode m_zs_delete.2.1 35 = .ok (.ifCond .eq (6), 3) := by decide +kernel
theorem d_zs_delete_38 : decode m_zs_delete.2.1 38 = .ok (.bipush (-2), 2) := by decide +kernel
theorem d_zs_delete_40 : decode m_zs_delete.2.1 40 = .ok (.ireturn, 1) := by decide +kernel
theorem d_zs_delete_41 : decode m_zs_delete.2.1 41 = .ok (.aload_n 0, 1) := by decide +kernel
theorem d_zs_delete_42 : decode m_zs_delete.2.1 42 = .ok (.getfield 24, 3) := by decide +kernel
theorem d_zs_delete_45 : decode m_zs_delete.2.1 45 = .ok (.iload_n 2, 1) := by decide +kernel
theorem d_zs_delete_46 : decode m_zs_delete.2.1 46 = .ok (.invokevirtual 155, 3) := by decide +kernel
theorem d_zs_delete_49 : decode m_zs_delete.2.1 49 = .ok (.ifCond .eq (11), 3) := by decide +kernel
theorem d_zs_delete_52 : decode m_zs_delete.2.1 52 = .ok (.new 120, 3) := by decide +kernel
theorem d_zs_delete_55 : decode m_zs_delete.2.1 55 = .ok (.dup, 1) := by decide +kernel
theorem d_zs_delete_56 : decode m_zs_delete.2.1 56 = .ok (.invokespecial 122, 3) := by decide +kernel
theorem d_zs_delete_59 : decode m_zs_delete.2.1 59 = .ok (.athrow, 1) := by decide +kernel
theorem d_zs_delete_60 : decode m_zs_delete.2.1 60 = .ok (.aload_n 0, 1) := by decide +kernel
theorem d_zs_delete_61 : decode m_zs_delete.2.1 61 = .ok (.getfield 24, 3) := by decide +kernel
theorem d_zs_delete_64 : decode m_zs_delete.2.1 64 = .ok (.getfield 152, 3) := by decide +kernel
theorem d_zs_delete_67 : decode m_zs_delete.2.1 67 = .ok (.iload_n 2, 1) := by decide +kernel
theorem d_zs_delete_68 : decode m_zs_delete.2.1 68 = .ok (.iaload, 1) := by decide +kernel
theorem d_zs_delete_69 : decode m_zs_delete.2.1 69 = .ok (.istore 4, 2) := by decide +kernel
theorem d_zs_delete_71 : decode m_zs_delete.2.1 71 = .ok (.aload_n 0, 1) := by decide +kernel
theorem d_zs_delete_72 : decode m_zs_delete.2.1 72 = .ok (.new 133, 3) := by decide +kernel
theorem d_zs_delete_75 : decode m_zs_delete.2.1 75 = .ok (.dup, 1) := by decide +kernel
theorem d_zs_delete_76 : decode m_zs_delete.2.1 76 = .ok (.iconst 2, 1) := by decide +kernel
theorem d_zs_delete_77 : decode m_zs_delete.2.1 77 = .ok (.iload_n 2, 1) := by decide +kernel
theorem d_zs_delete_78 : decode m_zs_delete.2.1 78 = .ok (.iconst 0, 1) := by decide +kernel
theorem d_zs_delete_79 : decode m_zs_delete.2.1 79 = .ok (.iconst (-1), 1) := by decide +kernel
theorem d_zs_delete_80 : decode m_zs_delete.2.1 80 = .ok (.iconst 0, 1) := by decide +kernel
theorem d_zs_delete_81 : decode m_zs_delete.2.1 81 = .ok (.invokespecial 135, 3) := by decide +kernel
theorem d_zs_delete_84 : decode m_zs_delete.2.1 84 = .ok (.invokevirtual 138, 3) := by decide +kernel
theorem d_zs_delete_87 : decode m_zs_delete.2.1 87 = .ok (.iload 4, 2) := by decide +kernel
theorem d_zs_delete_89 : decode m_zs_delete.2.1 89 = .ok (.ireturn, 1) := by decide +kernel
theorem d_zs_get_0 : decode m_zs_get.2.1 0 = .ok (.iload_n 1, 1) := by decide +kernel
theorem d_zs_get_1 : decode m_zs_get.2.1 1 = .ok (.invokestatic 40, 3) := by decide +kernel
theorem d_zs_get_4 : decode m_zs_get.2.1 4 = .ok (.iload_n 2, 1) := by decide +kernel
theorem d_zs_get_5 : decode m_zs_get.2.1 5 = .ok (.invokestatic 142, 3) := by decide +kernel
theorem d_zs_get_8 : decode m_zs_get.2.1 8 = .ok (.aload_n 0, 1) := by decide +kernel
theorem d_zs_get_9 : decode m_zs_get.2.1 9 = .ok (.iload_n 1, 1) := by decide +kernel
theorem d_zs_get_10 : decode m_zs_get.2.1 10 = .ok (.invokevirtual 158, 3) := by decide +kernel
theorem d_zs_get_13 : decode m_zs_get.2.1 13 = .ok (.astore 4, 2) := by decide +kernel
theorem d_zs_get_15 : decode m_zs_get.2.1 15 = .ok (.aload 4, 2) := by decide +kernel
theorem d_zs_get_17 : decode m_zs_get.2.1 17 = .ok (.iload_n 2, 1) := by decide +kernel
theorem d_zs_get_18 : decode m_zs_get.2.1 18 = .ok (.invokestatic 109, 3) := by decide +kernel
theorem d_zs_get_21 : decode m_zs_get.2.1 21 = .ok (.iload_n 3, 1) := by decide +kernel
theorem d_zs_get_22 : decode m_zs_get.2.1 22 = .ok (.ifCond .eq (14), 3) := by decide +kernel
theorem d_zs_get_25 : decode m_zs_get.2.1 25 = .ok (.aload_n 0, 1) := by decide +kernel
theorem d_zs_get_26 : decode m_zs_get.2.1 26 = .ok (.getfield 17, 3) := by decide +kernel
theorem d_zs_get_29 : decode m_zs_get.2.1 29 = .ok (.iload_n 1, 1) := by decide +kernel
theorem d_zs_get_30 : decode m_zs_get.2.1 30 = .ok (.aaload, 1) := by decide +kernel
theorem d_zs_get_31 : decode m_zs_get.2.1 31 = .ok (.iload_n 2, 1) := by decide +kernel
theorem d_zs_get_32 : decode m_zs_get.2.1 32 = .ok (.iconst 1, 1) := by decide +kernel
theorem d_zs_get_33 : decode m_zs_get.2.1 33 = .ok (.invokevirtual 162, 3) := by decide +kernel
theorem d_zs_get_36 : decode m_zs_get.2.1 36 = .ok (.aload 4, 2) := by decide +kernel
theorem d_zs_get_38 : decode m_zs_get.2.1 38 = .ok (.getfield 166, 3) := by decide +kernel
theorem d_zs_get_41 : decode m_zs_get.2.1 41 = .ok (.iload_n 2, 1) := by decide +kernel
theorem d_zs_get_42 : decode m_zs_get.2.1 42 = .ok (.iaload, 1) := by decide +kernel
theorem d_zs_get_43 : decode m_zs_get.2.1 43 = .ok (.ireturn, 1) := by decide +kernel
theorem d_zs_treeOf_0 : decode m_zs_treeOf.2.1 0 = .ok (.aload_n 0, 1) := by decide +kernel
theorem d_zs_treeOf_1 : decode m_zs_treeOf.2.1 1 = .ok (.getfield 17, 3) := by decide +kernel
theorem d_zs_treeOf_4 : decode m_zs_treeOf.2.1 4 = .ok (.iload_n 1, 1) := by decide +kernel
theorem d_zs_treeOf_5 : decode m_zs_treeOf.2.1 5 = .ok (.aaload, 1) := by decide +kernel
theorem d_zs_treeOf_6 : decode m_zs_treeOf.2.1 6 = .ok (.astore_n 2, 1) := by decide +kernel
theorem d_zs_treeOf_7 : decode m_zs_treeOf.2.1 7 = .ok (.aload_n 2, 1) := by decide +kernel
theorem d_zs_treeOf_8 : decode m_zs_treeOf.2.1 8 = .ok (.getfield 51, 3) := by decide +kernel
theorem d_zs_treeOf_11 : decode m_zs_treeOf.2.1 11 = .ok (.ifCond .eq (18), 3) := by decide +kernel
theorem d_zs_treeOf_14 : decode m_zs_treeOf.2.1 14 = .ok (.aload_n 0, 1) := by decide +kernel
theorem d_zs_treeOf_15 : decode m_zs_treeOf.2.1 15 = .ok (.getfield 11, 3) := by decide +kernel
theorem d_zs_treeOf_18 : decode m_zs_treeOf.2.1 18 = .ok (.aload_n 2, 1) := by decide +kernel
theorem d_zs_treeOf_19 : decode m_zs_treeOf.2.1 19 = .ok (.getfield 100, 3) := by decide +kernel
theorem d_zs_treeOf_22 : decode m_zs_treeOf.2.1 22 = .ok (.aaload, 1) := by decide +kernel
theorem d_zs_treeOf_23 : decode m_zs_treeOf.2.1 23 = .ok (.getfield 97, 3) := by decide +kernel
theorem d_zs_treeOf_26 : decode m_zs_treeOf.2.1 26 = .ok (.ifCond .ne (11), 3) := by decide +kernel
theorem d_zs_treeOf_29 : decode m_zs_treeOf.2.1 29 = .ok (.new 66, 3) := by decide +kernel
theorem d_zs_treeOf_32 : decode m_zs_treeOf.2.1 32 = .ok (.dup, 1) := by decide +kernel
theorem d_zs_treeOf_33 : decode m_zs_treeOf.2.1 33 = .ok (.invokespecial 68, 3) := by decide +kernel
theorem d_zs_treeOf_36 : decode m_zs_treeOf.2.1 36 = .ok (.athrow, 1) := by decide +kernel
theorem d_zs_treeOf_37 : decode m_zs_treeOf.2.1 37 = .ok (.aload_n 0, 1) := by decide +kernel
theorem d_zs_treeOf_38 : decode m_zs_treeOf.2.1 38 = .ok (.getfield 11, 3) := by decide +kernel
theorem d_zs_treeOf_41 : decode m_zs_treeOf.2.1 41 = .ok (.aload_n 2, 1) := by decide +kernel
theorem d_zs_treeOf_42 : decode m_zs_treeOf.2.1 42 = .ok (.getfield 100, 3) := by decide +kernel
theorem d_zs_treeOf_45 : decode m_zs_treeOf.2.1 45 = .ok (.aaload, 1) := by decide +kernel
theorem d_zs_treeOf_46 : decode m_zs_treeOf.2.1 46 = .ok (.getfield 205, 3) := by decide +kernel
theorem d_zs_treeOf_49 : decode m_zs_treeOf.2.1 49 = .ok (.areturn, 1) := by decide +kernel
theorem d_zs_exists_0 : decode m_zs_exists.2.1 0 = .ok (.iload_n 1, 1) := by decide +kernel
theorem d_zs_exists_1 : decode m_zs_exists.2.1 1 = .ok (.invokestatic 40, 3) := by decide +kernel
theorem d_zs_exists_4 : decode m_zs_exists.2.1 4 = .ok (.iload_n 2, 1) := by decide +kernel
theorem d_zs_exists_5 : decode m_zs_exists.2.1 5 = .ok (.invokestatic 142, 3) := by decide +kernel
theorem d_zs_exists_8 : decode m_zs_exists.2.1 8 = .ok (.aload_n 0, 1) := by decide +kernel
theorem d_zs_exists_9 : decode m_zs_exists.2.1 9 = .ok (.iload_n 1, 1) := by decide +kernel
theorem d_zs_exists_10 : decode m_zs_exists.2.1 10 = .ok (.invokevirtual 158, 3) := by decide +kernel
theorem d_zs_exists_13 : decode m_zs_exists.2.1 13 = .ok (.astore 4, 2) := by decide +kernel
theorem d_zs_exists_15 : decode m_zs_exists.2.1 15 = .ok (.iload_n 3, 1) := by decide +kernel
theorem d_zs_exists_16 : decode m_zs_exists.2.1 16 = .ok (.ifCond .eq (14), 3) := by decide +kernel
theorem d_zs_exists_19 : decode m_zs_exists.2.1 19 = .ok (.aload_n 0, 1) := by decide +kernel
theorem d_zs_exists_20 : decode m_zs_exists.2.1 20 = .ok (.getfield 17, 3) := by decide +kernel
theorem d_zs_exists_23 : decode m_zs_exists.2.1 23 = .ok (.iload_n 1, 1) := by decide +kernel
theorem d_zs_exists_24 : decode m_zs_exists.2.1 24 = .ok (.aaload, 1) := by decide +kernel
theorem d_zs_exists_25 : decode m_zs_exists.2.1 25 = .ok (.iload_n 2, 1) := by decide +kernel
theorem d_zs_exists_26 : decode m_zs_exists.2.1 26 = .ok (.iconst 1, 1) := by decide +kernel
theorem d_zs_exists_27 : decode m_zs_exists.2.1 27 = .ok (.invokevirtual 162, 3) := by decide +kernel
theorem d_zs_exists_30 : decode m_zs_exists.2.1 30 = .ok (.aload 4, 2) := by decide +kernel
theorem d_zs_exists_32 : decode m_zs_exists.2.1 32 = .ok (.iload_n 2, 1) := by decide +kernel
theorem d_zs_exists_33 : decode m_zs_exists.2.1 33 = .ok (.invokevirtual 127, 3) := by decide +kernel
theorem d_zs_exists_36 : decode m_zs_exists.2.1 36 = .ok (.ireturn, 1) := by decide +kernel
theorem d_zs_children_0 : decode m_zs_children.2.1 0 = .ok (.iload_n 1, 1) := by decide +kernel
theorem d_zs_children_1 : decode m_zs_children.2.1 1 = .ok (.invokestatic 40, 3) := by decide +kernel
theorem d_zs_children_4 : decode m_zs_children.2.1 4 = .ok (.iload_n 2, 1) := by decide +kernel
theorem d_zs_children_5 : decode m_zs_children.2.1 5 = .ok (.iconst 0, 1) := by decide +kernel
theorem d_zs_children_6 : decode m_zs_children.2.1 6 = .ok (.bipush 42, 2) := by decide +kernel
theorem d_zs_children_8 : decode m_zs_children.2.1 8 = .ok (.invokestatic 47, 3) := by decide +kernel
theorem d_zs_children_11 : decode m_zs_children.2.1 11 = .ok (.aload_n 0, 1) := by decide +kernel
theorem d_zs_children_12 : decode m_zs_children.2.1 12 = .ok (.iload_n 1, 1) := by decide +kernel
theorem d_zs_children_13 : decode m_zs_children.2.1 13 = .ok (.invokevirtual 158, 3) := by decide +kernel
theorem d_zs_children_16 : decode m_zs_children.2.1 16 = .ok (.astore 4, 2) := by decide +kernel
theorem d_zs_children_18 : decode m_zs_children.2.1 18 = .ok (.aload 4, 2) := by decide +kernel
theorem d_zs_children_20 : decode m_zs_children.2.1 20 = .ok (.iload_n 2, 1) := by decide +kernel
theorem d_zs_children_21 : decode m_zs_children.2.1 21 = .ok (.invokestatic 109, 3) := by decide +kernel
theorem d_zs_children_24 : decode m_zs_children.2.1 24 = .ok (.iload_n 3, 1) := by decide +kernel
theorem d_zs_children_25 : decode m_zs_children.2.1 25 = .ok (.ifCond .eq (14), 3) := by decide +kernel
theorem d_zs_children_28 : decode m_zs_children.2.1 28 = .ok (.aload_n 0, 1) := by decide +kernel
theorem d_zs_children_29 : decode m_zs_children.2.1 29 = .ok (.getfield 17, 3) := by decide +kernel
theorem d_zs_children_32 : decode m_zs_children.2.1 32 = .ok (.iload_n 1, 1) := by decide +kernel
theorem d_zs_children_33 : decode m_zs_children.2.1 33 = .ok (.aaload, 1) := by decide +kernel
theorem d_zs_children_34 : decode m_zs_children.2.1 34 = .ok (.iload_n 2, 1) := by decide +kernel
theorem d_zs_children_35 : decode m_zs_children.2.1 35 = .ok (.iconst 2, 1) := by decide +kernel
theorem d_zs_children_36 : decode m_zs_children.2.1 36 = .ok (.invokevirtual 162, 3) := by decide +kernel
theorem d_zs_children_39 : decode m_zs_children.2.1 39 = .ok (.aload 4, 2) := by decide +kernel
theorem d_zs_children_41 : decode m_zs_children.2.1 41 = .ok (.iload_n 2, 1) := by decide +kernel
theorem d_zs_children_42 : decode m_zs_children.2.1 42 = .ok (.invokevirtual 155, 3) := by decide +kernel
theorem d_zs_children_45 : decode m_zs_children.2.1 45 = .ok (.ireturn, 1) := by decide +kernel
theorem d_zs_fact_0 : decode m_zs_fact.2.1 0 = .ok (.iload_n 1, 1) := by decide +kernel
theorem d_zs_fact_1 : decode m_zs_fact.2.1 1 = .ok (.invokestatic 40, 3) := by decide +kernel
theorem d_zs_fact_4 : decode m_zs_fact.2.1 4 = .ok (.iload_n 2, 1) := by decide +kernel
theorem d_zs_fact_5 : decode m_zs_fact.2.1 5 = .ok (.invokestatic 142, 3) := by decide +kernel
theorem d_zs_fact_8 : decode m_zs_fact.2.1 8 = .ok (.iload_n 3, 1) := by decide +kernel
theorem d_zs_fact_9 : decode m_zs_fact.2.1 9 = .ok (.iconst 0, 1) := by decide +kernel
theorem d_zs_fact_10 : decode m_zs_fact.2.1 10 = .ok (.iconst 2, 1) := by decide +kernel
theorem d_zs_fact_11 : decode m_zs_fact.2.1 11 = .ok (.invokestatic 47, 3) := by decide +kernel
theorem d_zs_fact_14 : decode m_zs_fact.2.1 14 = .ok (.aload_n 0, 1) := by decide +kernel
theorem d_zs_fact_15 : decode m_zs_fact.2.1 15 = .ok (.iload_n 1, 1) := by decide +kernel
theorem d_zs_fact_16 : decode m_zs_fact.2.1 16 = .ok (.invokevirtual 158, 3) := by decide +kernel
theorem d_zs_fact_19 : decode m_zs_fact.2.1 19 = .ok (.astore 4, 2) := by decide +kernel
theorem d_zs_fact_21 : decode m_zs_fact.2.1 21 = .ok (.aload 4, 2) := by decide +kernel
theorem d_zs_fact_23 : decode m_zs_fact.2.1 23 = .ok (.iload_n 2, 1) := by decide +kernel
theorem d_zs_fact_24 : decode m_zs_fact.2.1 24 = .ok (.invokestatic 109, 3) := by decide +kernel
theorem d_zs_fact_27 : decode m_zs_fact.2.1 27 = .ok (.iload_n 3, 1) := by decide +kernel
theorem d_zs_fact_28 : decode m_zs_fact.2.1 28 = .ok (.lookupswitch (54) #[(0, 28), (1, 36)], 28) := by decide +kernel
theorem d_zs_fact_56 : decode m_zs_fact.2.1 56 = .ok (.aload 4, 2) := by decide +kernel
theorem d_zs_fact_58 : decode m_zs_fact.2.1 58 = .ok (.getfield 152, 3) := by decide +kernel
theorem d_zs_fact_61 : decode m_zs_fact.2.1 61 = .ok (.iload_n 2, 1) := by decide +kernel
theorem d_zs_fact_62 : decode m_zs_fact.2.1 62 = .ok (.iaload, 1) := by decide +kernel
theorem d_zs_fact_63 : decode m_zs_fact.2.1 63 = .ok (.ireturn, 1) := by decide +kernel
theorem d_zs_fact_64 : decode m_zs_fact.2.1 64 = .ok (.iload_n 2, 1) := by decide +kernel
theorem d_zs_fact_65 : decode m_zs_fact.2.1 65 = .ok (.bipush 43, 2) := by decide +kernel
theorem d_zs_fact_67 : decode m_zs_fact.2.1 67 = .ok (.if_icmp .ge (13), 3) := by decide +kernel
theorem d_zs_fact_70 : decode m_zs_fact.2.1 70 = .ok (.aload 4, 2) := by decide +kernel
theorem d_zs_fact_72 : decode m_zs_fact.2.1 72 = .ok (.getfield 117, 3) := by decide +kernel
theorem d_zs_fact_75 : decode m_zs_fact.2.1 75 = .ok (.iload_n 2, 1) := by decide +kernel
theorem d_zs_fact_76 : decode m_zs_fact.2.1 76 = .ok (.iaload, 1) := by decide +kernel
theorem d_zs_fact_77 : decode m_zs_fact.2.1 77 = .ok (.goto 4, 3) := by decide +kernel
theorem d_zs_fact_80 : decode m_zs_fact.2.1 80 = .ok (.iconst 0, 1) := by decide +kernel
theorem d_zs_fact_81 : decode m_zs_fact.2.1 81 = .ok (.ireturn, 1) := by decide +kernel
theorem d_zs_fact_82 : decode m_zs_fact.2.1 82 = .ok (.aload 4, 2) := by decide +kernel
theorem d_zs_fact_84 : decode m_zs_fact.2.1 84 = .ok (.getfield 113, 3) := by decide +kernel
theorem d_zs_fact_87 : decode m_zs_fact.2.1 87 = .ok (.iload_n 2, 1) := by decide +kernel
theorem d_zs_fact_88 : decode m_zs_fact.2.1 88 = .ok (.iaload, 1) := by decide +kernel
theorem d_zs_fact_89 : decode m_zs_fact.2.1 89 = .ok (.ireturn, 1) := by decide +kernel
theorem d_zs_event_0 : decode m_zs_event.2.1 0 = .ok (.iload_n 1, 1) := by decide +kernel
theorem d_zs_event_1 : decode m_zs_event.2.1 1 = .ok (.invokestatic 40, 3) := by decide +kernel
theorem d_zs_event_4 : decode m_zs_event.2.1 4 = .ok (.aload_n 0, 1) := by decide +kernel
theorem d_zs_event_5 : decode m_zs_event.2.1 5 = .ok (.iload_n 1, 1) := by decide +kernel
theorem d_zs_event_6 : decode m_zs_event.2.1 6 = .ok (.invokevirtual 94, 3) := by decide +kernel
theorem d_zs_event_9 : decode m_zs_event.2.1 9 = .ok (.aload_n 0, 1) := by decide +kernel
theorem d_zs_event_10 : decode m_zs_event.2.1 10 = .ok (.getfield 17, 3) := by decide +kernel
theorem d_zs_event_13 : decode m_zs_event.2.1 13 = .ok (.iload_n 1, 1) := by decide +kernel
theorem d_zs_event_14 : decode m_zs_event.2.1 14 = .ok (.aaload, 1) := by decide +kernel
theorem d_zs_event_15 : decode m_zs_event.2.1 15 = .ok (.getfield 91, 3) := by decide +kernel
theorem d_zs_event_18 : decode m_zs_event.2.1 18 = .ok (.ifCond .ne (11), 3) := by decide +kernel
theorem d_zs_event_21 : decode m_zs_event.2.1 21 = .ok (.new 169, 3) := by decide +kernel
theorem d_zs_event_24 : decode m_zs_event.2.1 24 = .ok (.dup, 1) := by decide +kernel
theorem d_zs_event_25 : decode m_zs_event.2.1 25 = .ok (.invokespecial 171, 3) := by decide +kernel
theorem d_zs_event_28 : decode m_zs_event.2.1 28 = .ok (.athrow, 1) := by decide +kernel
theorem d_zs_event_29 : decode m_zs_event.2.1 29 = .ok (.aload_n 0, 1) := by decide +kernel
theorem d_zs_event_30 : decode m_zs_event.2.1 30 = .ok (.getfield 17, 3) := by decide +kernel
theorem d_zs_event_33 : decode m_zs_event.2.1 33 = .ok (.iload_n 1, 1) := by decide +kernel
theorem d_zs_event_34 : decode m_zs_event.2.1 34 = .ok (.aaload, 1) := by decide +kernel
theorem d_zs_event_35 : decode m_zs_event.2.1 35 = .ok (.invokevirtual 172, 3) := by decide +kernel
theorem d_zs_event_38 : decode m_zs_event.2.1 38 = .ok (.ireturn, 1) := by decide +kernel
theorem d_zs_crash_0 : decode m_zs_crash.2.1 0 = .ok (.iload_n 1, 1) := by decide +kernel
theorem d_zs_crash_1 : decode m_zs_crash.2.1 1 = .ok (.invokestatic 44, 3) := by decide +kernel
theorem d_zs_crash_4 : decode m_zs_crash.2.1 4 = .ok (.aload_n 0, 1) := by decide +kernel
theorem d_zs_crash_5 : decode m_zs_crash.2.1 5 = .ok (.getfield 11, 3) := by decide +kernel
theorem d_zs_crash_8 : decode m_zs_crash.2.1 8 = .ok (.iload_n 1, 1) := by decide +kernel
theorem d_zs_crash_9 : decode m_zs_crash.2.1 9 = .ok (.aaload, 1) := by decide +kernel
theorem d_zs_crash_10 : decode m_zs_crash.2.1 10 = .ok (.astore_n 2, 1) := by decide +kernel
theorem d_zs_crash_11 : decode m_zs_crash.2.1 11 = .ok (.aload_n 2, 1) := by decide +kernel
theorem d_zs_crash_12 : decode m_zs_crash.2.1 12 = .ok (.getfield 97, 3) := by decide +kernel
theorem d_zs_crash_15 : decode m_zs_crash.2.1 15 = .ok (.ifCond .ne (11), 3) := by decide +kernel
theorem d_zs_crash_18 : decode m_zs_crash.2.1 18 = .ok (.new 66, 3) := by decide +kernel
theorem d_zs_crash_21 : decode m_zs_crash.2.1 21 = .ok (.dup, 1) := by decide +kernel
theorem d_zs_crash_22 : decode m_zs_crash.2.1 22 = .ok (.invokespecial 68, 3) := by decide +kernel
theorem d_zs_crash_25 : decode m_zs_crash.2.1 25 = .ok (.athrow, 1) := by decide +kernel
theorem d_zs_crash_26 : decode m_zs_crash.2.1 26 = .ok (.aload_n 2, 1) := by decide +kernel
theorem d_zs_crash_27 : decode m_zs_crash.2.1 27 = .ok (.iconst 0, 1) := by decide +kernel
theorem d_zs_crash_28 : decode m_zs_crash.2.1 28 = .ok (.putfield 97, 3) := by decide +kernel
theorem d_zs_crash_31 : decode m_zs_crash.2.1 31 = .ok (.iload_n 1, 1) := by decide +kernel
theorem d_zs_crash_32 : decode m_zs_crash.2.1 32 = .ok (.aload_n 0, 1) := by decide +kernel
theorem d_zs_crash_33 : decode m_zs_crash.2.1 33 = .ok (.getfield 28, 3) := by decide +kernel
theorem d_zs_crash_36 : decode m_zs_crash.2.1 36 = .ok (.if_icmp .ne (8), 3) := by decide +kernel
theorem d_zs_crash_39 : decode m_zs_crash.2.1 39 = .ok (.aload_n 0, 1) := by decide +kernel
theorem d_zs_crash_40 : decode m_zs_crash.2.1 40 = .ok (.iconst (-1), 1) := by decide +kernel
theorem d_zs_crash_41 : decode m_zs_crash.2.1 41 = .ok (.putfield 28, 3) := by decide +kernel
theorem d_zs_crash_44 : decode m_zs_crash.2.1 44 = .ok (.iconst 0, 1) := by decide +kernel
theorem d_zs_crash_45 : decode m_zs_crash.2.1 45 = .ok (.istore_n 3, 1) := by decide +kernel
theorem d_zs_crash_46 : decode m_zs_crash.2.1 46 = .ok (.iload_n 3, 1) := by decide +kernel
theorem d_zs_crash_47 : decode m_zs_crash.2.1 47 = .ok (.iconst 4, 1) := by decide +kernel
theorem d_zs_crash_48 : decode m_zs_crash.2.1 48 = .ok (.if_icmp .ge (27), 3) := by decide +kernel
theorem d_zs_crash_51 : decode m_zs_crash.2.1 51 = .ok (.aload_n 0, 1) := by decide +kernel
theorem d_zs_crash_52 : decode m_zs_crash.2.1 52 = .ok (.iload_n 3, 1) := by decide +kernel
theorem d_zs_crash_53 : decode m_zs_crash.2.1 53 = .ok (.iload_n 1, 1) := by decide +kernel
theorem d_zs_crash_54 : decode m_zs_crash.2.1 54 = .ok (.invokevirtual 176, 3) := by decide +kernel
theorem d_zs_crash_57 : decode m_zs_crash.2.1 57 = .ok (.ifCond .eq (12), 3) := by decide +kernel
theorem d_zs_crash_60 : decode m_zs_crash.2.1 60 = .ok (.aload_n 0, 1) := by decide +kernel
theorem d_zs_crash_61 : decode m_zs_crash.2.1 61 = .ok (.getfield 17, 3) := by decide +kernel
theorem d_zs_crash_64 : decode m_zs_crash.2.1 64 = .ok (.iload_n 3, 1) := by decide +kernel
theorem d_zs_crash_65 : decode m_zs_crash.2.1 65 = .ok (.aaload, 1) := by decide +kernel
theorem d_zs_crash_66 : decode m_zs_crash.2.1 66 = .ok (.invokevirtual 103, 3) := by decide +kernel
theorem d_zs_crash_69 : decode m_zs_crash.2.1 69 = .ok (.iinc 3 1, 3) := by decide +kernel
theorem d_zs_crash_72 : decode m_zs_crash.2.1 72 = .ok (.goto (-26), 3) := by decide +kernel
theorem d_zs_crash_75 : decode m_zs_crash.2.1 75 = .ok (.aload_n 2, 1) := by decide +kernel
theorem d_zs_crash_76 : decode m_zs_crash.2.1 76 = .ok (.getfield 179, 3) := by decide +kernel
theorem d_zs_crash_79 : decode m_zs_crash.2.1 79 = .ok (.ireturn, 1) := by decide +kernel
theorem d_zs_restart_0 : decode m_zs_restart.2.1 0 = .ok (.iload_n 1, 1) := by decide +kernel
theorem d_zs_restart_1 : decode m_zs_restart.2.1 1 = .ok (.invokestatic 44, 3) := by decide +kernel
theorem d_zs_restart_4 : decode m_zs_restart.2.1 4 = .ok (.aload_n 0, 1) := by decide +kernel
theorem d_zs_restart_5 : decode m_zs_restart.2.1 5 = .ok (.getfield 11, 3) := by decide +kernel
theorem d_zs_restart_8 : decode m_zs_restart.2.1 8 = .ok (.iload_n 1, 1) := by decide +kernel
theorem d_zs_restart_9 : decode m_zs_restart.2.1 9 = .ok (.aaload, 1) := by decide +kernel
theorem d_zs_restart_10 : decode m_zs_restart.2.1 10 = .ok (.astore_n 2, 1) := by decide +kernel
theorem d_zs_restart_11 : decode m_zs_restart.2.1 11 = .ok (.aload_n 2, 1) := by decide +kernel
theorem d_zs_restart_12 : decode m_zs_restart.2.1 12 = .ok (.getfield 97, 3) := by decide +kernel
theorem d_zs_restart_15 : decode m_zs_restart.2.1 15 = .ok (.ifCond .eq (11), 3) := by decide +kernel
theorem d_zs_restart_18 : decode m_zs_restart.2.1 18 = .ok (.new 66, 3) := by decide +kernel
theorem d_zs_restart_21 : decode m_zs_restart.2.1 21 = .ok (.dup, 1) := by decide +kernel
theorem d_zs_restart_22 : decode m_zs_restart.2.1 22 = .ok (.invokespecial 68, 3) := by decide +kernel
theorem d_zs_restart_25 : decode m_zs_restart.2.1 25 = .ok (.athrow, 1) := by decide +kernel
theorem d_zs_restart_26 : decode m_zs_restart.2.1 26 = .ok (.aload_n 2, 1) := by decide +kernel
theorem d_zs_restart_27 : decode m_zs_restart.2.1 27 = .ok (.iconst 1, 1) := by decide +kernel
theorem d_zs_restart_28 : decode m_zs_restart.2.1 28 = .ok (.putfield 97, 3) := by decide +kernel
theorem d_zs_restart_31 : decode m_zs_restart.2.1 31 = .ok (.aload_n 0, 1) := by decide +kernel
theorem d_zs_restart_32 : decode m_zs_restart.2.1 32 = .ok (.invokevirtual 182, 3) := by decide +kernel
theorem d_zs_restart_35 : decode m_zs_restart.2.1 35 = .ok (.aload_n 2, 1) := by decide +kernel
theorem d_zs_restart_36 : decode m_zs_restart.2.1 36 = .ok (.getfield 185, 3) := by decide +kernel
theorem d_zs_restart_39 : decode m_zs_restart.2.1 39 = .ok (.istore_n 3, 1) := by decide +kernel
theorem d_zs_restart_40 : decode m_zs_restart.2.1 40 = .ok (.aload_n 0, 1) := by decide +kernel
theorem d_zs_restart_41 : decode m_zs_restart.2.1 41 = .ok (.invokevirtual 85, 3) := by decide +kernel
theorem d_zs_restart_44 : decode m_zs_restart.2.1 44 = .ok (.iload_n 3, 1) := by decide +kernel
theorem d_zs_restart_45 : decode m_zs_restart.2.1 45 = .ok (.ireturn, 1) := by decide +kernel
theorem d_zs_alone_0 : decode m_zs_alone.2.1 0 = .ok (.iload_n 1, 1) := by decide +kernel
theorem d_zs_alone_1 : decode m_zs_alone.2.1 1 = .ok (.invokestatic 44, 3) := by decide +kernel
theorem d_zs_alone_4 : decode m_zs_alone.2.1 4 = .ok (.aload_n 0, 1) := by decide +kernel
theorem d_zs_alone_5 : decode m_zs_alone.2.1 5 = .ok (.getfield 11, 3) := by decide +kernel
theorem d_zs_alone_8 : decode m_zs_alone.2.1 8 = .ok (.iload_n 1, 1) := by decide +kernel
theorem d_zs_alone_9 : decode m_zs_alone.2.1 9 = .ok (.aaload, 1) := by decide +kernel
theorem d_zs_alone_10 : decode m_zs_alone.2.1 10 = .ok (.getfield 188, 3) := by decide +kernel
theorem d_zs_alone_13 : decode m_zs_alone.2.1 13 = .ok (.istore_n 3, 1) := by decide +kernel
theorem d_zs_alone_14 : decode m_zs_alone.2.1 14 = .ok (.aload_n 0, 1) := by decide +kernel
theorem d_zs_alone_15 : decode m_zs_alone.2.1 15 = .ok (.getfield 11, 3) := by decide +kernel
theorem d_zs_alone_18 : decode m_zs_alone.2.1 18 = .ok (.iload_n 1, 1) := by decide +kernel
theorem d_zs_alone_19 : decode m_zs_alone.2.1 19 = .ok (.aaload, 1) := by decide +kernel
theorem d_zs_alone_20 : decode m_zs_alone.2.1 20 = .ok (.iload_n 2, 1) := by decide +kernel
theorem d_zs_alone_21 : decode m_zs_alone.2.1 21 = .ok (.putfield 188, 3) := by decide +kernel
theorem d_zs_alone_24 : decode m_zs_alone.2.1 24 = .ok (.aload_n 0, 1) := by decide +kernel
theorem d_zs_alone_25 : decode m_zs_alone.2.1 25 = .ok (.invokevirtual 182, 3) := by decide +kernel
theorem d_zs_alone_28 : decode m_zs_alone.2.1 28 = .ok (.aload_n 0, 1) := by decide +kernel
theorem d_zs_alone_29 : decode m_zs_alone.2.1 29 = .ok (.invokevirtual 85, 3) := by decide +kernel
theorem d_zs_alone_32 : decode m_zs_alone.2.1 32 = .ok (.iload_n 3, 1) := by decide +kernel
theorem d_zs_alone_33 : decode m_zs_alone.2.1 33 = .ok (.iload_n 2, 1) := by decide +kernel
theorem d_zs_alone_34 : decode m_zs_alone.2.1 34 = .ok (.if_icmp .eq (7), 3) := by decide +kernel
theorem d_zs_alone_37 : decode m_zs_alone.2.1 37 = .ok (.iconst 1, 1) := by decide +kernel
theorem d_zs_alone_38 : decode m_zs_alone.2.1 38 = .ok (.goto 4, 3) := by decide +kernel
theorem d_zs_alone_41 : decode m_zs_alone.2.1 41 = .ok (.iconst 0, 1) := by decide +kernel
theorem d_zs_alone_42 : decode m_zs_alone.2.1 42 = .ok (.ireturn, 1) := by decide +kernel
theorem d_zs_elect_0 : decode m_zs_elect.2.1 0 = .ok (.iconst 0, 1) := by decide +kernel
theorem d_zs_elect_1 : decode m_zs_elect.2.1 1 = .ok (.istore_n 1, 1) := by decide +kernel
theorem d_zs_elect_2 : decode m_zs_elect.2.1 2 = .ok (.iconst (-1), 1) := by decide +kernel
theorem d_zs_elect_3 : decode m_zs_elect.2.1 3 = .ok (.istore_n 2, 1) := by decide +kernel
theorem d_zs_elect_4 : decode m_zs_elect.2.1 4 = .ok (.iconst 0, 1) := by decide +kernel
theorem d_zs_elect_5 : decode m_zs_elect.2.1 5 = .ok (.istore_n 3, 1) := by decide +kernel
theorem d_zs_elect_6 : decode m_zs_elect.2.1 6 = .ok (.iload_n 3, 1) := by decide +kernel
theorem d_zs_elect_7 : decode m_zs_elect.2.1 7 = .ok (.iconst 3, 1) := by decide +kernel
theorem d_zs_elect_8 : decode m_zs_elect.2.1 8 = .ok (.if_icmp .ge (49), 3) := by decide +kernel
theorem d_zs_elect_11 : decode m_zs_elect.2.1 11 = .ok (.aload_n 0, 1) := by decide +kernel
theorem d_zs_elect_12 : decode m_zs_elect.2.1 12 = .ok (.getfield 11, 3) := by decide +kernel
theorem d_zs_elect_15 : decode m_zs_elect.2.1 15 = .ok (.iload_n 3, 1) := by decide +kernel
theorem d_zs_elect_16 : decode m_zs_elect.2.1 16 = .ok (.aaload, 1) := by decide +kernel
theorem d_zs_elect_17 : decode m_zs_elect.2.1 17 = .ok (.invokevirtual 191, 3) := by decide +kernel
theorem d_zs_elect_20 : decode m_zs_elect.2.1 20 = .ok (.ifCond .eq (31), 3) := by decide +kernel
theorem d_zs_elect_23 : decode m_zs_elect.2.1 23 = .ok (.iinc 1 1, 3) := by decide +kernel
theorem d_zs_elect_26 : decode m_zs_elect.2.1 26 = .ok (.iload_n 2, 1) := by decide +kernel
theorem d_zs_elect_27 : decode m_zs_elect.2.1 27 = .ok (.iconst (-1), 1) := by decide +kernel
theorem d_zs_elect_28 : decode m_zs_elect.2.1 28 = .ok (.if_icmp .eq (21), 3) := by decide +kernel
theorem d_zs_elect_31 : decode m_zs_elect.2.1 31 = .ok (.aload_n 0, 1) := by decide +kernel
theorem d_zs_elect_32 : decode m_zs_elect.2.1 32 = .ok (.getfield 11, 3) := by decide +kernel
theorem d_zs_elect_35 : decode m_zs_elect.2.1 35 = .ok (.iload_n 3, 1) := by decide +kernel
theorem d_zs_elect_36 : decode m_zs_elect.2.1 36 = .ok (.aaload, 1) := by decide +kernel
theorem d_zs_elect_37 : decode m_zs_elect.2.1 37 = .ok (.aload_n 0, 1) := by decide +kernel
theorem d_zs_elect_38 : decode m_zs_elect.2.1 38 = .ok (.getfield 11, 3) := by decide +kernel
theorem d_zs_elect_41 : decode m_zs_elect.2.1 41 = .ok (.iload_n 2, 1) := by decide +kernel
theorem d_zs_elect_42 : decode m_zs_elect.2.1 42 = .ok (.aaload, 1) := by decide +kernel
theorem d_zs_elect_43 : decode m_zs_elect.2.1 43 = .ok (.invokevirtual 194, 3) := by decide +kernel
theorem d_zs_elect_46 : decode m_zs_elect.2.1 46 = .ok (.ifCond .eq (5), 3) := by decide +kernel
theorem d_zs_elect_49 : decode m_zs_elect.2.1 49 = .ok (.iload_n 3, 1) := by decide +kernel
theorem d_zs_elect_50 : decode m_zs_elect.2.1 50 = .ok (.istore_n 2, 1) := by decide +kernel
theorem d_zs_elect_51 : decode m_zs_elect.2.1 51 = .ok (.iinc 3 1, 3) := by decide +kernel
theorem d_zs_elect_54 : decode m_zs_elect.2.1 54 = .ok (.goto (-48), 3) := by decide +kernel
theorem d_zs_elect_57 : decode m_zs_elect.2.1 57 = .ok (.iload_n 1, 1) := by decide +kernel
theorem d_zs_elect_58 : decode m_zs_elect.2.1 58 = .ok (.iconst 2, 1) := by decide +kernel
theorem d_zs_elect_59 : decode m_zs_elect.2.1 59 = .ok (.if_icmp .lt (8), 3) := by decide +kernel
theorem d_zs_elect_62 : decode m_zs_elect.2.1 62 = .ok (.iload_n 2, 1) := by decide +kernel
theorem d_zs_elect_63 : decode m_zs_elect.2.1 63 = .ok (.iconst (-1), 1) := by decide +kernel
theorem d_zs_elect_64 : decode m_zs_elect.2.1 64 = .ok (.if_icmp .ne (11), 3) := by decide +kernel
theorem d_zs_elect_67 : decode m_zs_elect.2.1 67 = .ok (.new 66, 3) := by decide +kernel
theorem d_zs_elect_70 : decode m_zs_elect.2.1 70 = .ok (.dup, 1) := by decide +kernel
theorem d_zs_elect_71 : decode m_zs_elect.2.1 71 = .ok (.invokespecial 68, 3) := by decide +kernel
theorem d_zs_elect_74 : decode m_zs_elect.2.1 74 = .ok (.athrow, 1) := by decide +kernel
theorem d_zs_elect_75 : decode m_zs_elect.2.1 75 = .ok (.aload_n 0, 1) := by decide +kernel
theorem d_zs_elect_76 : decode m_zs_elect.2.1 76 = .ok (.iload_n 2, 1) := by decide +kernel
theorem d_zs_elect_77 : decode m_zs_elect.2.1 77 = .ok (.putfield 28, 3) := by decide +kernel
theorem d_zs_elect_80 : decode m_zs_elect.2.1 80 = .ok (.aload_n 0, 1) := by decide +kernel
theorem d_zs_elect_81 : decode m_zs_elect.2.1 81 = .ok (.dup, 1) := by decide +kernel
theorem d_zs_elect_82 : decode m_zs_elect.2.1 82 = .ok (.getfield 32, 3) := by decide +kernel
theorem d_zs_elect_85 : decode m_zs_elect.2.1 85 = .ok (.iconst 1, 1) := by decide +kernel
theorem d_zs_elect_86 : decode m_zs_elect.2.1 86 = .ok (.iadd, 1) := by decide +kernel
theorem d_zs_elect_87 : decode m_zs_elect.2.1 87 = .ok (.putfield 32, 3) := by decide +kernel
theorem d_zs_elect_90 : decode m_zs_elect.2.1 90 = .ok (.aload_n 0, 1) := by decide +kernel
theorem d_zs_elect_91 : decode m_zs_elect.2.1 91 = .ok (.aload_n 0, 1) := by decide +kernel
theorem d_zs_elect_92 : decode m_zs_elect.2.1 92 = .ok (.getfield 11, 3) := by decide +kernel
theorem d_zs_elect_95 : decode m_zs_elect.2.1 95 = .ok (.iload_n 2, 1) := by decide +kernel
theorem d_zs_elect_96 : decode m_zs_elect.2.1 96 = .ok (.aaload, 1) := by decide +kernel
theorem d_zs_elect_97 : decode m_zs_elect.2.1 97 = .ok (.invokevirtual 198, 3) := by decide +kernel
theorem d_zs_elect_100 : decode m_zs_elect.2.1 100 = .ok (.aload_n 0, 1) := by decide +kernel
theorem d_zs_elect_101 : decode m_zs_elect.2.1 101 = .ok (.invokevirtual 182, 3) := by decide +kernel
theorem d_zs_elect_104 : decode m_zs_elect.2.1 104 = .ok (.aload_n 0, 1) := by decide +kernel
theorem d_zs_elect_105 : decode m_zs_elect.2.1 105 = .ok (.invokevirtual 85, 3) := by decide +kernel
theorem d_zs_elect_108 : decode m_zs_elect.2.1 108 = .ok (.iload_n 2, 1) := by decide +kernel
theorem d_zs_elect_109 : decode m_zs_elect.2.1 109 = .ok (.ireturn, 1) := by decide +kernel
theorem d_zs_planAnew_0 : decode m_zs_planAnew.2.1 0 = .ok (.aload_n 0, 1) := by decide +kernel
theorem d_zs_planAnew_1 : decode m_zs_planAnew.2.1 1 = .ok (.getfield 24, 3) := by decide +kernel
theorem d_zs_planAnew_4 : decode m_zs_planAnew.2.1 4 = .ok (.invokevirtual 229, 3) := by decide +kernel
theorem d_zs_planAnew_7 : decode m_zs_planAnew.2.1 7 = .ok (.iconst 0, 1) := by decide +kernel
theorem d_zs_planAnew_8 : decode m_zs_planAnew.2.1 8 = .ok (.istore_n 2, 1) := by decide +kernel
theorem d_zs_planAnew_9 : decode m_zs_planAnew.2.1 9 = .ok (.iload_n 2, 1) := by decide +kernel
theorem d_zs_planAnew_10 : decode m_zs_planAnew.2.1 10 = .ok (.aload_n 1, 1) := by decide +kernel
theorem d_zs_planAnew_11 : decode m_zs_planAnew.2.1 11 = .ok (.getfield 179, 3) := by decide +kernel
theorem d_zs_planAnew_14 : decode m_zs_planAnew.2.1 14 = .ok (.if_icmp .ge (22), 3) := by decide +kernel
theorem d_zs_planAnew_17 : decode m_zs_planAnew.2.1 17 = .ok (.aload_n 0, 1) := by decide +kernel
theorem d_zs_planAnew_18 : decode m_zs_planAnew.2.1 18 = .ok (.getfield 24, 3) := by decide +kernel
theorem d_zs_planAnew_21 : decode m_zs_planAnew.2.1 21 = .ok (.aload_n 1, 1) := by decide +kernel
theorem d_zs_planAnew_22 : decode m_zs_planAnew.2.1 22 = .ok (.getfield 232, 3) := by decide +kernel
theorem d_zs_planAnew_25 : decode m_zs_planAnew.2.1 25 = .ok (.iload_n 2, 1) := by decide +kernel
theorem d_zs_planAnew_26 : decode m_zs_planAnew.2.1 26 = .ok (.aaload, 1) := by decide +kernel
theorem d_zs_planAnew_27 : decode m_zs_planAnew.2.1 27 = .ok (.invokevirtual 226, 3) := by decide +kernel
theorem d_zs_planAnew_30 : decode m_zs_planAnew.2.1 30 = .ok (.iinc 2 1, 3) := by decide +kernel
theorem d_zs_planAnew_33 : decode m_zs_planAnew.2.1 33 = .ok (.goto (-24), 3) := by decide +kernel
theorem d_zs_planAnew_36 : decode m_zs_planAnew.2.1 36 = .ok (.return_, 1) := by decide +kernel
theorem d_zs_tick_0 : decode m_zs_tick.2.1 0 = .ok (.iload_n 1, 1) := by decide +kernel
theorem d_zs_tick_1 : decode m_zs_tick.2.1 1 = .ok (.iconst 0, 1) := by decide +kernel
theorem d_zs_tick_2 : decode m_zs_tick.2.1 2 = .ok (.bipush 20, 2) := by decide +kernel
theorem d_zs_tick_4 : decode m_zs_tick.2.1 4 = .ok (.invokestatic 47, 3) := by decide +kernel
theorem d_zs_tick_7 : decode m_zs_tick.2.1 7 = .ok (.aload_n 0, 1) := by decide +kernel
theorem d_zs_tick_8 : decode m_zs_tick.2.1 8 = .ok (.dup, 1) := by decide +kernel
theorem d_zs_tick_9 : decode m_zs_tick.2.1 9 = .ok (.getfield 35, 3) := by decide +kernel
theorem d_zs_tick_12 : decode m_zs_tick.2.1 12 = .ok (.iload_n 1, 1) := by decide +kernel
theorem d_zs_tick_13 : decode m_zs_tick.2.1 13 = .ok (.iadd, 1) := by decide +kernel
theorem d_zs_tick_14 : decode m_zs_tick.2.1 14 = .ok (.putfield 35, 3) := by decide +kernel
theorem d_zs_tick_17 : decode m_zs_tick.2.1 17 = .ok (.iconst 0, 1) := by decide +kernel
theorem d_zs_tick_18 : decode m_zs_tick.2.1 18 = .ok (.istore_n 2, 1) := by decide +kernel
theorem d_zs_tick_19 : decode m_zs_tick.2.1 19 = .ok (.iconst 0, 1) := by decide +kernel
theorem d_zs_tick_20 : decode m_zs_tick.2.1 20 = .ok (.istore_n 3, 1) := by decide +kernel
theorem d_zs_tick_21 : decode m_zs_tick.2.1 21 = .ok (.iload_n 3, 1) := by decide +kernel
theorem d_zs_tick_22 : decode m_zs_tick.2.1 22 = .ok (.iconst 4, 1) := by decide +kernel
theorem d_zs_tick_23 : decode m_zs_tick.2.1 23 = .ok (.if_icmp .ge (51), 3) := by decide +kernel
theorem d_zs_tick_26 : decode m_zs_tick.2.1 26 = .ok (.aload_n 0, 1) := by decide +kernel
theorem d_zs_tick_27 : decode m_zs_tick.2.1 27 = .ok (.getfield 17, 3) := by decide +kernel
theorem d_zs_tick_30 : decode m_zs_tick.2.1 30 = .ok (.iload_n 3, 1) := by decide +kernel
theorem d_zs_tick_31 : decode m_zs_tick.2.1 31 = .ok (.aaload, 1) := by decide +kernel
theorem d_zs_tick_32 : decode m_zs_tick.2.1 32 = .ok (.astore 4, 2) := by decide +kernel
theorem d_zs_tick_34 : decode m_zs_tick.2.1 34 = .ok (.aload 4, 2) := by decide +kernel
theorem d_zs_tick_36 : decode m_zs_tick.2.1 36 = .ok (.getfield 51, 3) := by decide +kernel
theorem d_zs_tick_39 : decode m_zs_tick.2.1 39 = .ok (.ifCond .eq (29), 3) := by decide +kernel
theorem d_zs_tick_42 : decode m_zs_tick.2.1 42 = .ok (.aload 4, 2) := by decide +kernel
theorem d_zs_tick_44 : decode m_zs_tick.2.1 44 = .ok (.getfield 88, 3) := by decide +kernel
theorem d_zs_tick_47 : decode m_zs_tick.2.1 47 = .ok (.aload 4, 2) := by decide +kernel
theorem d_zs_tick_49 : decode m_zs_tick.2.1 49 = .ok (.getfield 202, 3) := by decide +kernel
theorem d_zs_tick_52 : decode m_zs_tick.2.1 52 = .ok (.iadd, 1) := by decide +kernel
theorem d_zs_tick_53 : decode m_zs_tick.2.1 53 = .ok (.aload_n 0, 1) := by decide +kernel
theorem d_zs_tick_54 : decode m_zs_tick.2.1 54 = .ok (.getfield 35, 3) := by decide +kernel
theorem d_zs_tick_57 : decode m_zs_tick.2.1 57 = .ok (.if_icmp .gt (11), 3) := by decide +kernel
theorem d_zs_tick_60 : decode m_zs_tick.2.1 60 = .ok (.aload 4, 2) := by decide +kernel
theorem d_zs_tick_62 : decode m_zs_tick.2.1 62 = .ok (.invokevirtual 82, 3) := by decide +kernel
theorem d_zs_tick_65 : decode m_zs_tick.2.1 65 = .ok (.iinc 2 1, 3) := by decide +kernel
theorem d_zs_tick_68 : decode m_zs_tick.2.1 68 = .ok (.iinc 3 1, 3) := by decide +kernel
theorem d_zs_tick_71 : decode m_zs_tick.2.1 71 = .ok (.goto (-50), 3) := by decide +kernel
theorem d_zs_tick_74 : decode m_zs_tick.2.1 74 = .ok (.aload_n 0, 1) := by decide +kernel
theorem d_zs_tick_75 : decode m_zs_tick.2.1 75 = .ok (.invokevirtual 85, 3) := by decide +kernel
theorem d_zs_tick_78 : decode m_zs_tick.2.1 78 = .ok (.iload_n 2, 1) := by decide +kernel
theorem d_zs_tick_79 : decode m_zs_tick.2.1 79 = .ok (.ireturn, 1) := by decide +kernel
theorem d_zs_state_0 : decode m_zs_state.2.1 0 = .ok (.iload_n 1, 1) := by decide +kernel
theorem d_zs_state_1 : decode m_zs_state.2.1 1 = .ok (.invokestatic 44, 3) := by decide +kernel
theorem d_zs_state_4 : decode m_zs_state.2.1 4 = .ok (.iload_n 2, 1) := by decide +kernel
theorem d_zs_state_5 : decode m_zs_state.2.1 5 = .ok (.iconst 0, 1) := by decide +kernel
theorem d_zs_state_6 : decode m_zs_state.2.1 6 = .ok (.iconst 5, 1) := by decide +kernel
theorem d_zs_state_7 : decode m_zs_state.2.1 7 = .ok (.invokestatic 47, 3) := by decide +kernel
theorem d_zs_state_10 : decode m_zs_state.2.1 10 = .ok (.aload_n 0, 1) := by decide +kernel
theorem d_zs_state_11 : decode m_zs_state.2.1 11 = .ok (.getfield 11, 3) := by decide +kernel
theorem d_zs_state_14 : decode m_zs_state.2.1 14 = .ok (.iload_n 1, 1) := by decide +kernel
theorem d_zs_state_15 : decode m_zs_state.2.1 15 = .ok (.aaload, 1) := by decide +kernel
theorem d_zs_state_16 : decode m_zs_state.2.1 16 = .ok (.astore_n 3, 1) := by decide +kernel
theorem d_zs_state_17 : decode m_zs_state.2.1 17 = .ok (.iload_n 2, 1) := by decide +kernel
theorem d_zs_state_18 : decode m_zs_state.2.1 18 = .ok (.tableswitch (79) (0) (4) #[34, 39, 44, 57, 71], 34) := by decide +kernel
theorem d_zs_state_52 : decode m_zs_state.2.1 52 = .ok (.aload_n 3, 1) := by decide +kernel
theorem d_zs_state_53 : decode m_zs_state.2.1 53 = .ok (.getfield 179, 3) := by decide +kernel
theorem d_zs_state_56 : decode m_zs_state.2.1 56 = .ok (.ireturn, 1) := by decide +kernel
theorem d_zs_state_57 : decode m_zs_state.2.1 57 = .ok (.aload_n 3, 1) := by decide +kernel
theorem d_zs_state_58 : decode m_zs_state.2.1 58 = .ok (.getfield 185, 3) := by decide +kernel
theorem d_zs_state_61 : decode m_zs_state.2.1 61 = .ok (.ireturn, 1) := by decide +kernel
theorem d_zs_state_62 : decode m_zs_state.2.1 62 = .ok (.aload_n 3, 1) := by decide +kernel
theorem d_zs_state_63 : decode m_zs_state.2.1 63 = .ok (.getfield 97, 3) := by decide +kernel
theorem d_zs_state_66 : decode m_zs_state.2.1 66 = .ok (.ifCond .eq (7), 3) := by decide +kernel
theorem d_zs_state_69 : decode m_zs_state.2.1 69 = .ok (.iconst 1, 1) := by decide +kernel
theorem d_zs_state_70 : decode m_zs_state.2.1 70 = .ok (.goto 4, 3) := by decide +kernel
theorem d_zs_state_73 : decode m_zs_state.2.1 73 = .ok (.iconst 0, 1) := by decide +kernel
theorem d_zs_state_74 : decode m_zs_state.2.1 74 = .ok (.ireturn, 1) := by decide +kernel
theorem d_zs_state_75 : decode m_zs_state.2.1 75 = .ok (.aload_n 0, 1) := by decide +kernel
theorem d_zs_state_76 : decode m_zs_state.2.1 76 = .ok (.iload_n 1, 1) := by decide +kernel
theorem d_zs_state_77 : decode m_zs_state.2.1 77 = .ok (.invokevirtual 58, 3) := by decide +kernel
theorem d_zs_state_80 : decode m_zs_state.2.1 80 = .ok (.ifCond .eq (7), 3) := by decide +kernel
theorem d_zs_state_83 : decode m_zs_state.2.1 83 = .ok (.iconst 1, 1) := by decide +kernel
theorem d_zs_state_84 : decode m_zs_state.2.1 84 = .ok (.goto 4, 3) := by decide +kernel
theorem d_zs_state_87 : decode m_zs_state.2.1 87 = .ok (.iconst 0, 1) := by decide +kernel
theorem d_zs_state_88 : decode m_zs_state.2.1 88 = .ok (.ireturn, 1) := by decide +kernel
theorem d_zs_state_89 : decode m_zs_state.2.1 89 = .ok (.aload_n 3, 1) := by decide +kernel
theorem d_zs_state_90 : decode m_zs_state.2.1 90 = .ok (.getfield 205, 3) := by decide +kernel
theorem d_zs_state_93 : decode m_zs_state.2.1 93 = .ok (.invokevirtual 208, 3) := by decide +kernel
theorem d_zs_state_96 : decode m_zs_state.2.1 96 = .ok (.ireturn, 1) := by decide +kernel
theorem d_zs_state_97 : decode m_zs_state.2.1 97 = .ok (.aload_n 3, 1) := by decide +kernel
theorem d_zs_state_98 : decode m_zs_state.2.1 98 = .ok (.getfield 211, 3) := by decide +kernel
theorem d_zs_state_101 : decode m_zs_state.2.1 101 = .ok (.ireturn, 1) := by decide +kernel
theorem d_zs_count_0 : decode m_zs_count.2.1 0 = .ok (.iload_n 1, 1) := by decide +kernel
theorem d_zs_count_1 : decode m_zs_count.2.1 1 = .ok (.iconst 0, 1) := by decide +kernel
theorem d_zs_count_2 : decode m_zs_count.2.1 2 = .ok (.bipush 7, 2) := by decide +kernel
theorem d_zs_count_4 : decode m_zs_count.2.1 4 = .ok (.invokestatic 47, 3) := by decide +kernel
theorem d_zs_count_7 : decode m_zs_count.2.1 7 = .ok (.iload_n 1, 1) := by decide +kernel
theorem d_zs_count_8 : decode m_zs_count.2.1 8 = .ok (.tableswitch (60) (0) (3) #[32, 37, 42, 47], 32) := by decide +kernel
theorem d_zs_count_40 : decode m_zs_count.2.1 40 = .ok (.aload_n 0, 1) := by decide +kernel
theorem d_zs_count_41 : decode m_zs_count.2.1 41 = .ok (.getfield 35, 3) := by decide +kernel
theorem d_zs_count_44 : decode m_zs_count.2.1 44 = .ok (.ireturn, 1) := by decide +kernel
theorem d_zs_count_45 : decode m_zs_count.2.1 45 = .ok (.aload_n 0, 1) := by decide +kernel
theorem d_zs_count_46 : decode m_zs_count.2.1 46 = .ok (.getfield 28, 3) := by decide +kernel
theorem d_zs_count_49 : decode m_zs_count.2.1 49 = .ok (.ireturn, 1) := by decide +kernel
theorem d_zs_count_50 : decode m_zs_count.2.1 50 = .ok (.aload_n 0, 1) := by decide +kernel
theorem d_zs_count_51 : decode m_zs_count.2.1 51 = .ok (.getfield 32, 3) := by decide +kernel
theorem d_zs_count_54 : decode m_zs_count.2.1 54 = .ok (.ireturn, 1) := by decide +kernel
theorem d_zs_count_55 : decode m_zs_count.2.1 55 = .ok (.aload_n 0, 1) := by decide +kernel
theorem d_zs_count_56 : decode m_zs_count.2.1 56 = .ok (.invokevirtual 62, 3) := by decide +kernel
theorem d_zs_count_59 : decode m_zs_count.2.1 59 = .ok (.ifCond .eq (7), 3) := by decide +kernel
theorem d_zs_count_62 : decode m_zs_count.2.1 62 = .ok (.iconst 1, 1) := by decide +kernel
theorem d_zs_count_63 : decode m_zs_count.2.1 63 = .ok (.goto 4, 3) := by decide +kernel
theorem d_zs_count_66 : decode m_zs_count.2.1 66 = .ok (.iconst 0, 1) := by decide +kernel
theorem d_zs_count_67 : decode m_zs_count.2.1 67 = .ok (.ireturn, 1) := by decide +kernel
theorem d_zs_count_68 : decode m_zs_count.2.1 68 = .ok (.aload_n 0, 1) := by decide +kernel
theorem d_zs_count_69 : decode m_zs_count.2.1 69 = .ok (.getfield 17, 3) := by decide +kernel
theorem d_zs_count_72 : decode m_zs_count.2.1 72 = .ok (.iload_n 1, 1) := by decide +kernel
theorem d_zs_count_73 : decode m_zs_count.2.1 73 = .ok (.iconst 4, 1) := by decide +kernel
theorem d_zs_count_74 : decode m_zs_count.2.1 74 = .ok (.isub, 1) := by decide +kernel
theorem d_zs_count_75 : decode m_zs_count.2.1 75 = .ok (.aaload, 1) := by decide +kernel
theorem d_zs_count_76 : decode m_zs_count.2.1 76 = .ok (.invokevirtual 214, 3) := by decide +kernel
theorem d_zs_count_79 : decode m_zs_count.2.1 79 = .ok (.ireturn, 1) := by decide +kernel
