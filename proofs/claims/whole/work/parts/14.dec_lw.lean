/-! decode rows, by wip/whole/gen_facts.py -/
theorem d_lw_open_0 : decode m_lw_open.2.1 0 = .ok (.aload 4, 2) := by decide +kernel
theorem d_lw_open_2 : decode m_lw_open.2.1 2 = .ok (.iconst 0, 1) := by decide +kernel
theorem d_lw_open_3 : decode m_lw_open.2.1 3 = .ok (.aload_n 0, 1) := by decide +kernel
theorem d_lw_open_4 : decode m_lw_open.2.1 4 = .ok (.iload_n 1, 1) := by decide +kernel
theorem d_lw_open_5 : decode m_lw_open.2.1 5 = .ok (.iload_n 2, 1) := by decide +kernel
theorem d_lw_open_6 : decode m_lw_open.2.1 6 = .ok (.iload_n 3, 1) := by decide +kernel
theorem d_lw_open_7 : decode m_lw_open.2.1 7 = .ok (.invokevirtual 7, 3) := by decide +kernel
theorem d_lw_open_10 : decode m_lw_open.2.1 10 = .ok (.i2l, 1) := by decide +kernel
theorem d_lw_open_11 : decode m_lw_open.2.1 11 = .ok (.lastore, 1) := by decide +kernel
theorem d_lw_open_12 : decode m_lw_open.2.1 12 = .ok (.goto 11, 3) := by decide +kernel
theorem d_lw_open_15 : decode m_lw_open.2.1 15 = .ok (.astore 5, 2) := by decide +kernel
theorem d_lw_open_17 : decode m_lw_open.2.1 17 = .ok (.iconst 1, 1) := by decide +kernel
theorem d_lw_open_18 : decode m_lw_open.2.1 18 = .ok (.ireturn, 1) := by decide +kernel
theorem d_lw_open_19 : decode m_lw_open.2.1 19 = .ok (.astore 5, 2) := by decide +kernel
theorem d_lw_open_21 : decode m_lw_open.2.1 21 = .ok (.iconst 2, 1) := by decide +kernel
theorem d_lw_open_22 : decode m_lw_open.2.1 22 = .ok (.ireturn, 1) := by decide +kernel
theorem d_lw_open_23 : decode m_lw_open.2.1 23 = .ok (.iconst 0, 1) := by decide +kernel
theorem d_lw_open_24 : decode m_lw_open.2.1 24 = .ok (.ireturn, 1) := by decide +kernel
theorem d_lw_close_0 : decode m_lw_close.2.1 0 = .ok (.aload_n 2, 1) := by decide +kernel
theorem d_lw_close_1 : decode m_lw_close.2.1 1 = .ok (.iconst 0, 1) := by decide +kernel
theorem d_lw_close_2 : decode m_lw_close.2.1 2 = .ok (.aload_n 0, 1) := by decide +kernel
theorem d_lw_close_3 : decode m_lw_close.2.1 3 = .ok (.iload_n 1, 1) := by decide +kernel
theorem d_lw_close_4 : decode m_lw_close.2.1 4 = .ok (.invokevirtual 17, 3) := by decide +kernel
theorem d_lw_close_7 : decode m_lw_close.2.1 7 = .ok (.i2l, 1) := by decide +kernel
theorem d_lw_close_8 : decode m_lw_close.2.1 8 = .ok (.lastore, 1) := by decide +kernel
theorem d_lw_close_9 : decode m_lw_close.2.1 9 = .ok (.goto 9, 3) := by decide +kernel
theorem d_lw_close_12 : decode m_lw_close.2.1 12 = .ok (.astore_n 3, 1) := by decide +kernel
theorem d_lw_close_13 : decode m_lw_close.2.1 13 = .ok (.iconst 1, 1) := by decide +kernel
theorem d_lw_close_14 : decode m_lw_close.2.1 14 = .ok (.ireturn, 1) := by decide +kernel
theorem d_lw_close_15 : decode m_lw_close.2.1 15 = .ok (.astore_n 3, 1) := by decide +kernel
theorem d_lw_close_16 : decode m_lw_close.2.1 16 = .ok (.iconst 2, 1) := by decide +kernel
theorem d_lw_close_17 : decode m_lw_close.2.1 17 = .ok (.ireturn, 1) := by decide +kernel
theorem d_lw_close_18 : decode m_lw_close.2.1 18 = .ok (.iconst 0, 1) := by decide +kernel
theorem d_lw_close_19 : decode m_lw_close.2.1 19 = .ok (.ireturn, 1) := by decide +kernel
theorem d_lw_ping_0 : decode m_lw_ping.2.1 0 = .ok (.aload_n 2, 1) := by decide +kernel
theorem d_lw_ping_1 : decode m_lw_ping.2.1 1 = .ok (.iconst 0, 1) := by decide +kernel
theorem d_lw_ping_2 : decode m_lw_ping.2.1 2 = .ok (.aload_n 0, 1) := by decide +kernel
theorem d_lw_ping_3 : decode m_lw_ping.2.1 3 = .ok (.iload_n 1, 1) := by decide +kernel
theorem d_lw_ping_4 : decode m_lw_ping.2.1 4 = .ok (.invokevirtual 21, 3) := by decide +kernel
theorem d_lw_ping_7 : decode m_lw_ping.2.1 7 = .ok (.i2l, 1) := by decide +kernel
theorem d_lw_ping_8 : decode m_lw_ping.2.1 8 = .ok (.lastore, 1) := by decide +kernel
theorem d_lw_ping_9 : decode m_lw_ping.2.1 9 = .ok (.goto 9, 3) := by decide +kernel
theorem d_lw_ping_12 : decode m_lw_ping.2.1 12 = .ok (.astore_n 3, 1) := by decide +kernel
theorem d_lw_ping_13 : decode m_lw_ping.2.1 13 = .ok (.iconst 1, 1) := by decide +kernel
theorem d_lw_ping_14 : decode m_lw_ping.2.1 14 = .ok (.ireturn, 1) := by decide +kernel
theorem d_lw_ping_15 : decode m_lw_ping.2.1 15 = .ok (.astore_n 3, 1) := by decide +kernel
theorem d_lw_ping_16 : decode m_lw_ping.2.1 16 = .ok (.iconst 2, 1) := by decide +kernel
theorem d_lw_ping_17 : decode m_lw_ping.2.1 17 = .ok (.ireturn, 1) := by decide +kernel
theorem d_lw_ping_18 : decode m_lw_ping.2.1 18 = .ok (.iconst 0, 1) := by decide +kernel
theorem d_lw_ping_19 : decode m_lw_ping.2.1 19 = .ok (.ireturn, 1) := by decide +kernel
theorem d_lw_move_0 : decode m_lw_move.2.1 0 = .ok (.aload_n 3, 1) := by decide +kernel
theorem d_lw_move_1 : decode m_lw_move.2.1 1 = .ok (.iconst 0, 1) := by decide +kernel
theorem d_lw_move_2 : decode m_lw_move.2.1 2 = .ok (.aload_n 0, 1) := by decide +kernel
theorem d_lw_move_3 : decode m_lw_move.2.1 3 = .ok (.iload_n 1, 1) := by decide +kernel
theorem d_lw_move_4 : decode m_lw_move.2.1 4 = .ok (.iload_n 2, 1) := by decide +kernel
theorem d_lw_move_5 : decode m_lw_move.2.1 5 = .ok (.invokevirtual 24, 3) := by decide +kernel
theorem d_lw_move_8 : decode m_lw_move.2.1 8 = .ok (.i2l, 1) := by decide +kernel
theorem d_lw_move_9 : decode m_lw_move.2.1 9 = .ok (.lastore, 1) := by decide +kernel
theorem d_lw_move_10 : decode m_lw_move.2.1 10 = .ok (.goto 11, 3) := by decide +kernel
theorem d_lw_move_13 : decode m_lw_move.2.1 13 = .ok (.astore 4, 2) := by decide +kernel
theorem d_lw_move_15 : decode m_lw_move.2.1 15 = .ok (.iconst 1, 1) := by decide +kernel
theorem d_lw_move_16 : decode m_lw_move.2.1 16 = .ok (.ireturn, 1) := by decide +kernel
theorem d_lw_move_17 : decode m_lw_move.2.1 17 = .ok (.astore 4, 2) := by decide +kernel
theorem d_lw_move_19 : decode m_lw_move.2.1 19 = .ok (.iconst 2, 1) := by decide +kernel
theorem d_lw_move_20 : decode m_lw_move.2.1 20 = .ok (.ireturn, 1) := by decide +kernel
theorem d_lw_move_21 : decode m_lw_move.2.1 21 = .ok (.iconst 0, 1) := by decide +kernel
theorem d_lw_move_22 : decode m_lw_move.2.1 22 = .ok (.ireturn, 1) := by decide +kernel
theorem d_lw_create_0 : decode m_lw_create.2.1 0 = .ok (.aload 5, 2) := by decide +kernel
theorem d_lw_create_2 : decode m_lw_create.2.1 2 = .ok (.iconst 0, 1) := by decide +kernel
theorem d_lw_create_3 : decode m_lw_create.2.1 3 = .ok (.aload_n 0, 1) := by decide +kernel
theorem d_lw_create_4 : decode m_lw_create.2.1 4 = .ok (.iload_n 1, 1) := by decide +kernel
theorem d_lw_create_5 : decode m_lw_create.2.1 5 = .ok (.iload_n 2, 1) := by decide +kernel
theorem d_lw_create_6 : decode m_lw_create.2.1 6 = .ok (.iload_n 3, 1) := by decide +kernel
theorem d_lw_create_7 : decode m_lw_create.2.1 7 = .ok (.iload 4, 2) := by decide +kernel
theorem d_lw_create_9 : decode m_lw_create.2.1 9 = .ok (.invokevirtual 28, 3) := by decide +kernel
theorem d_lw_create_12 : decode m_lw_create.2.1 12 = .ok (.i2l, 1) := by decide +kernel
theorem d_lw_create_13 : decode m_lw_create.2.1 13 = .ok (.lastore, 1) := by decide +kernel
theorem d_lw_create_14 : decode m_lw_create.2.1 14 = .ok (.goto 23, 3) := by decide +kernel
theorem d_lw_create_17 : decode m_lw_create.2.1 17 = .ok (.astore 6, 2) := by decide +kernel
theorem d_lw_create_19 : decode m_lw_create.2.1 19 = .ok (.iconst 1, 1) := by decide +kernel
theorem d_lw_create_20 : decode m_lw_create.2.1 20 = .ok (.ireturn, 1) := by decide +kernel
theorem d_lw_create_21 : decode m_lw_create.2.1 21 = .ok (.astore 6, 2) := by decide +kernel
theorem d_lw_create_23 : decode m_lw_create.2.1 23 = .ok (.iconst 2, 1) := by decide +kernel
theorem d_lw_create_24 : decode m_lw_create.2.1 24 = .ok (.ireturn, 1) := by decide +kernel
theorem d_lw_create_25 : decode m_lw_create.2.1 25 = .ok (.astore 6, 2) := by decide +kernel
theorem d_lw_create_27 : decode m_lw_create.2.1 27 = .ok (.iconst 3, 1) := by decide +kernel
theorem d_lw_create_28 : decode m_lw_create.2.1 28 = .ok (.ireturn, 1) := by decide +kernel
theorem d_lw_create_29 : decode m_lw_create.2.1 29 = .ok (.astore 6, 2) := by decide +kernel
theorem d_lw_create_31 : decode m_lw_create.2.1 31 = .ok (.iconst 4, 1) := by decide +kernel
theorem d_lw_create_32 : decode m_lw_create.2.1 32 = .ok (.ireturn, 1) := by decide +kernel
theorem d_lw_create_33 : decode m_lw_create.2.1 33 = .ok (.astore 6, 2) := by decide +kernel
theorem d_lw_create_35 : decode m_lw_create.2.1 35 = .ok (.iconst 5, 1) := by decide +kernel
theorem d_lw_create_36 : decode m_lw_create.2.1 36 = .ok (.ireturn, 1) := by decide +kernel
theorem d_lw_create_37 : decode m_lw_create.2.1 37 = .ok (.iconst 0, 1) := by decide +kernel
theorem d_lw_create_38 : decode m_lw_create.2.1 38 = .ok (.ireturn, 1) := by decide +kernel
theorem d_lw_set_0 : decode m_lw_set.2.1 0 = .ok (.aload 5, 2) := by decide +kernel
theorem d_lw_set_2 : decode m_lw_set.2.1 2 = .ok (.iconst 0, 1) := by decide +kernel
theorem d_lw_set_3 : decode m_lw_set.2.1 3 = .ok (.aload_n 0, 1) := by decide +kernel
theorem d_lw_set_4 : decode m_lw_set.2.1 4 = .ok (.iload_n 1, 1) := by decide +kernel
theorem d_lw_set_5 : decode m_lw_set.2.1 5 = .ok (.iload_n 2, 1) := by decide +kernel
theorem d_lw_set_6 : decode m_lw_set.2.1 6 = .ok (.iload_n 3, 1) := by decide +kernel
theorem d_lw_set_7 : decode m_lw_set.2.1 7 = .ok (.iload 4, 2) := by decide +kernel
theorem d_lw_set_9 : decode m_lw_set.2.1 9 = .ok (.invokevirtual 38, 3) := by decide +kernel
theorem d_lw_set_12 : decode m_lw_set.2.1 12 = .ok (.i2l, 1) := by decide +kernel
theorem d_lw_set_13 : decode m_lw_set.2.1 13 = .ok (.lastore, 1) := by decide +kernel
theorem d_lw_set_14 : decode m_lw_set.2.1 14 = .ok (.goto 15, 3) := by decide +kernel
theorem d_lw_set_17 : decode m_lw_set.2.1 17 = .ok (.astore 6, 2) := by decide +kernel
theorem d_lw_set_19 : decode m_lw_set.2.1 19 = .ok (.iconst 1, 1) := by decide +kernel
theorem d_lw_set_20 : decode m_lw_set.2.1 20 = .ok (.ireturn, 1) := by decide +kernel
theorem d_lw_set_21 : decode m_lw_set.2.1 21 = .ok (.astore 6, 2) := by decide +kernel
theorem d_lw_set_23 : decode m_lw_set.2.1 23 = .ok (.iconst 2, 1) := by decide +kernel
theorem d_lw_set_24 : decode m_lw_set.2.1 24 = .ok (.ireturn, 1) := by decide +kernel
theorem d_lw_set_25 : decode m_lw_set.2.1 25 = .ok (.astore 6, 2) := by decide +kernel
theorem d_lw_set_27 : decode m_lw_set.2.1 27 = .ok (.iconst 3, 1) := by decide +kernel
theorem d_lw_set_28 : decode m_lw_set.2.1 28 = .ok (.ireturn, 1) := by decide +kernel
theorem d_lw_set_29 : decode m_lw_set.2.1 29 = .ok (.iconst 0, 1) := by decide +kernel
theorem d_lw_set_30 : decode m_lw_set.2.1 30 = .ok (.ireturn, 1) := by decide +kernel
theorem d_lw_delete_0 : decode m_lw_delete.2.1 0 = .ok (.aload 4, 2) := by decide +kernel
theorem d_lw_delete_2 : decode m_lw_delete.2.1 2 = .ok (.iconst 0, 1) := by decide +kernel
theorem d_lw_delete_3 : decode m_lw_delete.2.1 3 = .ok (.aload_n 0, 1) := by decide +kernel
theorem d_lw_delete_4 : decode m_lw_delete.2.1 4 = .ok (.iload_n 1, 1) := by decide +kernel
theorem d_lw_delete_5 : decode m_lw_delete.2.1 5 = .ok (.iload_n 2, 1) := by decide +kernel
theorem d_lw_delete_6 : decode m_lw_delete.2.1 6 = .ok (.iload_n 3, 1) := by decide +kernel
theorem d_lw_delete_7 : decode m_lw_delete.2.1 7 = .ok (.invokevirtual 41, 3) := by decide +kernel
theorem d_lw_delete_10 : decode m_lw_delete.2.1 10 = .ok (.i2l, 1) := by decide +kernel
theorem d_lw_delete_11 : decode m_lw_delete.2.1 11 = .ok (.lastore, 1) := by decide +kernel
theorem d_lw_delete_12 : decode m_lw_delete.2.1 12 = .ok (.goto 19, 3) := by decide +kernel
theorem d_lw_delete_15 : decode m_lw_delete.2.1 15 = .ok (.astore 5, 2) := by decide +kernel
theorem d_lw_delete_17 : decode m_lw_delete.2.1 17 = .ok (.iconst 1, 1) := by decide +kernel
theorem d_lw_delete_18 : decode m_lw_delete.2.1 18 = .ok (.ireturn, 1) := by decide +kernel
theorem d_lw_delete_19 : decode m_lw_delete.2.1 19 = .ok (.astore 5, 2) := by decide +kernel
theorem d_lw_delete_21 : decode m_lw_delete.2.1 21 = .ok (.iconst 2, 1) := by decide +kernel
theorem d_lw_delete_22 : decode m_lw_delete.2.1 22 = .ok (.ireturn, 1) := by decide +kernel
theorem d_lw_delete_23 : decode m_lw_delete.2.1 23 = .ok (.astore 5, 2) := by decide +kernel
theorem d_lw_delete_25 : decode m_lw_delete.2.1 25 = .ok (.iconst 3, 1) := by decide +kernel
theorem d_lw_delete_26 : decode m_lw_delete.2.1 26 = .ok (.ireturn, 1) := by decide +kernel
theorem d_lw_delete_27 : decode m_lw_delete.2.1 27 = .ok (.astore 5, 2) := by decide +kernel
theorem d_lw_delete_29 : decode m_lw_delete.2.1 29 = .ok (.iconst 4, 1) := by decide +kernel
theorem d_lw_delete_30 : decode m_lw_delete.2.1 30 = .ok (.ireturn, 1) := by decide +kernel
theorem d_lw_delete_31 : decode m_lw_delete.2.1 31 = .ok (.iconst 0, 1) := by decide +kernel
theorem d_lw_delete_32 : decode m_lw_delete.2.1 32 = .ok (.ireturn, 1) := by decide +kernel
theorem d_lw_get_0 : decode m_lw_get.2.1 0 = .ok (.aload 4, 2) := by decide +kernel
theorem d_lw_get_2 : decode m_lw_get.2.1 2 = .ok (.iconst 0, 1) := by decide +kernel
theorem d_lw_get_3 : decode m_lw_get.2.1 3 = .ok (.aload_n 0, 1) := by decide +kernel
theorem d_lw_get_4 : decode m_lw_get.2.1 4 = .ok (.iload_n 1, 1) := by decide +kernel
theorem d_lw_get_5 : decode m_lw_get.2.1 5 = .ok (.iload_n 2, 1) := by decide +kernel
theorem d_lw_get_6 : decode m_lw_get.2.1 6 = .ok (.iload_n 3, 1) := by decide +kernel
theorem d_lw_get_7 : decode m_lw_get.2.1 7 = .ok (.invokevirtual 44, 3) := by decide +kernel
theorem d_lw_get_10 : decode m_lw_get.2.1 10 = .ok (.i2l, 1) := by decide +kernel
theorem d_lw_get_11 : decode m_lw_get.2.1 11 = .ok (.lastore, 1) := by decide +kernel
theorem d_lw_get_12 : decode m_lw_get.2.1 12 = .ok (.goto 15, 3) := by decide +kernel
theorem d_lw_get_15 : decode m_lw_get.2.1 15 = .ok (.astore 5, 2) := by decide +kernel
theorem d_lw_get_17 : decode m_lw_get.2.1 17 = .ok (.iconst 1, 1) := by decide +kernel
theorem d_lw_get_18 : decode m_lw_get.2.1 18 = .ok (.ireturn, 1) := by decide +kernel
theorem d_lw_get_19 : decode m_lw_get.2.1 19 = .ok (.astore 5, 2) := by decide +kernel
theorem d_lw_get_21 : decode m_lw_get.2.1 21 = .ok (.iconst 2, 1) := by decide +kernel
theorem d_lw_get_22 : decode m_lw_get.2.1 22 = .ok (.ireturn, 1) := by decide +kernel
theorem d_lw_get_23 : decode m_lw_get.2.1 23 = .ok (.astore 5, 2) := by decide +kernel
theorem d_lw_get_25 : decode m_lw_get.2.1 25 = .ok (.iconst 3, 1) := by decide +kernel
theorem d_lw_get_26 : decode m_lw_get.2.1 26 = .ok (.ireturn, 1) := by decide +kernel
theorem d_lw_get_27 : decode m_lw_get.2.1 27 = .ok (.iconst 0, 1) := by decide +kernel
theorem d_lw_get_28 : decode m_lw_get.2.1 28 = .ok (.ireturn, 1) := by decide +kernel
theorem d_lw_exists_0 : decode m_lw_exists.2.1 0 = .ok (.aload 4, 2) := by decide +kernel
theorem d_lw_exists_2 : decode m_lw_exists.2.1 2 = .ok (.iconst 0, 1) := by decide +kernel
theorem d_lw_exists_3 : decode m_lw_exists.2.1 3 = .ok (.aload_n 0, 1) := by decide +kernel
theorem d_lw_exists_4 : decode m_lw_exists.2.1 4 = .ok (.iload_n 1, 1) := by decide +kernel
theorem d_lw_exists_5 : decode m_lw_exists.2.1 5 = .ok (.iload_n 2, 1) := by decide +kernel
theorem d_lw_exists_6 : decode m_lw_exists.2.1 6 = .ok (.iload_n 3, 1) := by decide +kernel
theorem d_lw_exists_7 : decode m_lw_exists.2.1 7 = .ok (.invokevirtual 48, 3) := by decide +kernel
theorem d_lw_exists_10 : decode m_lw_exists.2.1 10 = .ok (.ifCond .eq (7), 3) := by decide +kernel
theorem d_lw_exists_13 : decode m_lw_exists.2.1 13 = .ok (.lconst 1, 1) := by decide +kernel
theorem d_lw_exists_14 : decode m_lw_exists.2.1 14 = .ok (.goto 4, 3) := by decide +kernel
theorem d_lw_exists_17 : decode m_lw_exists.2.1 17 = .ok (.lconst 0, 1) := by decide +kernel
theorem d_lw_exists_18 : decode m_lw_exists.2.1 18 = .ok (.lastore, 1) := by decide +kernel
theorem d_lw_exists_19 : decode m_lw_exists.2.1 19 = .ok (.goto 11, 3) := by decide +kernel
theorem d_lw_exists_22 : decode m_lw_exists.2.1 22 = .ok (.astore 5, 2) := by decide +kernel
theorem d_lw_exists_24 : decode m_lw_exists.2.1 24 = .ok (.iconst 1, 1) := by decide +kernel
theorem d_lw_exists_25 : decode m_lw_exists.2.1 25 = .ok (.ireturn, 1) := by decide +kernel
theorem d_lw_exists_26 : decode m_lw_exists.2.1 26 = .ok (.astore 5, 2) := by decide +kernel
theorem d_lw_exists_28 : decode m_lw_exists.2.1 28 = .ok (.iconst 2, 1) := by decide +kernel
theorem d_lw_exists_29 : decode m_lw_exists.2.1 29 = .ok (.ireturn, 1) := by decide +kernel
theorem d_lw_exists_30 : decode m_lw_exists.2.1 30 = .ok (.iconst 0, 1) := by decide +kernel
theorem d_lw_exists_31 : decode m_lw_exists.2.1 31 = .ok (.ireturn, 1) := by decide +kernel
theorem d_lw_children_0 : decode m_lw_children.2.1 0 = .ok (.aload 4, 2) := by decide +kernel
theorem d_lw_children_2 : decode m_lw_children.2.1 2 = .ok (.iconst 0, 1) := by decide +kernel
theorem d_lw_children_3 : decode m_lw_children.2.1 3 = .ok (.aload_n 0, 1) := by decide +kernel
theorem d_lw_children_4 : decode m_lw_children.2.1 4 = .ok (.iload_n 1, 1) := by decide +kernel
theorem d_lw_children_5 : decode m_lw_children.2.1 5 = .ok (.iload_n 2, 1) := by decide +kernel
theorem d_lw_children_6 : decode m_lw_children.2.1 6 = .ok (.iload_n 3, 1) := by decide +kernel
theorem d_lw_children_7 : decode m_lw_children.2.1 7 = .ok (.invokevirtual 52, 3) := by decide +kernel
theorem d_lw_children_10 : decode m_lw_children.2.1 10 = .ok (.i2l, 1) := by decide +kernel
theorem d_lw_children_11 : decode m_lw_children.2.1 11 = .ok (.lastore, 1) := by decide +kernel
theorem d_lw_children_12 : decode m_lw_children.2.1 12 = .ok (.goto 15, 3) := by decide +kernel
theorem d_lw_children_15 : decode m_lw_children.2.1 15 = .ok (.astore 5, 2) := by decide +kernel
theorem d_lw_children_17 : decode m_lw_children.2.1 17 = .ok (.iconst 1, 1) := by decide +kernel
theorem d_lw_children_18 : decode m_lw_children.2.1 18 = .ok (.ireturn, 1) := by decide +kernel
theorem d_lw_children_19 : decode m_lw_children.2.1 19 = .ok (.astore 5, 2) := by decide +kernel
theorem d_lw_children_21 : decode m_lw_children.2.1 21 = .ok (.iconst 2, 1) := by decide +kernel
theorem d_lw_children_22 : decode m_lw_children.2.1 22 = .ok (.ireturn, 1) := by decide +kernel
theorem d_lw_children_23 : decode m_lw_children.2.1 23 = .ok (.astore 5, 2) := by decide +kernel
theorem d_lw_children_25 : decode m_lw_children.2.1 25 = .ok (.iconst 3, 1) := by decide +kernel
theorem d_lw_children_26 : decode m_lw_children.2.1 26 = .ok (.ireturn, 1) := by decide +kernel
theorem d_lw_children_27 : decode m_lw_children.2.1 27 = .ok (.iconst 0, 1) := by decide +kernel
theorem d_lw_children_28 : decode m_lw_children.2.1 28 = .ok (.ireturn, 1) := by decide +kernel
theorem d_lw_fact_0 : decode m_lw_fact.2.1 0 = .ok (.aload 4, 2) := by decide +kernel
theorem d_lw_fact_2 : decode m_lw_fact.2.1 2 = .ok (.iconst 0, 1) := by decide +kernel
theorem d_lw_fact_3 : decode m_lw_fact.2.1 3 = .ok (.aload_n 0, 1) := by decide +kernel
theorem d_lw_fact_4 : decode m_lw_fact.2.1 4 = .ok (.iload_n 1, 1) := by decide +kernel
theorem d_lw_fact_5 : decode m_lw_fact.2.1 5 = .ok (.iload_n 2, 1) := by decide +kernel
theorem d_lw_fact_6 : decode m_lw_fact.2.1 6 = .ok (.iload_n 3, 1) := by decide +kernel
theorem d_lw_fact_7 : decode m_lw_fact.2.1 7 = .ok (.invokevirtual 55, 3) := by decide +kernel
theorem d_lw_fact_10 : decode m_lw_fact.2.1 10 = .ok (.i2l, 1) := by decide +kernel
theorem d_lw_fact_11 : decode m_lw_fact.2.1 11 = .ok (.lastore, 1) := by decide +kernel
theorem d_lw_fact_12 : decode m_lw_fact.2.1 12 = .ok (.goto 15, 3) := by decide +kernel
theorem d_lw_fact_15 : decode m_lw_fact.2.1 15 = .ok (.astore 5, 2) := by decide +kernel
theorem d_lw_fact_17 : decode m_lw_fact.2.1 17 = .ok (.iconst 1, 1) := by decide +kernel
theorem d_lw_fact_18 : decode m_lw_fact.2.1 18 = .ok (.ireturn, 1) := by decide +kernel
theorem d_lw_fact_19 : decode m_lw_fact.2.1 19 = .ok (.astore 5, 2) := by decide +kernel
theorem d_lw_fact_21 : decode m_lw_fact.2.1 21 = .ok (.iconst 2, 1) := by decide +kernel
theorem d_lw_fact_22 : decode m_lw_fact.2.1 22 = .ok (.ireturn, 1) := by decide +kernel
theorem d_lw_fact_23 : decode m_lw_fact.2.1 23 = .ok (.astore 5, 2) := by decide +kernel
theorem d_lw_fact_25 : decode m_lw_fact.2.1 25 = .ok (.iconst 3, 1) := by decide +kernel
theorem d_lw_fact_26 : decode m_lw_fact.2.1 26 = .ok (.ireturn, 1) := by decide +kernel
theorem d_lw_fact_27 : decode m_lw_fact.2.1 27 = .ok (.iconst 0, 1) := by decide +kernel
theorem d_lw_fact_28 : decode m_lw_fact.2.1 28 = .ok (.ireturn, 1) := by decide +kernel
theorem d_lw_event_0 : decode m_lw_event.2.1 0 = .ok (.aload_n 2, 1) := by decide +kernel
theorem d_lw_event_1 : decode m_lw_event.2.1 1 = .ok (.iconst 0, 1) := by decide +kernel
theorem d_lw_event_2 : decode m_lw_event.2.1 2 = .ok (.aload_n 0, 1) := by decide +kernel
theorem d_lw_event_3 : decode m_lw_event.2.1 3 = .ok (.iload_n 1, 1) := by decide +kernel
theorem d_lw_event_4 : decode m_lw_event.2.1 4 = .ok (.invokevirtual 58, 3) := by decide +kernel
theorem d_lw_event_7 : decode m_lw_event.2.1 7 = .ok (.i2l, 1) := by decide +kernel
theorem d_lw_event_8 : decode m_lw_event.2.1 8 = .ok (.lastore, 1) := by decide +kernel
theorem d_lw_event_9 : decode m_lw_event.2.1 9 = .ok (.goto 12, 3) := by decide +kernel
theorem d_lw_event_12 : decode m_lw_event.2.1 12 = .ok (.astore_n 3, 1) := by decide +kernel
theorem d_lw_event_13 : decode m_lw_event.2.1 13 = .ok (.iconst 1, 1) := by decide +kernel
theorem d_lw_event_14 : decode m_lw_event.2.1 14 = .ok (.ireturn, 1) := by decide +kernel
theorem d_lw_event_15 : decode m_lw_event.2.1 15 = .ok (.astore_n 3, 1) := by decide +kernel
theorem d_lw_event_16 : decode m_lw_event.2.1 16 = .ok (.iconst 2, 1) := by decide +kernel
theorem d_lw_event_17 : decode m_lw_event.2.1 17 = .ok (.ireturn, 1) := by decide +kernel
theorem d_lw_event_18 : decode m_lw_event.2.1 18 = .ok (.astore_n 3, 1) := by decide +kernel
theorem d_lw_event_19 : decode m_lw_event.2.1 19 = .ok (.iconst 3, 1) := by decide +kernel
theorem d_lw_event_20 : decode m_lw_event.2.1 20 = .ok (.ireturn, 1) := by decide +kernel
theorem d_lw_event_21 : decode m_lw_event.2.1 21 = .ok (.iconst 0, 1) := by decide +kernel
theorem d_lw_event_22 : decode m_lw_event.2.1 22 = .ok (.ireturn, 1) := by decide +kernel
theorem d_lw_crash_0 : decode m_lw_crash.2.1 0 = .ok (.aload_n 2, 1) := by decide +kernel
theorem d_lw_crash_1 : decode m_lw_crash.2.1 1 = .ok (.iconst 0, 1) := by decide +kernel
theorem d_lw_crash_2 : decode m_lw_crash.2.1 2 = .ok (.aload_n 0, 1) := by decide +kernel
theorem d_lw_crash_3 : decode m_lw_crash.2.1 3 = .ok (.iload_n 1, 1) := by decide +kernel
theorem d_lw_crash_4 : decode m_lw_crash.2.1 4 = .ok (.invokevirtual 61, 3) := by decide +kernel
theorem d_lw_crash_7 : decode m_lw_crash.2.1 7 = .ok (.i2l, 1) := by decide +kernel
theorem d_lw_crash_8 : decode m_lw_crash.2.1 8 = .ok (.lastore, 1) := by decide +kernel
theorem d_lw_crash_9 : decode m_lw_crash.2.1 9 = .ok (.goto 9, 3) := by decide +kernel
theorem d_lw_crash_12 : decode m_lw_crash.2.1 12 = .ok (.astore_n 3, 1) := by decide +kernel
theorem d_lw_crash_13 : decode m_lw_crash.2.1 13 = .ok (.iconst 1, 1) := by decide +kernel
theorem d_lw_crash_14 : decode m_lw_crash.2.1 14 = .ok (.ireturn, 1) := by decide +kernel
theorem d_lw_crash_15 : decode m_lw_crash.2.1 15 = .ok (.astore_n 3, 1) := by decide +kernel
theorem d_lw_crash_16 : decode m_lw_crash.2.1 16 = .ok (.iconst 2, 1) := by decide +kernel
theorem d_lw_crash_17 : decode m_lw_crash.2.1 17 = .ok (.ireturn, 1) := by decide +kernel
theorem d_lw_crash_18 : decode m_lw_crash.2.1 18 = .ok (.iconst 0, 1) := by decide +kernel
theorem d_lw_crash_19 : decode m_lw_crash.2.1 19 = .ok (.ireturn, 1) := by decide +kernel
theorem d_lw_restart_0 : decode m_lw_restart.2.1 0 = .ok (.aload_n 2, 1) := by decide +kernel
theorem d_lw_restart_1 : decode m_lw_restart.2.1 1 = .ok (.iconst 0, 1) := by decide +kernel
theorem d_lw_restart_2 : decode m_lw_restart.2.1 2 = .ok (.aload_n 0, 1) := by decide +kernel
theorem d_lw_restart_3 : decode m_lw_restart.2.1 3 = .ok (.iload_n 1, 1) := by decide +kernel
theorem d_lw_restart_4 : decode m_lw_restart.2.1 4 = .ok (.invokevirtual 64, 3) := by decide +kernel
theorem d_lw_restart_7 : decode m_lw_restart.2.1 7 = .ok (.i2l, 1) := by decide +kernel
theorem d_lw_restart_8 : decode m_lw_restart.2.1 8 = .ok (.lastore, 1) := by decide +kernel
theorem d_lw_restart_9 : decode m_lw_restart.2.1 9 = .ok (.goto 9, 3) := by decide +kernel
theorem d_lw_restart_12 : decode m_lw_restart.2.1 12 = .ok (.astore_n 3, 1) := by decide +kernel
theorem d_lw_restart_13 : decode m_lw_restart.2.1 13 = .ok (.iconst 1, 1) := by decide +kernel
theorem d_lw_restart_14 : decode m_lw_restart.2.1 14 = .ok (.ireturn, 1) := by decide +kernel
theorem d_lw_restart_15 : decode m_lw_restart.2.1 15 = .ok (.astore_n 3, 1) := by decide +kernel
theorem d_lw_restart_16 : decode m_lw_restart.2.1 16 = .ok (.iconst 2, 1) := by decide +kernel
theorem d_lw_restart_17 : decode m_lw_restart.2.1 17 = .ok (.ireturn, 1) := by decide +kernel
theorem d_lw_restart_18 : decode m_lw_restart.2.1 18 = .ok (.iconst 0, 1) := by decide +kernel
theorem d_lw_restart_19 : decode m_lw_restart.2.1 19 = .ok (.ireturn, 1) := by decide +kernel
theorem d_lw_alone_0 : decode m_lw_alone.2.1 0 = .ok (.aload_n 3, 1) := by decide +kernel
theorem d_lw_alone_1 : decode m_lw_alone.2.1 1 = .ok (.iconst 0, 1) := by decide +kernel
theorem d_lw_alone_2 : decode m_lw_alone.2.1 2 = .ok (.aload_n 0, 1) := by decide +kernel
theorem d_lw_alone_3 : decode m_lw_alone.2.1 3 = .ok (.iload_n 1, 1) := by decide +kernel
theorem d_lw_alone_4 : decode m_lw_alone.2.1 4 = .ok (.iload_n 2, 1) := by decide +kernel
theorem d_lw_alone_5 : decode m_lw_alone.2.1 5 = .ok (.invokevirtual 67, 3) := by decide +kernel
theorem d_lw_alone_8 : decode m_lw_alone.2.1 8 = .ok (.i2l, 1) := by decide +kernel
theorem d_lw_alone_9 : decode m_lw_alone.2.1 9 = .ok (.lastore, 1) := by decide +kernel
theorem d_lw_alone_10 : decode m_lw_alone.2.1 10 = .ok (.goto 7, 3) := by decide +kernel
theorem d_lw_alone_13 : decode m_lw_alone.2.1 13 = .ok (.astore 4, 2) := by decide +kernel
theorem d_lw_alone_15 : decode m_lw_alone.2.1 15 = .ok (.iconst 1, 1) := by decide +kernel
theorem d_lw_alone_16 : decode m_lw_alone.2.1 16 = .ok (.ireturn, 1) := by decide +kernel
theorem d_lw_alone_17 : decode m_lw_alone.2.1 17 = .ok (.iconst 0, 1) := by decide +kernel
theorem d_lw_alone_18 : decode m_lw_alone.2.1 18 = .ok (.ireturn, 1) := by decide +kernel
theorem d_lw_elect_0 : decode m_lw_elect.2.1 0 = .ok (.aload_n 1, 1) := by decide +kernel
theorem d_lw_elect_1 : decode m_lw_elect.2.1 1 = .ok (.iconst 0, 1) := by decide +kernel
theorem d_lw_elect_2 : decode m_lw_elect.2.1 2 = .ok (.aload_n 0, 1) := by decide +kernel
theorem d_lw_elect_3 : decode m_lw_elect.2.1 3 = .ok (.invokevirtual 71, 3) := by decide +kernel
theorem d_lw_elect_6 : decode m_lw_elect.2.1 6 = .ok (.i2l, 1) := by decide +kernel
theorem d_lw_elect_7 : decode m_lw_elect.2.1 7 = .ok (.lastore, 1) := by decide +kernel
theorem d_lw_elect_8 : decode m_lw_elect.2.1 8 = .ok (.goto 6, 3) := by decide +kernel
theorem d_lw_elect_11 : decode m_lw_elect.2.1 11 = .ok (.astore_n 2, 1) := by decide +kernel
theorem d_lw_elect_12 : decode m_lw_elect.2.1 12 = .ok (.iconst 1, 1) := by decide +kernel
theorem d_lw_elect_13 : decode m_lw_elect.2.1 13 = .ok (.ireturn, 1) := by decide +kernel
theorem d_lw_elect_14 : decode m_lw_elect.2.1 14 = .ok (.iconst 0, 1) := by decide +kernel
theorem d_lw_elect_15 : decode m_lw_elect.2.1 15 = .ok (.ireturn, 1) := by decide +kernel
theorem d_lw_tick_0 : decode m_lw_tick.2.1 0 = .ok (.aload_n 2, 1) := by decide +kernel
theorem d_lw_tick_1 : decode m_lw_tick.2.1 1 = .ok (.iconst 0, 1) := by decide +kernel
theorem d_lw_tick_2 : decode m_lw_tick.2.1 2 = .ok (.aload_n 0, 1) := by decide +kernel
theorem d_lw_tick_3 : decode m_lw_tick.2.1 3 = .ok (.iload_n 1, 1) := by decide +kernel
theorem d_lw_tick_4 : decode m_lw_tick.2.1 4 = .ok (.invokevirtual 75, 3) := by decide +kernel
theorem d_lw_tick_7 : decode m_lw_tick.2.1 7 = .ok (.i2l, 1) := by decide +kernel
theorem d_lw_tick_8 : decode m_lw_tick.2.1 8 = .ok (.lastore, 1) := by decide +kernel
theorem d_lw_tick_9 : decode m_lw_tick.2.1 9 = .ok (.goto 6, 3) := by decide +kernel
theorem d_lw_tick_12 : decode m_lw_tick.2.1 12 = .ok (.astore_n 3, 1) := by decide +kernel
theorem d_lw_tick_13 : decode m_lw_tick.2.1 13 = .ok (.iconst 1, 1) := by decide +kernel
theorem d_lw_tick_14 : decode m_lw_tick.2.1 14 = .ok (.ireturn, 1) := by decide +kernel
theorem d_lw_tick_15 : decode m_lw_tick.2.1 15 = .ok (.iconst 0, 1) := by decide +kernel
theorem d_lw_tick_16 : decode m_lw_tick.2.1 16 = .ok (.ireturn, 1) := by decide +kernel
theorem d_lw_state_0 : decode m_lw_state.2.1 0 = .ok (.aload_n 3, 1) := by decide +kernel
theorem d_lw_state_1 : decode m_lw_state.2.1 1 = .ok (.iconst 0, 1) := by decide +kernel
theorem d_lw_state_2 : decode m_lw_state.2.1 2 = .ok (.aload_n 0, 1) := by decide +kernel
theorem d_lw_state_3 : decode m_lw_state.2.1 3 = .ok (.iload_n 1, 1) := by decide +kernel
theorem d_lw_state_4 : decode m_lw_state.2.1 4 = .ok (.iload_n 2, 1) := by decide +kernel
theorem d_lw_state_5 : decode m_lw_state.2.1 5 = .ok (.invokevirtual 78, 3) := by decide +kernel
theorem d_lw_state_8 : decode m_lw_state.2.1 8 = .ok (.i2l, 1) := by decide +kernel
theorem d_lw_state_9 : decode m_lw_state.2.1 9 = .ok (.lastore, 1) := by decide +kernel
theorem d_lw_state_10 : decode m_lw_state.2.1 10 = .ok (.goto 7, 3) := by decide +kernel
theorem d_lw_state_13 : decode m_lw_state.2.1 13 = .ok (.astore 4, 2) := by decide +kernel
theorem d_lw_state_15 : decode m_lw_state.2.1 15 = .ok (.iconst 1, 1) := by decide +kernel
theorem d_lw_state_16 : decode m_lw_state.2.1 16 = .ok (.ireturn, 1) := by decide +kernel
theorem d_lw_state_17 : decode m_lw_state.2.1 17 = .ok (.iconst 0, 1) := by decide +kernel
theorem d_lw_state_18 : decode m_lw_state.2.1 18 = .ok (.ireturn, 1) := by decide +kernel
theorem d_lw_count_0 : decode m_lw_count.2.1 0 = .ok (.aload_n 2, 1) := by decide +kernel
theorem d_lw_count_1 : decode m_lw_count.2.1 1 = .ok (.iconst 0, 1) := by decide +kernel
theorem d_lw_count_2 : decode m_lw_count.2.1 2 = .ok (.aload_n 0, 1) := by decide +kernel
theorem d_lw_count_3 : decode m_lw_count.2.1 3 = .ok (.iload_n 1, 1) := by decide +kernel
theorem d_lw_count_4 : decode m_lw_count.2.1 4 = .ok (.invokevirtual 81, 3) := by decide +kernel
theorem d_lw_count_7 : decode m_lw_count.2.1 7 = .ok (.i2l, 1) := by decide +kernel
theorem d_lw_count_8 : decode m_lw_count.2.1 8 = .ok (.lastore, 1) := by decide +kernel
theorem d_lw_count_9 : decode m_lw_count.2.1 9 = .ok (.goto 6, 3) := by decide +kernel
theorem d_lw_count_12 : decode m_lw_count.2.1 12 = .ok (.astore_n 3, 1) := by decide +kernel
theorem d_lw_count_13 : decode m_lw_count.2.1 13 = .ok (.iconst 1, 1) := by decide +kernel
theorem d_lw_count_14 : decode m_lw_count.2.1 14 = .ok (.ireturn, 1) := by decide +kernel
theorem d_lw_count_15 : decode m_lw_count.2.1 15 = .ok (.iconst 0, 1) := by decide +kernel
theorem d_lw_count_16 : decode m_lw_count.2.1 16 = .ok (.ireturn, 1) := by decide +kernel
