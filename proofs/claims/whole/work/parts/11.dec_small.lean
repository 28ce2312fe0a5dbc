/-! decode rows, by wip/whole/gen_facts.py -/
theorem d_tr_init_0 : decode m_tr_init.2.1 0 = .ok (.aload_n 0, 1) := by decide +kernel
theorem d_tr_init_1 : decode m_tr_init.2.1 1 = .ok (.invokespecial 3, 3) := by decide +kernel
theorem d_tr_init_4 : decode m_tr_init.2.1 4 = .ok (.aload_n 0, 1) := by decide +kernel
theorem d_tr_init_5 : decode m_tr_init.2.1 5 = .ok (.sipush 259, 3) := by decide +kernel
theorem d_tr_init_8 : decode m_tr_init.2.1 8 = .ok (.newarray .int, 2) := by decide +kernel
theorem d_tr_init_10 : decode m_tr_init.2.1 10 = .ok (.putfield 9, 3) := by decide +kernel
theorem d_tr_init_13 : decode m_tr_init.2.1 13 = .ok (.aload_n 0, 1) := by decide +kernel
theorem d_tr_init_14 : decode m_tr_init.2.1 14 = .ok (.sipush 259, 3) := by decide +kernel
theorem d_tr_init_17 : decode m_tr_init.2.1 17 = .ok (.newarray .int, 2) := by decide +kernel
theorem d_tr_init_19 : decode m_tr_init.2.1 19 = .ok (.putfield 15, 3) := by decide +kernel
theorem d_tr_init_22 : decode m_tr_init.2.1 22 = .ok (.aload_n 0, 1) := by decide +kernel
theorem d_tr_init_23 : decode m_tr_init.2.1 23 = .ok (.sipush 259, 3) := by decide +kernel
theorem d_tr_init_26 : decode m_tr_init.2.1 26 = .ok (.newarray .int, 2) := by decide +kernel
theorem d_tr_init_28 : decode m_tr_init.2.1 28 = .ok (.putfield 18, 3) := by decide +kernel
theorem d_tr_init_31 : decode m_tr_init.2.1 31 = .ok (.aload_n 0, 1) := by decide +kernel
theorem d_tr_init_32 : decode m_tr_init.2.1 32 = .ok (.bipush 43, 2) := by decide +kernel
theorem d_tr_init_34 : decode m_tr_init.2.1 34 = .ok (.newarray .int, 2) := by decide +kernel
theorem d_tr_init_36 : decode m_tr_init.2.1 36 = .ok (.putfield 21, 3) := by decide +kernel
theorem d_tr_init_39 : decode m_tr_init.2.1 39 = .ok (.aload_n 0, 1) := by decide +kernel
theorem d_tr_init_40 : decode m_tr_init.2.1 40 = .ok (.getfield 15, 3) := by decide +kernel
theorem d_tr_init_43 : decode m_tr_init.2.1 43 = .ok (.iconst (-1), 1) := by decide +kernel
theorem d_tr_init_44 : decode m_tr_init.2.1 44 = .ok (.invokestatic 24, 3) := by decide +kernel
theorem d_tr_init_47 : decode m_tr_init.2.1 47 = .ok (.aload_n 0, 1) := by decide +kernel
theorem d_tr_init_48 : decode m_tr_init.2.1 48 = .ok (.getfield 18, 3) := by decide +kernel
theorem d_tr_init_51 : decode m_tr_init.2.1 51 = .ok (.iconst (-1), 1) := by decide +kernel
theorem d_tr_init_52 : decode m_tr_init.2.1 52 = .ok (.invokestatic 24, 3) := by decide +kernel
theorem d_tr_init_55 : decode m_tr_init.2.1 55 = .ok (.aload_n 0, 1) := by decide +kernel
theorem d_tr_init_56 : decode m_tr_init.2.1 56 = .ok (.getfield 15, 3) := by decide +kernel
theorem d_tr_init_59 : decode m_tr_init.2.1 59 = .ok (.iconst 0, 1) := by decide +kernel
theorem d_tr_init_60 : decode m_tr_init.2.1 60 = .ok (.iconst 0, 1) := by decide +kernel
theorem d_tr_init_61 : decode m_tr_init.2.1 61 = .ok (.iastore, 1) := by decide +kernel
theorem d_tr_init_62 : decode m_tr_init.2.1 62 = .ok (.return_, 1) := by decide +kernel
theorem d_ar_fill_0 : decode m_ar_fill.2.1 0 = .ok (.iconst 0, 1) := by decide +kernel
theorem d_ar_fill_1 : decode m_ar_fill.2.1 1 = .ok (.istore_n 2, 1) := by decide +kernel
theorem d_ar_fill_2 : decode m_ar_fill.2.1 2 = .ok (.aload_n 0, 1) := by decide +kernel
theorem d_ar_fill_3 : decode m_ar_fill.2.1 3 = .ok (.arraylength, 1) := by decide +kernel
theorem d_ar_fill_4 : decode m_ar_fill.2.1 4 = .ok (.istore_n 3, 1) := by decide +kernel
theorem d_ar_fill_5 : decode m_ar_fill.2.1 5 = .ok (.iload_n 2, 1) := by decide +kernel
theorem d_ar_fill_6 : decode m_ar_fill.2.1 6 = .ok (.iload_n 3, 1) := by decide +kernel
theorem d_ar_fill_7 : decode m_ar_fill.2.1 7 = .ok (.if_icmp .ge (13), 3) := by decide +kernel
theorem d_ar_fill_10 : decode m_ar_fill.2.1 10 = .ok (.aload_n 0, 1) := by decide +kernel
theorem d_ar_fill_11 : decode m_ar_fill.2.1 11 = .ok (.iload_n 2, 1) := by decide +kernel
theorem d_ar_fill_12 : decode m_ar_fill.2.1 12 = .ok (.iload_n 1, 1) := by decide +kernel
theorem d_ar_fill_13 : decode m_ar_fill.2.1 13 = .ok (.iastore, 1) := by decide +kernel
theorem d_ar_fill_14 : decode m_ar_fill.2.1 14 = .ok (.iinc 2 1, 3) := by decide +kernel
theorem d_ar_fill_17 : decode m_ar_fill.2.1 17 = .ok (.goto (-12), 3) := by decide +kernel
theorem d_ar_fill_20 : decode m_ar_fill.2.1 20 = .ok (.return_, 1) := by decide +kernel
theorem d_sv_init_0 : decode m_sv_init.2.1 0 = .ok (.aload_n 0, 1) := by decide +kernel
theorem d_sv_init_1 : decode m_sv_init.2.1 1 = .ok (.invokespecial 3, 3) := by decide +kernel
theorem d_sv_init_4 : decode m_sv_init.2.1 4 = .ok (.aload_n 0, 1) := by decide +kernel
theorem d_sv_init_5 : decode m_sv_init.2.1 5 = .ok (.bipush 64, 2) := by decide +kernel
theorem d_sv_init_7 : decode m_sv_init.2.1 7 = .ok (.anewarray 9, 3) := by decide +kernel
theorem d_sv_init_10 : decode m_sv_init.2.1 10 = .ok (.putfield 11, 3) := by decide +kernel
theorem d_sv_init_13 : decode m_sv_init.2.1 13 = .ok (.aload_n 0, 1) := by decide +kernel
theorem d_sv_init_14 : decode m_sv_init.2.1 14 = .ok (.new 17, 3) := by decide +kernel
theorem d_sv_init_17 : decode m_sv_init.2.1 17 = .ok (.dup, 1) := by decide +kernel
theorem d_sv_init_18 : decode m_sv_init.2.1 18 = .ok (.invokespecial 19, 3) := by decide +kernel
theorem d_sv_init_21 : decode m_sv_init.2.1 21 = .ok (.putfield 20, 3) := by decide +kernel
theorem d_sv_init_24 : decode m_sv_init.2.1 24 = .ok (.aload_n 0, 1) := by decide +kernel
theorem d_sv_init_25 : decode m_sv_init.2.1 25 = .ok (.iconst 0, 1) := by decide +kernel
theorem d_sv_init_26 : decode m_sv_init.2.1 26 = .ok (.putfield 24, 3) := by decide +kernel
theorem d_sv_init_29 : decode m_sv_init.2.1 29 = .ok (.aload_n 0, 1) := by decide +kernel
theorem d_sv_init_30 : decode m_sv_init.2.1 30 = .ok (.iconst 0, 1) := by decide +kernel
theorem d_sv_init_31 : decode m_sv_init.2.1 31 = .ok (.putfield 28, 3) := by decide +kernel
theorem d_sv_init_34 : decode m_sv_init.2.1 34 = .ok (.aload_n 0, 1) := by decide +kernel
theorem d_sv_init_35 : decode m_sv_init.2.1 35 = .ok (.iconst 1, 1) := by decide +kernel
theorem d_sv_init_36 : decode m_sv_init.2.1 36 = .ok (.putfield 31, 3) := by decide +kernel
theorem d_sv_init_39 : decode m_sv_init.2.1 39 = .ok (.aload_n 0, 1) := by decide +kernel
theorem d_sv_init_40 : decode m_sv_init.2.1 40 = .ok (.iconst 1, 1) := by decide +kernel
theorem d_sv_init_41 : decode m_sv_init.2.1 41 = .ok (.putfield 34, 3) := by decide +kernel
theorem d_sv_init_44 : decode m_sv_init.2.1 44 = .ok (.aload_n 0, 1) := by decide +kernel
theorem d_sv_init_45 : decode m_sv_init.2.1 45 = .ok (.iconst 0, 1) := by decide +kernel
theorem d_sv_init_46 : decode m_sv_init.2.1 46 = .ok (.putfield 38, 3) := by decide +kernel
theorem d_sv_init_49 : decode m_sv_init.2.1 49 = .ok (.return_, 1) := by decide +kernel
theorem d_ss_init_0 : decode m_ss_init.2.1 0 = .ok (.aload_n 0, 1) := by decide +kernel
theorem d_ss_init_1 : decode m_ss_init.2.1 1 = .ok (.invokespecial 3, 3) := by decide +kernel
theorem d_ss_init_4 : decode m_ss_init.2.1 4 = .ok (.aload_n 0, 1) := by decide +kernel
theorem d_ss_init_5 : decode m_ss_init.2.1 5 = .ok (.sipush 259, 3) := by decide +kernel
theorem d_ss_init_8 : decode m_ss_init.2.1 8 = .ok (.newarray .int, 2) := by decide +kernel
theorem d_ss_init_10 : decode m_ss_init.2.1 10 = .ok (.putfield 9, 3) := by decide +kernel
theorem d_ss_init_13 : decode m_ss_init.2.1 13 = .ok (.aload_n 0, 1) := by decide +kernel
theorem d_ss_init_14 : decode m_ss_init.2.1 14 = .ok (.bipush 8, 2) := by decide +kernel
theorem d_ss_init_16 : decode m_ss_init.2.1 16 = .ok (.newarray .int, 2) := by decide +kernel
theorem d_ss_init_18 : decode m_ss_init.2.1 18 = .ok (.putfield 15, 3) := by decide +kernel
theorem d_ss_init_21 : decode m_ss_init.2.1 21 = .ok (.aload_n 0, 1) := by decide +kernel
theorem d_ss_init_22 : decode m_ss_init.2.1 22 = .ok (.iconst 0, 1) := by decide +kernel
theorem d_ss_init_23 : decode m_ss_init.2.1 23 = .ok (.putfield 18, 3) := by decide +kernel
theorem d_ss_init_26 : decode m_ss_init.2.1 26 = .ok (.aload_n 0, 1) := by decide +kernel
theorem d_ss_init_27 : decode m_ss_init.2.1 27 = .ok (.iconst 0, 1) := by decide +kernel
theorem d_ss_init_28 : decode m_ss_init.2.1 28 = .ok (.putfield 22, 3) := by decide +kernel
theorem d_ss_init_31 : decode m_ss_init.2.1 31 = .ok (.aload_n 0, 1) := by decide +kernel
theorem d_ss_init_32 : decode m_ss_init.2.1 32 = .ok (.iconst 0, 1) := by decide +kernel
theorem d_ss_init_33 : decode m_ss_init.2.1 33 = .ok (.putfield 26, 3) := by decide +kernel
theorem d_ss_init_36 : decode m_ss_init.2.1 36 = .ok (.aload_n 0, 1) := by decide +kernel
theorem d_ss_init_37 : decode m_ss_init.2.1 37 = .ok (.iconst 0, 1) := by decide +kernel
theorem d_ss_init_38 : decode m_ss_init.2.1 38 = .ok (.putfield 29, 3) := by decide +kernel
theorem d_ss_init_41 : decode m_ss_init.2.1 41 = .ok (.aload_n 0, 1) := by decide +kernel
theorem d_ss_init_42 : decode m_ss_init.2.1 42 = .ok (.iconst 0, 1) := by decide +kernel
theorem d_ss_init_43 : decode m_ss_init.2.1 43 = .ok (.putfield 32, 3) := by decide +kernel
theorem d_ss_init_46 : decode m_ss_init.2.1 46 = .ok (.aload_n 0, 1) := by decide +kernel
theorem d_ss_init_47 : decode m_ss_init.2.1 47 = .ok (.iconst 0, 1) := by decide +kernel
theorem d_ss_init_48 : decode m_ss_init.2.1 48 = .ok (.putfield 35, 3) := by decide +kernel
theorem d_ss_init_51 : decode m_ss_init.2.1 51 = .ok (.return_, 1) := by decide +kernel
theorem d_sv_isOnline_0 : decode m_sv_isOnline.2.1 0 = .ok (.aload_n 0, 1) := by decide +kernel
theorem d_sv_isOnline_1 : decode m_sv_isOnline.2.1 1 = .ok (.getfield 34, 3) := by decide +kernel
theorem d_sv_isOnline_4 : decode m_sv_isOnline.2.1 4 = .ok (.ifCond .eq (14), 3) := by decide +kernel
theorem d_sv_isOnline_7 : decode m_sv_isOnline.2.1 7 = .ok (.aload_n 0, 1) := by decide +kernel
theorem d_sv_isOnline_8 : decode m_sv_isOnline.2.1 8 = .ok (.getfield 38, 3) := by decide +kernel
theorem d_sv_isOnline_11 : decode m_sv_isOnline.2.1 11 = .ok (.ifCond .ne (7), 3) := by decide +kernel
theorem d_sv_isOnline_14 : decode m_sv_isOnline.2.1 14 = .ok (.iconst 1, 1) := by decide +kernel
theorem d_sv_isOnline_15 : decode m_sv_isOnline.2.1 15 = .ok (.goto 4, 3) := by decide +kernel
theorem d_sv_isOnline_18 : decode m_sv_isOnline.2.1 18 = .ok (.iconst 0, 1) := by decide +kernel
theorem d_sv_isOnline_19 : decode m_sv_isOnline.2.1 19 = .ok (.ireturn, 1) := by decide +kernel
theorem d_ss_start_0 : decode m_ss_start.2.1 0 = .ok (.aload_n 0, 1) := by decide +kernel
theorem d_ss_start_1 : decode m_ss_start.2.1 1 = .ok (.iconst 1, 1) := by decide +kernel
theorem d_ss_start_2 : decode m_ss_start.2.1 2 = .ok (.putfield 22, 3) := by decide +kernel
theorem d_ss_start_5 : decode m_ss_start.2.1 5 = .ok (.aload_n 0, 1) := by decide +kernel
theorem d_ss_start_6 : decode m_ss_start.2.1 6 = .ok (.iload_n 1, 1) := by decide +kernel
theorem d_ss_start_7 : decode m_ss_start.2.1 7 = .ok (.putfield 29, 3) := by decide +kernel
theorem d_ss_start_10 : decode m_ss_start.2.1 10 = .ok (.aload_n 0, 1) := by decide +kernel
theorem d_ss_start_11 : decode m_ss_start.2.1 11 = .ok (.iload_n 2, 1) := by decide +kernel
theorem d_ss_start_12 : decode m_ss_start.2.1 12 = .ok (.putfield 32, 3) := by decide +kernel
theorem d_ss_start_15 : decode m_ss_start.2.1 15 = .ok (.aload_n 0, 1) := by decide +kernel
theorem d_ss_start_16 : decode m_ss_start.2.1 16 = .ok (.iload_n 3, 1) := by decide +kernel
theorem d_ss_start_17 : decode m_ss_start.2.1 17 = .ok (.putfield 35, 3) := by decide +kernel
theorem d_ss_start_20 : decode m_ss_start.2.1 20 = .ok (.return_, 1) := by decide +kernel
theorem d_tr_countOwned_0 : decode m_tr_countOwned.2.1 0 = .ok (.iconst 0, 1) := by decide +kernel
theorem d_tr_countOwned_1 : decode m_tr_countOwned.2.1 1 = .ok (.istore_n 2, 1) := by decide +kernel
theorem d_tr_countOwned_2 : decode m_tr_countOwned.2.1 2 = .ok (.iconst 1, 1) := by decide +kernel
theorem d_tr_countOwned_3 : decode m_tr_countOwned.2.1 3 = .ok (.istore_n 3, 1) := by decide +kernel
theorem d_tr_countOwned_4 : decode m_tr_countOwned.2.1 4 = .ok (.iload_n 3, 1) := by decide +kernel
theorem d_tr_countOwned_5 : decode m_tr_countOwned.2.1 5 = .ok (.sipush 259, 3) := by decide +kernel
theorem d_tr_countOwned_8 : decode m_tr_countOwned.2.1 8 = .ok (.if_icmp .ge (22), 3) := by decide +kernel
theorem d_tr_countOwned_11 : decode m_tr_countOwned.2.1 11 = .ok (.aload_n 0, 1) := by decide +kernel
theorem d_tr_countOwned_12 : decode m_tr_countOwned.2.1 12 = .ok (.getfield 18, 3) := by decide +kernel
theorem d_tr_countOwned_15 : decode m_tr_countOwned.2.1 15 = .ok (.iload_n 3, 1) := by decide +kernel
theorem d_tr_countOwned_16 : decode m_tr_countOwned.2.1 16 = .ok (.iaload, 1) := by decide +kernel
theorem d_tr_countOwned_17 : decode m_tr_countOwned.2.1 17 = .ok (.iload_n 1, 1) := by decide +kernel
theorem d_tr_countOwned_18 : decode m_tr_countOwned.2.1 18 = .ok (.if_icmp .ne (6), 3) := by decide +kernel
theorem d_tr_countOwned_21 : decode m_tr_countOwned.2.1 21 = .ok (.iinc 2 1, 3) := by decide +kernel
theorem d_tr_countOwned_24 : decode m_tr_countOwned.2.1 24 = .ok (.iinc 3 1, 3) := by decide +kernel
theorem d_tr_countOwned_27 : decode m_tr_countOwned.2.1 27 = .ok (.goto (-23), 3) := by decide +kernel
theorem d_tr_countOwned_30 : decode m_tr_countOwned.2.1 30 = .ok (.iload_n 2, 1) := by decide +kernel
theorem d_tr_countOwned_31 : decode m_tr_countOwned.2.1 31 = .ok (.ireturn, 1) := by decide +kernel
theorem d_ss_end_0 : decode m_ss_end.2.1 0 = .ok (.aload_n 0, 1) := by decide +kernel
theorem d_ss_end_1 : decode m_ss_end.2.1 1 = .ok (.iconst 0, 1) := by decide +kernel
theorem d_ss_end_2 : decode m_ss_end.2.1 2 = .ok (.putfield 22, 3) := by decide +kernel
theorem d_ss_end_5 : decode m_ss_end.2.1 5 = .ok (.aload_n 0, 1) := by decide +kernel
theorem d_ss_end_6 : decode m_ss_end.2.1 6 = .ok (.iconst 1, 1) := by decide +kernel
theorem d_ss_end_7 : decode m_ss_end.2.1 7 = .ok (.putfield 26, 3) := by decide +kernel
theorem d_ss_end_10 : decode m_ss_end.2.1 10 = .ok (.aload_n 0, 1) := by decide +kernel
theorem d_ss_end_11 : decode m_ss_end.2.1 11 = .ok (.iconst 0, 1) := by decide +kernel
theorem d_ss_end_12 : decode m_ss_end.2.1 12 = .ok (.putfield 18, 3) := by decide +kernel
theorem d_ss_end_15 : decode m_ss_end.2.1 15 = .ok (.aload_n 0, 1) := by decide +kernel
theorem d_ss_end_16 : decode m_ss_end.2.1 16 = .ok (.invokevirtual 38, 3) := by decide +kernel
theorem d_ss_end_19 : decode m_ss_end.2.1 19 = .ok (.return_, 1) := by decide +kernel
theorem d_ss_dropWatches_0 : decode m_ss_dropWatches.2.1 0 = .ok (.aload_n 0, 1) := by decide +kernel
theorem d_ss_dropWatches_1 : decode m_ss_dropWatches.2.1 1 = .ok (.getfield 9, 3) := by decide +kernel
theorem d_ss_dropWatches_4 : decode m_ss_dropWatches.2.1 4 = .ok (.iconst 0, 1) := by decide +kernel
theorem d_ss_dropWatches_5 : decode m_ss_dropWatches.2.1 5 = .ok (.invokestatic 41, 3) := by decide +kernel
theorem d_ss_dropWatches_8 : decode m_ss_dropWatches.2.1 8 = .ok (.return_, 1) := by decide +kernel
theorem d_en_init_0 : decode m_en_init.2.1 0 = .ok (.aload_n 0, 1) := by decide +kernel
theorem d_en_init_1 : decode m_en_init.2.1 1 = .ok (.invokespecial 1, 3) := by decide +kernel
theorem d_en_init_4 : decode m_en_init.2.1 4 = .ok (.aload_n 0, 1) := by decide +kernel
theorem d_en_init_5 : decode m_en_init.2.1 5 = .ok (.iload_n 1, 1) := by decide +kernel
theorem d_en_init_6 : decode m_en_init.2.1 6 = .ok (.putfield 7, 3) := by decide +kernel
theorem d_en_init_9 : decode m_en_init.2.1 9 = .ok (.aload_n 0, 1) := by decide +kernel
theorem d_en_init_10 : decode m_en_init.2.1 10 = .ok (.iload_n 2, 1) := by decide +kernel
theorem d_en_init_11 : decode m_en_init.2.1 11 = .ok (.putfield 13, 3) := by decide +kernel
theorem d_en_init_14 : decode m_en_init.2.1 14 = .ok (.aload_n 0, 1) := by decide +kernel
theorem d_en_init_15 : decode m_en_init.2.1 15 = .ok (.iload_n 3, 1) := by decide +kernel
theorem d_en_init_16 : decode m_en_init.2.1 16 = .ok (.putfield 16, 3) := by decide +kernel
theorem d_en_init_19 : decode m_en_init.2.1 19 = .ok (.aload_n 0, 1) := by decide +kernel
theorem d_en_init_20 : decode m_en_init.2.1 20 = .ok (.iload 4, 2) := by decide +kernel
theorem d_en_init_22 : decode m_en_init.2.1 22 = .ok (.putfield 19, 3) := by decide +kernel
theorem d_en_init_25 : decode m_en_init.2.1 25 = .ok (.aload_n 0, 1) := by decide +kernel
theorem d_en_init_26 : decode m_en_init.2.1 26 = .ok (.iload 5, 2) := by decide +kernel
theorem d_en_init_28 : decode m_en_init.2.1 28 = .ok (.putfield 22, 3) := by decide +kernel
theorem d_en_init_31 : decode m_en_init.2.1 31 = .ok (.return_, 1) := by decide +kernel
theorem d_sv_append_0 : decode m_sv_append.2.1 0 = .ok (.aload_n 0, 1) := by decide +kernel
theorem d_sv_append_1 : decode m_sv_append.2.1 1 = .ok (.getfield 24, 3) := by decide +kernel
theorem d_sv_append_4 : decode m_sv_append.2.1 4 = .ok (.bipush 64, 2) := by decide +kernel
theorem d_sv_append_6 : decode m_sv_append.2.1 6 = .ok (.if_icmp .ge (23), 3) := by decide +kernel
theorem d_sv_append_9 : decode m_sv_append.2.1 9 = .ok (.aload_n 0, 1) := by decide +kernel
theorem d_sv_append_10 : decode m_sv_append.2.1 10 = .ok (.getfield 11, 3) := by decide +kernel
theorem d_sv_append_13 : decode m_sv_append.2.1 13 = .ok (.aload_n 0, 1) := by decide +kernel
theorem d_sv_append_14 : decode m_sv_append.2.1 14 = .ok (.getfield 24, 3) := by decide +kernel
theorem d_sv_append_17 : decode m_sv_append.2.1 17 = .ok (.aload_n 1, 1) := by decide +kernel
theorem d_sv_append_18 : decode m_sv_append.2.1 18 = .ok (.aastore, 1) := by decide +kernel
theorem d_sv_append_19 : decode m_sv_append.2.1 19 = .ok (.aload_n 0, 1) := by decide +kernel
theorem d_sv_append_20 : decode m_sv_append.2.1 20 = .ok (.dup, 1) := by decide +kernel
theorem d_sv_append_21 : decode m_sv_append.2.1 21 = .ok (.getfield 24, 3) := by decide +kernel
theorem d_sv_append_24 : decode m_sv_append.2.1 24 = .ok (.iconst 1, 1) := by decide +kernel
theorem d_sv_append_25 : decode m_sv_append.2.1 25 = .ok (.iadd, 1) := by decide +kernel
theorem d_sv_append_26 : decode m_sv_append.2.1 26 = .ok (.putfield 24, 3) := by decide +kernel
theorem d_sv_append_29 : decode m_sv_append.2.1 29 = .ok (.return_, 1) := by decide +kernel
theorem d_tr_play_0 : decode m_tr_play.2.1 0 = .ok (.aload_n 1, 1) := by decide +kernel
theorem d_tr_play_1 : decode m_tr_play.2.1 1 = .ok (.getfield 30, 3) := by decide +kernel
theorem d_tr_play_4 : decode m_tr_play.2.1 4 = .ok (.tableswitch (76) (0) (2) #[28, 36, 65], 28) := by decide +kernel
theorem d_tr_play_32 : decode m_tr_play.2.1 32 = .ok (.aload_n 0, 1) := by decide +kernel
theorem d_tr_play_33 : decode m_tr_play.2.1 33 = .ok (.aload_n 1, 1) := by decide +kernel
theorem d_tr_play_34 : decode m_tr_play.2.1 34 = .ok (.invokevirtual 36, 3) := by decide +kernel
theorem d_tr_play_37 : decode m_tr_play.2.1 37 = .ok (.goto 51, 3) := by decide +kernel
theorem d_tr_play_40 : decode m_tr_play.2.1 40 = .ok (.aload_n 0, 1) := by decide +kernel
theorem d_tr_play_41 : decode m_tr_play.2.1 41 = .ok (.getfield 9, 3) := by decide +kernel
theorem d_tr_play_44 : decode m_tr_play.2.1 44 = .ok (.aload_n 1, 1) := by decide +kernel
theorem d_tr_play_45 : decode m_tr_play.2.1 45 = .ok (.getfield 40, 3) := by decide +kernel
theorem d_tr_play_48 : decode m_tr_play.2.1 48 = .ok (.aload_n 1, 1) := by decide +kernel
theorem d_tr_play_49 : decode m_tr_play.2.1 49 = .ok (.getfield 43, 3) := by decide +kernel
theorem d_tr_play_52 : decode m_tr_play.2.1 52 = .ok (.iastore, 1) := by decide +kernel
theorem d_tr_play_53 : decode m_tr_play.2.1 53 = .ok (.aload_n 0, 1) := by decide +kernel
theorem d_tr_play_54 : decode m_tr_play.2.1 54 = .ok (.getfield 15, 3) := by decide +kernel
theorem d_tr_play_57 : decode m_tr_play.2.1 57 = .ok (.aload_n 1, 1) := by decide +kernel
theorem d_tr_play_58 : decode m_tr_play.2.1 58 = .ok (.getfield 40, 3) := by decide +kernel
theorem d_tr_play_61 : decode m_tr_play.2.1 61 = .ok (.dup2, 1) := by decide +kernel
theorem d_tr_play_62 : decode m_tr_play.2.1 62 = .ok (.iaload, 1) := by decide +kernel
theorem d_tr_play_63 : decode m_tr_play.2.1 63 = .ok (.iconst 1, 1) := by decide +kernel
theorem d_tr_play_64 : decode m_tr_play.2.1 64 = .ok (.iadd, 1) := by decide +kernel
theorem d_tr_play_65 : decode m_tr_play.2.1 65 = .ok (.iastore, 1) := by decide +kernel
theorem d_tr_play_66 : decode m_tr_play.2.1 66 = .ok (.goto 22, 3) := by decide +kernel
theorem d_tr_play_69 : decode m_tr_play.2.1 69 = .ok (.aload_n 0, 1) := by decide +kernel
theorem d_tr_play_70 : decode m_tr_play.2.1 70 = .ok (.aload_n 1, 1) := by decide +kernel
theorem d_tr_play_71 : decode m_tr_play.2.1 71 = .ok (.getfield 40, 3) := by decide +kernel
theorem d_tr_play_74 : decode m_tr_play.2.1 74 = .ok (.invokevirtual 45, 3) := by decide +kernel
theorem d_tr_play_77 : decode m_tr_play.2.1 77 = .ok (.goto 11, 3) := by decide +kernel
theorem d_tr_play_80 : decode m_tr_play.2.1 80 = .ok (.aload_n 0, 1) := by decide +kernel
theorem d_tr_play_81 : decode m_tr_play.2.1 81 = .ok (.aload_n 1, 1) := by decide +kernel
theorem d_tr_play_82 : decode m_tr_play.2.1 82 = .ok (.getfield 49, 3) := by decide +kernel
theorem d_tr_play_85 : decode m_tr_play.2.1 85 = .ok (.invokevirtual 51, 3) := by decide +kernel
theorem d_tr_play_88 : decode m_tr_play.2.1 88 = .ok (.return_, 1) := by decide +kernel
theorem d_tr_makeNode_0 : decode m_tr_makeNode.2.1 0 = .ok (.aload_n 1, 1) := by decide +kernel
theorem d_tr_makeNode_1 : decode m_tr_makeNode.2.1 1 = .ok (.getfield 40, 3) := by decide +kernel
theorem d_tr_makeNode_4 : decode m_tr_makeNode.2.1 4 = .ok (.istore_n 2, 1) := by decide +kernel
theorem d_tr_makeNode_5 : decode m_tr_makeNode.2.1 5 = .ok (.aload_n 0, 1) := by decide +kernel
theorem d_tr_makeNode_6 : decode m_tr_makeNode.2.1 6 = .ok (.getfield 9, 3) := by decide +kernel
theorem d_tr_makeNode_9 : decode m_tr_makeNode.2.1 9 = .ok (.iload_n 2, 1) := by decide +kernel
theorem d_tr_makeNode_10 : decode m_tr_makeNode.2.1 10 = .ok (.aload_n 1, 1) := by decide +kernel
theorem d_tr_makeNode_11 : decode m_tr_makeNode.2.1 11 = .ok (.getfield 43, 3) := by decide +kernel
theorem d_tr_makeNode_14 : decode m_tr_makeNode.2.1 14 = .ok (.iastore, 1) := by decide +kernel
theorem d_tr_makeNode_15 : decode m_tr_makeNode.2.1 15 = .ok (.aload_n 0, 1) := by decide +kernel
theorem d_tr_makeNode_16 : decode m_tr_makeNode.2.1 16 = .ok (.getfield 15, 3) := by decide +kernel
theorem d_tr_makeNode_19 : decode m_tr_makeNode.2.1 19 = .ok (.iload_n 2, 1) := by decide +kernel
theorem d_tr_makeNode_20 : decode m_tr_makeNode.2.1 20 = .ok (.iconst 0, 1) := by decide +kernel
theorem d_tr_makeNode_21 : decode m_tr_makeNode.2.1 21 = .ok (.iastore, 1) := by decide +kernel
theorem d_tr_makeNode_22 : decode m_tr_makeNode.2.1 22 = .ok (.aload_n 0, 1) := by decide +kernel
theorem d_tr_makeNode_23 : decode m_tr_makeNode.2.1 23 = .ok (.getfield 18, 3) := by decide +kernel
theorem d_tr_makeNode_26 : decode m_tr_makeNode.2.1 26 = .ok (.iload_n 2, 1) := by decide +kernel
theorem d_tr_makeNode_27 : decode m_tr_makeNode.2.1 27 = .ok (.aload_n 1, 1) := by decide +kernel
theorem d_tr_makeNode_28 : decode m_tr_makeNode.2.1 28 = .ok (.getfield 49, 3) := by decide +kernel
theorem d_tr_makeNode_31 : decode m_tr_makeNode.2.1 31 = .ok (.iastore, 1) := by decide +kernel
theorem d_tr_makeNode_32 : decode m_tr_makeNode.2.1 32 = .ok (.iload_n 2, 1) := by decide +kernel
theorem d_tr_makeNode_33 : decode m_tr_makeNode.2.1 33 = .ok (.bipush 43, 2) := by decide +kernel
theorem d_tr_makeNode_35 : decode m_tr_makeNode.2.1 35 = .ok (.if_icmp .ge (10), 3) := by decide +kernel
theorem d_tr_makeNode_38 : decode m_tr_makeNode.2.1 38 = .ok (.aload_n 0, 1) := by decide +kernel
theorem d_tr_makeNode_39 : decode m_tr_makeNode.2.1 39 = .ok (.getfield 21, 3) := by decide +kernel
theorem d_tr_makeNode_42 : decode m_tr_makeNode.2.1 42 = .ok (.iload_n 2, 1) := by decide +kernel
theorem d_tr_makeNode_43 : decode m_tr_makeNode.2.1 43 = .ok (.iconst 0, 1) := by decide +kernel
theorem d_tr_makeNode_44 : decode m_tr_makeNode.2.1 44 = .ok (.iastore, 1) := by decide +kernel
theorem d_tr_makeNode_45 : decode m_tr_makeNode.2.1 45 = .ok (.aload_n 1, 1) := by decide +kernel
theorem d_tr_makeNode_46 : decode m_tr_makeNode.2.1 46 = .ok (.getfield 54, 3) := by decide +kernel
theorem d_tr_makeNode_49 : decode m_tr_makeNode.2.1 49 = .ok (.ifCond .eq (23), 3) := by decide +kernel
theorem d_tr_makeNode_52 : decode m_tr_makeNode.2.1 52 = .ok (.iload_n 2, 1) := by decide +kernel
theorem d_tr_makeNode_53 : decode m_tr_makeNode.2.1 53 = .ok (.invokestatic 58, 3) := by decide +kernel
theorem d_tr_makeNode_56 : decode m_tr_makeNode.2.1 56 = .ok (.istore_n 3, 1) := by decide +kernel
theorem d_tr_makeNode_57 : decode m_tr_makeNode.2.1 57 = .ok (.aload_n 0, 1) := by decide +kernel
theorem d_tr_makeNode_58 : decode m_tr_makeNode.2.1 58 = .ok (.getfield 21, 3) := by decide +kernel
theorem d_tr_makeNode_61 : decode m_tr_makeNode.2.1 61 = .ok (.iload_n 3, 1) := by decide +kernel
theorem d_tr_makeNode_62 : decode m_tr_makeNode.2.1 62 = .ok (.iload_n 2, 1) := by decide +kernel
theorem d_tr_makeNode_63 : decode m_tr_makeNode.2.1 63 = .ok (.iload_n 3, 1) := by decide +kernel
theorem d_tr_makeNode_64 : decode m_tr_makeNode.2.1 64 = .ok (.iconst 0, 1) := by decide +kernel
theorem d_tr_makeNode_65 : decode m_tr_makeNode.2.1 65 = .ok (.invokestatic 62, 3) := by decide +kernel
theorem d_tr_makeNode_68 : decode m_tr_makeNode.2.1 68 = .ok (.isub, 1) := by decide +kernel
theorem d_tr_makeNode_69 : decode m_tr_makeNode.2.1 69 = .ok (.iconst 1, 1) := by decide +kernel
theorem d_tr_makeNode_70 : decode m_tr_makeNode.2.1 70 = .ok (.iadd, 1) := by decide +kernel
theorem d_tr_makeNode_71 : decode m_tr_makeNode.2.1 71 = .ok (.iastore, 1) := by decide +kernel
theorem d_tr_makeNode_72 : decode m_tr_makeNode.2.1 72 = .ok (.return_, 1) := by decide +kernel
theorem d_tr_dropNode_0 : decode m_tr_dropNode.2.1 0 = .ok (.aload_n 0, 1) := by decide +kernel
theorem d_tr_dropNode_1 : decode m_tr_dropNode.2.1 1 = .ok (.getfield 15, 3) := by decide +kernel
theorem d_tr_dropNode_4 : decode m_tr_dropNode.2.1 4 = .ok (.iload_n 1, 1) := by decide +kernel
theorem d_tr_dropNode_5 : decode m_tr_dropNode.2.1 5 = .ok (.iconst (-1), 1) := by decide +kernel
theorem d_tr_dropNode_6 : decode m_tr_dropNode.2.1 6 = .ok (.iastore, 1) := by decide +kernel
theorem d_tr_dropNode_7 : decode m_tr_dropNode.2.1 7 = .ok (.aload_n 0, 1) := by decide +kernel
theorem d_tr_dropNode_8 : decode m_tr_dropNode.2.1 8 = .ok (.getfield 18, 3) := by decide +kernel
theorem d_tr_dropNode_11 : decode m_tr_dropNode.2.1 11 = .ok (.iload_n 1, 1) := by decide +kernel
theorem d_tr_dropNode_12 : decode m_tr_dropNode.2.1 12 = .ok (.iconst (-1), 1) := by decide +kernel
theorem d_tr_dropNode_13 : decode m_tr_dropNode.2.1 13 = .ok (.iastore, 1) := by decide +kernel
theorem d_tr_dropNode_14 : decode m_tr_dropNode.2.1 14 = .ok (.return_, 1) := by decide +kernel
theorem d_tr_dropOwned_0 : decode m_tr_dropOwned.2.1 0 = .ok (.iconst 1, 1) := by decide +kernel
theorem d_tr_dropOwned_1 : decode m_tr_dropOwned.2.1 1 = .ok (.istore_n 2, 1) := by decide +kernel
theorem d_tr_dropOwned_2 : decode m_tr_dropOwned.2.1 2 = .ok (.iload_n 2, 1) := by decide +kernel
theorem d_tr_dropOwned_3 : decode m_tr_dropOwned.2.1 3 = .ok (.sipush 259, 3) := by decide +kernel
theorem d_tr_dropOwned_6 : decode m_tr_dropOwned.2.1 6 = .ok (.if_icmp .ge (24), 3) := by decide +kernel
theorem d_tr_dropOwned_9 : decode m_tr_dropOwned.2.1 9 = .ok (.aload_n 0, 1) := by decide +kernel
theorem d_tr_dropOwned_10 : decode m_tr_dropOwned.2.1 10 = .ok (.getfield 18, 3) := by decide +kernel
theorem d_tr_dropOwned_13 : decode m_tr_dropOwned.2.1 13 = .ok (.iload_n 2, 1) := by decide +kernel
theorem d_tr_dropOwned_14 : decode m_tr_dropOwned.2.1 14 = .ok (.iaload, 1) := by decide +kernel
theorem d_tr_dropOwned_15 : decode m_tr_dropOwned.2.1 15 = .ok (.iload_n 1, 1) := by decide +kernel
theorem d_tr_dropOwned_16 : decode m_tr_dropOwned.2.1 16 = .ok (.if_icmp .ne (8), 3) := by decide +kernel
theorem d_tr_dropOwned_19 : decode m_tr_dropOwned.2.1 19 = .ok (.aload_n 0, 1) := by decide +kernel
theorem d_tr_dropOwned_20 : decode m_tr_dropOwned.2.1 20 = .ok (.iload_n 2, 1) := by decide +kernel
theorem d_tr_dropOwned_21 : decode m_tr_dropOwned.2.1 21 = .ok (.invokevirtual 45, 3) := by decide +kernel
theorem d_tr_dropOwned_24 : decode m_tr_dropOwned.2.1 24 = .ok (.iinc 2 1, 3) := by decide +kernel
theorem d_tr_dropOwned_27 : decode m_tr_dropOwned.2.1 27 = .ok (.goto (-25), 3) := by decide +kernel
theorem d_tr_dropOwned_30 : decode m_tr_dropOwned.2.1 30 = .ok (.return_, 1) := by decide +kernel
theorem d_sv_follow_0 : decode m_sv_follow.2.1 0 = .ok (.iconst 0, 1) := by decide +kernel
theorem d_sv_follow_1 : decode m_sv_follow.2.1 1 = .ok (.istore_n 3, 1) := by decide +kernel
theorem d_sv_follow_2 : decode m_sv_follow.2.1 2 = .ok (.iload_n 3, 1) := by decide +kernel
theorem d_sv_follow_3 : decode m_sv_follow.2.1 3 = .ok (.aload_n 1, 1) := by decide +kernel
theorem d_sv_follow_4 : decode m_sv_follow.2.1 4 = .ok (.getfield 24, 3) := by decide +kernel
theorem d_sv_follow_7 : decode m_sv_follow.2.1 7 = .ok (.if_icmp .ge (21), 3) := by decide +kernel
theorem d_sv_follow_10 : decode m_sv_follow.2.1 10 = .ok (.aload_n 0, 1) := by decide +kernel
theorem d_sv_follow_11 : decode m_sv_follow.2.1 11 = .ok (.getfield 11, 3) := by decide +kernel
theorem d_sv_follow_14 : decode m_sv_follow.2.1 14 = .ok (.iload_n 3, 1) := by decide +kernel
theorem d_sv_follow_15 : decode m_sv_follow.2.1 15 = .ok (.aload_n 1, 1) := by decide +kernel
theorem d_sv_follow_16 : decode m_sv_follow.2.1 16 = .ok (.getfield 11, 3) := by decide +kernel
theorem d_sv_follow_19 : decode m_sv_follow.2.1 19 = .ok (.iload_n 3, 1) := by decide +kernel
theorem d_sv_follow_20 : decode m_sv_follow.2.1 20 = .ok (.aaload, 1) := by decide +kernel
theorem d_sv_follow_21 : decode m_sv_follow.2.1 21 = .ok (.aastore, 1) := by decide +kernel
theorem d_sv_follow_22 : decode m_sv_follow.2.1 22 = .ok (.iinc 3 1, 3) := by decide +kernel
theorem d_sv_follow_25 : decode m_sv_follow.2.1 25 = .ok (.goto (-23), 3) := by decide +kernel
theorem d_sv_follow_28 : decode m_sv_follow.2.1 28 = .ok (.aload_n 0, 1) := by decide +kernel
theorem d_sv_follow_29 : decode m_sv_follow.2.1 29 = .ok (.aload_n 1, 1) := by decide +kernel
theorem d_sv_follow_30 : decode m_sv_follow.2.1 30 = .ok (.getfield 24, 3) := by decide +kernel
theorem d_sv_follow_33 : decode m_sv_follow.2.1 33 = .ok (.putfield 24, 3) := by decide +kernel
theorem d_sv_follow_36 : decode m_sv_follow.2.1 36 = .ok (.aload_n 0, 1) := by decide +kernel
theorem d_sv_follow_37 : decode m_sv_follow.2.1 37 = .ok (.iload_n 2, 1) := by decide +kernel
theorem d_sv_follow_38 : decode m_sv_follow.2.1 38 = .ok (.putfield 31, 3) := by decide +kernel
theorem d_sv_follow_41 : decode m_sv_follow.2.1 41 = .ok (.return_, 1) := by decide +kernel
theorem d_ss_hear_0 : decode m_ss_hear.2.1 0 = .ok (.aload_n 1, 1) := by decide +kernel
theorem d_ss_hear_1 : decode m_ss_hear.2.1 1 = .ok (.getfield 47, 3) := by decide +kernel
theorem d_ss_hear_4 : decode m_ss_hear.2.1 4 = .ok (.tableswitch (64) (0) (2) #[28, 40, 52], 28) := by decide +kernel
theorem d_ss_hear_32 : decode m_ss_hear.2.1 32 = .ok (.aload_n 0, 1) := by decide +kernel
theorem d_ss_hear_33 : decode m_ss_hear.2.1 33 = .ok (.aload_n 1, 1) := by decide +kernel
theorem d_ss_hear_34 : decode m_ss_hear.2.1 34 = .ok (.getfield 52, 3) := by decide +kernel
theorem d_ss_hear_37 : decode m_ss_hear.2.1 37 = .ok (.iconst 1, 1) := by decide +kernel
theorem d_ss_hear_38 : decode m_ss_hear.2.1 38 = .ok (.invokevirtual 55, 3) := by decide +kernel
theorem d_ss_hear_41 : decode m_ss_hear.2.1 41 = .ok (.goto 61, 3) := by decide +kernel
theorem d_ss_hear_44 : decode m_ss_hear.2.1 44 = .ok (.aload_n 0, 1) := by decide +kernel
theorem d_ss_hear_45 : decode m_ss_hear.2.1 45 = .ok (.aload_n 1, 1) := by decide +kernel
theorem d_ss_hear_46 : decode m_ss_hear.2.1 46 = .ok (.getfield 52, 3) := by decide +kernel
theorem d_ss_hear_49 : decode m_ss_hear.2.1 49 = .ok (.iconst 2, 1) := by decide +kernel
theorem d_ss_hear_50 : decode m_ss_hear.2.1 50 = .ok (.invokevirtual 55, 3) := by decide +kernel
theorem d_ss_hear_53 : decode m_ss_hear.2.1 53 = .ok (.goto 49, 3) := by decide +kernel
theorem d_ss_hear_56 : decode m_ss_hear.2.1 56 = .ok (.aload_n 0, 1) := by decide +kernel
theorem d_ss_hear_57 : decode m_ss_hear.2.1 57 = .ok (.aload_n 1, 1) := by decide +kernel
theorem d_ss_hear_58 : decode m_ss_hear.2.1 58 = .ok (.getfield 52, 3) := by decide +kernel
theorem d_ss_hear_61 : decode m_ss_hear.2.1 61 = .ok (.iconst 3, 1) := by decide +kernel
theorem d_ss_hear_62 : decode m_ss_hear.2.1 62 = .ok (.invokevirtual 55, 3) := by decide +kernel
theorem d_ss_hear_65 : decode m_ss_hear.2.1 65 = .ok (.goto 37, 3) := by decide +kernel
theorem d_ss_hear_68 : decode m_ss_hear.2.1 68 = .ok (.iconst 1, 1) := by decide +kernel
theorem d_ss_hear_69 : decode m_ss_hear.2.1 69 = .ok (.istore_n 3, 1) := by decide +kernel
theorem d_ss_hear_70 : decode m_ss_hear.2.1 70 = .ok (.iload_n 3, 1) := by decide +kernel
theorem d_ss_hear_71 : decode m_ss_hear.2.1 71 = .ok (.sipush 259, 3) := by decide +kernel
theorem d_ss_hear_74 : decode m_ss_hear.2.1 74 = .ok (.if_icmp .ge (28), 3) := by decide +kernel
theorem d_ss_hear_77 : decode m_ss_hear.2.1 77 = .ok (.aload_n 2, 1) := by decide +kernel
theorem d_ss_hear_78 : decode m_ss_hear.2.1 78 = .ok (.getfield 59, 3) := by decide +kernel
theorem d_ss_hear_81 : decode m_ss_hear.2.1 81 = .ok (.iload_n 3, 1) := by decide +kernel
theorem d_ss_hear_82 : decode m_ss_hear.2.1 82 = .ok (.iaload, 1) := by decide +kernel
theorem d_ss_hear_83 : decode m_ss_hear.2.1 83 = .ok (.aload_n 1, 1) := by decide +kernel
theorem d_ss_hear_84 : decode m_ss_hear.2.1 84 = .ok (.getfield 64, 3) := by decide +kernel
theorem d_ss_hear_87 : decode m_ss_hear.2.1 87 = .ok (.if_icmp .ne (9), 3) := by decide +kernel
theorem d_ss_hear_90 : decode m_ss_hear.2.1 90 = .ok (.aload_n 0, 1) := by decide +kernel
theorem d_ss_hear_91 : decode m_ss_hear.2.1 91 = .ok (.iload_n 3, 1) := by decide +kernel
theorem d_ss_hear_92 : decode m_ss_hear.2.1 92 = .ok (.iconst 3, 1) := by decide +kernel
theorem d_ss_hear_93 : decode m_ss_hear.2.1 93 = .ok (.invokevirtual 55, 3) := by decide +kernel
theorem d_ss_hear_96 : decode m_ss_hear.2.1 96 = .ok (.iinc 3 1, 3) := by decide +kernel
theorem d_ss_hear_99 : decode m_ss_hear.2.1 99 = .ok (.goto (-29), 3) := by decide +kernel
theorem d_ss_hear_102 : decode m_ss_hear.2.1 102 = .ok (.return_, 1) := by decide +kernel
theorem d_ss_tellOf_0 : decode m_ss_tellOf.2.1 0 = .ok (.aload_n 0, 1) := by decide +kernel
theorem d_ss_tellOf_1 : decode m_ss_tellOf.2.1 1 = .ok (.iload_n 1, 1) := by decide +kernel
theorem d_ss_tellOf_2 : decode m_ss_tellOf.2.1 2 = .ok (.iload_n 2, 1) := by decide +kernel
theorem d_ss_tellOf_3 : decode m_ss_tellOf.2.1 3 = .ok (.iconst 3, 1) := by decide +kernel
theorem d_ss_tellOf_4 : decode m_ss_tellOf.2.1 4 = .ok (.if_icmp .ne (7), 3) := by decide +kernel
theorem d_ss_tellOf_7 : decode m_ss_tellOf.2.1 7 = .ok (.iconst 3, 1) := by decide +kernel
theorem d_ss_tellOf_8 : decode m_ss_tellOf.2.1 8 = .ok (.goto 4, 3) := by decide +kernel
theorem d_ss_tellOf_11 : decode m_ss_tellOf.2.1 11 = .ok (.iconst 1, 1) := by decide +kernel
theorem d_ss_tellOf_12 : decode m_ss_tellOf.2.1 12 = .ok (.iload_n 2, 1) := by decide +kernel
theorem d_ss_tellOf_13 : decode m_ss_tellOf.2.1 13 = .ok (.invokevirtual 66, 3) := by decide +kernel
theorem d_ss_tellOf_16 : decode m_ss_tellOf.2.1 16 = .ok (.iload_n 2, 1) := by decide +kernel
theorem d_ss_tellOf_17 : decode m_ss_tellOf.2.1 17 = .ok (.iconst 2, 1) := by decide +kernel
theorem d_ss_tellOf_18 : decode m_ss_tellOf.2.1 18 = .ok (.if_icmp .eq (13), 3) := by decide +kernel
theorem d_ss_tellOf_21 : decode m_ss_tellOf.2.1 21 = .ok (.aload_n 0, 1) := by decide +kernel
theorem d_ss_tellOf_22 : decode m_ss_tellOf.2.1 22 = .ok (.iload_n 1, 1) := by decide +kernel
theorem d_ss_tellOf_23 : decode m_ss_tellOf.2.1 23 = .ok (.invokestatic 70, 3) := by decide +kernel
theorem d_ss_tellOf_26 : decode m_ss_tellOf.2.1 26 = .ok (.iconst 2, 1) := by decide +kernel
theorem d_ss_tellOf_27 : decode m_ss_tellOf.2.1 27 = .ok (.iconst 4, 1) := by decide +kernel
theorem d_ss_tellOf_28 : decode m_ss_tellOf.2.1 28 = .ok (.invokevirtual 66, 3) := by decide +kernel
theorem d_ss_tellOf_31 : decode m_ss_tellOf.2.1 31 = .ok (.return_, 1) := by decide +kernel
theorem d_ss_tellWatches_0 : decode m_ss_tellWatches.2.1 0 = .ok (.aload_n 0, 1) := by decide +kernel
theorem d_ss_tellWatches_1 : decode m_ss_tellWatches.2.1 1 = .ok (.getfield 9, 3) := by decide +kernel
theorem d_ss_tellWatches_4 : decode m_ss_tellWatches.2.1 4 = .ok (.iload_n 1, 1) := by decide +kernel
theorem d_ss_tellWatches_5 : decode m_ss_tellWatches.2.1 5 = .ok (.iaload, 1) := by decide +kernel
theorem d_ss_tellWatches_6 : decode m_ss_tellWatches.2.1 6 = .ok (.iload_n 2, 1) := by decide +kernel
theorem d_ss_tellWatches_7 : decode m_ss_tellWatches.2.1 7 = .ok (.iand, 1) := by decide +kernel
theorem d_ss_tellWatches_8 : decode m_ss_tellWatches.2.1 8 = .ok (.ifCond .ne (4), 3) := by decide +kernel
theorem d_ss_tellWatches_11 : decode m_ss_tellWatches.2.1 11 = .ok (.return_, 1) := by decide +kernel
theorem d_ss_tellWatches_12 : decode m_ss_tellWatches.2.1 12 = .ok (.aload_n 0, 1) := by decide +kernel
theorem d_ss_tellWatches_13 : decode m_ss_tellWatches.2.1 13 = .ok (.getfield 9, 3) := by decide +kernel
theorem d_ss_tellWatches_16 : decode m_ss_tellWatches.2.1 16 = .ok (.iload_n 1, 1) := by decide +kernel
theorem d_ss_tellWatches_17 : decode m_ss_tellWatches.2.1 17 = .ok (.dup2, 1) := by decide +kernel
theorem d_ss_tellWatches_18 : decode m_ss_tellWatches.2.1 18 = .ok (.iaload, 1) := by decide +kernel
theorem d_ss_tellWatches_19 : decode m_ss_tellWatches.2.1 19 = .ok (.iload_n 2, 1) := by decide +kernel
theorem d_ss_tellWatches_20 : decode m_ss_tellWatches.2.1 20 = .ok (.iconst (-1), 1) := by decide +kernel
theorem d_ss_tellWatches_21 : decode m_ss_tellWatches.2.1 21 = .ok (.ixor, 1) := by decide +kernel
theorem d_ss_tellWatches_22 : decode m_ss_tellWatches.2.1 22 = .ok (.iand, 1) := by decide +kernel
theorem d_ss_tellWatches_23 : decode m_ss_tellWatches.2.1 23 = .ok (.iastore, 1) := by decide +kernel
theorem d_ss_tellWatches_24 : decode m_ss_tellWatches.2.1 24 = .ok (.aload_n 0, 1) := by decide +kernel
theorem d_ss_tellWatches_25 : decode m_ss_tellWatches.2.1 25 = .ok (.getfield 18, 3) := by decide +kernel
theorem d_ss_tellWatches_28 : decode m_ss_tellWatches.2.1 28 = .ok (.bipush 8, 2) := by decide +kernel
theorem d_ss_tellWatches_30 : decode m_ss_tellWatches.2.1 30 = .ok (.if_icmp .ge (29), 3) := by decide +kernel
theorem d_ss_tellWatches_33 : decode m_ss_tellWatches.2.1 33 = .ok (.aload_n 0, 1) := by decide +kernel
theorem d_ss_tellWatches_34 : decode m_ss_tellWatches.2.1 34 = .ok (.getfield 15, 3) := by decide +kernel
theorem d_ss_tellWatches_37 : decode m_ss_tellWatches.2.1 37 = .ok (.aload_n 0, 1) := by decide +kernel
theorem d_ss_tellWatches_38 : decode m_ss_tellWatches.2.1 38 = .ok (.getfield 18, 3) := by decide +kernel
theorem d_ss_tellWatches_41 : decode m_ss_tellWatches.2.1 41 = .ok (.iload_n 3, 1) := by decide +kernel
theorem d_ss_tellWatches_42 : decode m_ss_tellWatches.2.1 42 = .ok (.sipush 300, 3) := by decide +kernel
theorem d_ss_tellWatches_45 : decode m_ss_tellWatches.2.1 45 = .ok (.imul, 1) := by decide +kernel
theorem d_ss_tellWatches_46 : decode m_ss_tellWatches.2.1 46 = .ok (.iload_n 1, 1) := by decide +kernel
theorem d_ss_tellWatches_47 : decode m_ss_tellWatches.2.1 47 = .ok (.iadd, 1) := by decide +kernel
theorem d_ss_tellWatches_48 : decode m_ss_tellWatches.2.1 48 = .ok (.iastore, 1) := by decide +kernel
theorem d_ss_tellWatches_49 : decode m_ss_tellWatches.2.1 49 = .ok (.aload_n 0, 1) := by decide +kernel
theorem d_ss_tellWatches_50 : decode m_ss_tellWatches.2.1 50 = .ok (.dup, 1) := by decide +kernel
theorem d_ss_tellWatches_51 : decode m_ss_tellWatches.2.1 51 = .ok (.getfield 18, 3) := by decide +kernel
theorem d_ss_tellWatches_54 : decode m_ss_tellWatches.2.1 54 = .ok (.iconst 1, 1) := by decide +kernel
theorem d_ss_tellWatches_55 : decode m_ss_tellWatches.2.1 55 = .ok (.iadd, 1) := by decide +kernel
theorem d_ss_tellWatches_56 : decode m_ss_tellWatches.2.1 56 = .ok (.putfield 18, 3) := by decide +kernel
theorem d_ss_tellWatches_59 : decode m_ss_tellWatches.2.1 59 = .ok (.return_, 1) := by decide +kernel
theorem d_tr_has_0 : decode m_tr_has.2.1 0 = .ok (.aload_n 0, 1) := by decide +kernel
theorem d_tr_has_1 : decode m_tr_has.2.1 1 = .ok (.getfield 15, 3) := by decide +kernel
theorem d_tr_has_4 : decode m_tr_has.2.1 4 = .ok (.iload_n 1, 1) := by decide +kernel
theorem d_tr_has_5 : decode m_tr_has.2.1 5 = .ok (.iaload, 1) := by decide +kernel
theorem d_tr_has_6 : decode m_tr_has.2.1 6 = .ok (.iconst (-1), 1) := by decide +kernel
theorem d_tr_has_7 : decode m_tr_has.2.1 7 = .ok (.if_icmp .eq (7), 3) := by decide +kernel
theorem d_tr_has_10 : decode m_tr_has.2.1 10 = .ok (.iconst 1, 1) := by decide +kernel
theorem d_tr_has_11 : decode m_tr_has.2.1 11 = .ok (.goto 4, 3) := by decide +kernel
theorem d_tr_has_14 : decode m_tr_has.2.1 14 = .ok (.iconst 0, 1) := by decide +kernel
theorem d_tr_has_15 : decode m_tr_has.2.1 15 = .ok (.ireturn, 1) := by decide +kernel
theorem d_tr_childrenOf_0 : decode m_tr_childrenOf.2.1 0 = .ok (.iload_n 1, 1) := by decide +kernel
theorem d_tr_childrenOf_1 : decode m_tr_childrenOf.2.1 1 = .ok (.bipush 43, 2) := by decide +kernel
theorem d_tr_childrenOf_3 : decode m_tr_childrenOf.2.1 3 = .ok (.if_icmp .lt (5), 3) := by decide +kernel
theorem d_tr_childrenOf_6 : decode m_tr_childrenOf.2.1 6 = .ok (.iconst 0, 1) := by decide +kernel
theorem d_tr_childrenOf_7 : decode m_tr_childrenOf.2.1 7 = .ok (.ireturn, 1) := by decide +kernel
theorem d_tr_childrenOf_8 : decode m_tr_childrenOf.2.1 8 = .ok (.iconst 0, 1) := by decide +kernel
theorem d_tr_childrenOf_9 : decode m_tr_childrenOf.2.1 9 = .ok (.istore_n 2, 1) := by decide +kernel
theorem d_tr_childrenOf_10 : decode m_tr_childrenOf.2.1 10 = .ok (.iconst 0, 1) := by decide +kernel
theorem d_tr_childrenOf_11 : decode m_tr_childrenOf.2.1 11 = .ok (.istore_n 3, 1) := by decide +kernel
theorem d_tr_childrenOf_12 : decode m_tr_childrenOf.2.1 12 = .ok (.iload_n 3, 1) := by decide +kernel
theorem d_tr_childrenOf_13 : decode m_tr_childrenOf.2.1 13 = .ok (.bipush 6, 2) := by decide +kernel
theorem d_tr_childrenOf_15 : decode m_tr_childrenOf.2.1 15 = .ok (.if_icmp .ge (27), 3) := by decide +kernel
theorem d_tr_childrenOf_18 : decode m_tr_childrenOf.2.1 18 = .ok (.aload_n 0, 1) := by decide +kernel
theorem d_tr_childrenOf_19 : decode m_tr_childrenOf.2.1 19 = .ok (.iload_n 1, 1) := by decide +kernel
theorem d_tr_childrenOf_20 : decode m_tr_childrenOf.2.1 20 = .ok (.iload_n 3, 1) := by decide +kernel
theorem d_tr_childrenOf_21 : decode m_tr_childrenOf.2.1 21 = .ok (.invokestatic 62, 3) := by decide +kernel
theorem d_tr_childrenOf_24 : decode m_tr_childrenOf.2.1 24 = .ok (.invokevirtual 66, 3) := by decide +kernel
theorem d_tr_childrenOf_27 : decode m_tr_childrenOf.2.1 27 = .ok (.ifCond .eq (9), 3) := by decide +kernel
theorem d_tr_childrenOf_30 : decode m_tr_childrenOf.2.1 30 = .ok (.iload_n 2, 1) := by decide +kernel
theorem d_tr_childrenOf_31 : decode m_tr_childrenOf.2.1 31 = .ok (.iconst 1, 1) := by decide +kernel
theorem d_tr_childrenOf_32 : decode m_tr_childrenOf.2.1 32 = .ok (.iload_n 3, 1) := by decide +kernel
theorem d_tr_childrenOf_33 : decode m_tr_childrenOf.2.1 33 = .ok (.ishl, 1) := by decide +kernel
theorem d_tr_childrenOf_34 : decode m_tr_childrenOf.2.1 34 = .ok (.ior, 1) := by decide +kernel
theorem d_tr_childrenOf_35 : decode m_tr_childrenOf.2.1 35 = .ok (.istore_n 2, 1) := by decide +kernel
theorem d_tr_childrenOf_36 : decode m_tr_childrenOf.2.1 36 = .ok (.iinc 3 1, 3) := by decide +kernel
theorem d_tr_childrenOf_39 : decode m_tr_childrenOf.2.1 39 = .ok (.goto (-27), 3) := by decide +kernel
theorem d_tr_childrenOf_42 : decode m_tr_childrenOf.2.1 42 = .ok (.iload_n 2, 1) := by decide +kernel
theorem d_tr_childrenOf_43 : decode m_tr_childrenOf.2.1 43 = .ok (.ireturn, 1) := by decide +kernel
theorem d_ss_watch_0 : decode m_ss_watch.2.1 0 = .ok (.aload_n 0, 1) := by decide +kernel
theorem d_ss_watch_1 : decode m_ss_watch.2.1 1 = .ok (.getfield 9, 3) := by decide +kernel
theorem d_ss_watch_4 : decode m_ss_watch.2.1 4 = .ok (.iload_n 1, 1) := by decide +kernel
theorem d_ss_watch_5 : decode m_ss_watch.2.1 5 = .ok (.dup2, 1) := by decide +kernel
theorem d_ss_watch_6 : decode m_ss_watch.2.1 6 = .ok (.iaload, 1) := by decide +kernel
theorem d_ss_watch_7 : decode m_ss_watch.2.1 7 = .ok (.iload_n 2, 1) := by decide +kernel
theorem d_ss_watch_8 : decode m_ss_watch.2.1 8 = .ok (.ior, 1) := by decide +kernel
theorem d_ss_watch_9 : decode m_ss_watch.2.1 9 = .ok (.iastore, 1) := by decide +kernel
theorem d_ss_watch_10 : decode m_ss_watch.2.1 10 = .ok (.return_, 1) := by decide +kernel
theorem d_ss_takeEvent_0 : decode m_ss_takeEvent.2.1 0 = .ok (.aload_n 0, 1) := by decide +kernel
theorem d_ss_takeEvent_1 : decode m_ss_takeEvent.2.1 1 = .ok (.getfield 15, 3) := by decide +kernel
theorem d_ss_takeEvent_4 : decode m_ss_takeEvent.2.1 4 = .ok (.iconst 0, 1) := by decide +kernel
theorem d_ss_takeEvent_5 : decode m_ss_takeEvent.2.1 5 = .ok (.iaload, 1) := by decide +kernel
theorem d_ss_takeEvent_6 : decode m_ss_takeEvent.2.1 6 = .ok (.istore_n 1, 1) := by decide +kernel
theorem d_ss_takeEvent_7 : decode m_ss_takeEvent.2.1 7 = .ok (.iconst 1, 1) := by decide +kernel
theorem d_ss_takeEvent_8 : decode m_ss_takeEvent.2.1 8 = .ok (.istore_n 2, 1) := by decide +kernel
theorem d_ss_takeEvent_9 : decode m_ss_takeEvent.2.1 9 = .ok (.iload_n 2, 1) := by decide +kernel
theorem d_ss_takeEvent_10 : decode m_ss_takeEvent.2.1 10 = .ok (.aload_n 0, 1) := by decide +kernel
theorem d_ss_takeEvent_11 : decode m_ss_takeEvent.2.1 11 = .ok (.getfield 18, 3) := by decide +kernel
theorem d_ss_takeEvent_14 : decode m_ss_takeEvent.2.1 14 = .ok (.if_icmp .ge (23), 3) := by decide +kernel
theorem d_ss_takeEvent_17 : decode m_ss_takeEvent.2.1 17 = .ok (.aload_n 0, 1) := by decide +kernel
theorem d_ss_takeEvent_18 : decode m_ss_takeEvent.2.1 18 = .ok (.getfield 15, 3) := by decide +kernel
theorem d_ss_takeEvent_21 : decode m_ss_takeEvent.2.1 21 = .ok (.iload_n 2, 1) := by decide +kernel
theorem d_ss_takeEvent_22 : decode m_ss_takeEvent.2.1 22 = .ok (.iconst 1, 1) := by decide +kernel
theorem d_ss_takeEvent_23 : decode m_ss_takeEvent.2.1 23 = .ok (.isub, 1) := by decide +kernel
theorem d_ss_takeEvent_24 : decode m_ss_takeEvent.2.1 24 = .ok (.aload_n 0, 1) := by decide +kernel
theorem d_ss_takeEvent_25 : decode m_ss_takeEvent.2.1 25 = .ok (.getfield 15, 3) := by decide +kernel
theorem d_ss_takeEvent_28 : decode m_ss_takeEvent.2.1 28 = .ok (.iload_n 2, 1) := by decide +kernel
theorem d_ss_takeEvent_29 : decode m_ss_takeEvent.2.1 29 = .ok (.iaload, 1) := by decide +kernel
theorem d_ss_takeEvent_30 : decode m_ss_takeEvent.2.1 30 = .ok (.iastore, 1) := by decide +kernel
theorem d_ss_takeEvent_31 : decode m_ss_takeEvent.2.1 31 = .ok (.iinc 2 1, 3) := by decide +kernel
theorem d_ss_takeEvent_34 : decode m_ss_takeEvent.2.1 34 = .ok (.goto (-25), 3) := by decide +kernel
theorem d_ss_takeEvent_37 : decode m_ss_takeEvent.2.1 37 = .ok (.aload_n 0, 1) := by decide +kernel
theorem d_ss_takeEvent_38 : decode m_ss_takeEvent.2.1 38 = .ok (.dup, 1) := by decide +kernel
theorem d_ss_takeEvent_39 : decode m_ss_takeEvent.2.1 39 = .ok (.getfield 18, 3) := by decide +kernel
theorem d_ss_takeEvent_42 : decode m_ss_takeEvent.2.1 42 = .ok (.iconst 1, 1) := by decide +kernel
theorem d_ss_takeEvent_43 : decode m_ss_takeEvent.2.1 43 = .ok (.isub, 1) := by decide +kernel
theorem d_ss_takeEvent_44 : decode m_ss_takeEvent.2.1 44 = .ok (.putfield 18, 3) := by decide +kernel
theorem d_ss_takeEvent_47 : decode m_ss_takeEvent.2.1 47 = .ok (.iload_n 1, 1) := by decide +kernel
theorem d_ss_takeEvent_48 : decode m_ss_takeEvent.2.1 48 = .ok (.ireturn, 1) := by decide +kernel
theorem d_sv_leadsBefore_0 : decode m_sv_leadsBefore.2.1 0 = .ok (.aload_n 0, 1) := by decide +kernel
theorem d_sv_leadsBefore_1 : decode m_sv_leadsBefore.2.1 1 = .ok (.getfield 31, 3) := by decide +kernel
theorem d_sv_leadsBefore_4 : decode m_sv_leadsBefore.2.1 4 = .ok (.aload_n 1, 1) := by decide +kernel
theorem d_sv_leadsBefore_5 : decode m_sv_leadsBefore.2.1 5 = .ok (.getfield 31, 3) := by decide +kernel
theorem d_sv_leadsBefore_8 : decode m_sv_leadsBefore.2.1 8 = .ok (.if_icmp .gt (25), 3) := by decide +kernel
theorem d_sv_leadsBefore_11 : decode m_sv_leadsBefore.2.1 11 = .ok (.aload_n 0, 1) := by decide +kernel
theorem d_sv_leadsBefore_12 : decode m_sv_leadsBefore.2.1 12 = .ok (.getfield 31, 3) := by decide +kernel
theorem d_sv_leadsBefore_15 : decode m_sv_leadsBefore.2.1 15 = .ok (.aload_n 1, 1) := by decide +kernel
theorem d_sv_leadsBefore_16 : decode m_sv_leadsBefore.2.1 16 = .ok (.getfield 31, 3) := by decide +kernel
theorem d_sv_leadsBefore_19 : decode m_sv_leadsBefore.2.1 19 = .ok (.if_icmp .ne (18), 3) := by decide +kernel
theorem d_sv_leadsBefore_22 : decode m_sv_leadsBefore.2.1 22 = .ok (.aload_n 0, 1) := by decide +kernel
theorem d_sv_leadsBefore_23 : decode m_sv_leadsBefore.2.1 23 = .ok (.getfield 24, 3) := by decide +kernel
theorem d_sv_leadsBefore_26 : decode m_sv_leadsBefore.2.1 26 = .ok (.aload_n 1, 1) := by decide +kernel
theorem d_sv_leadsBefore_27 : decode m_sv_leadsBefore.2.1 27 = .ok (.getfield 24, 3) := by decide +kernel
theorem d_sv_leadsBefore_30 : decode m_sv_leadsBefore.2.1 30 = .ok (.if_icmp .le (7), 3) := by decide +kernel
theorem d_sv_leadsBefore_33 : decode m_sv_leadsBefore.2.1 33 = .ok (.iconst 1, 1) := by decide +kernel
theorem d_sv_leadsBefore_34 : decode m_sv_leadsBefore.2.1 34 = .ok (.goto 4, 3) := by decide +kernel
theorem d_sv_leadsBefore_37 : decode m_sv_leadsBefore.2.1 37 = .ok (.iconst 0, 1) := by decide +kernel
theorem d_sv_leadsBefore_38 : decode m_sv_leadsBefore.2.1 38 = .ok (.ireturn, 1) := by decide +kernel
theorem d_tr_clear_0 : decode m_tr_clear.2.1 0 = .ok (.aload_n 0, 1) := by decide +kernel
theorem d_tr_clear_1 : decode m_tr_clear.2.1 1 = .ok (.getfield 9, 3) := by decide +kernel
theorem d_tr_clear_4 : decode m_tr_clear.2.1 4 = .ok (.iconst 0, 1) := by decide +kernel
theorem d_tr_clear_5 : decode m_tr_clear.2.1 5 = .ok (.invokestatic 24, 3) := by decide +kernel
theorem d_tr_clear_8 : decode m_tr_clear.2.1 8 = .ok (.aload_n 0, 1) := by decide +kernel
theorem d_tr_clear_9 : decode m_tr_clear.2.1 9 = .ok (.getfield 15, 3) := by decide +kernel
theorem d_tr_clear_12 : decode m_tr_clear.2.1 12 = .ok (.iconst (-1), 1) := by decide +kernel
theorem d_tr_clear_13 : decode m_tr_clear.2.1 13 = .ok (.invokestatic 24, 3) := by decide +kernel
theorem d_tr_clear_16 : decode m_tr_clear.2.1 16 = .ok (.aload_n 0, 1) := by decide +kernel
theorem d_tr_clear_17 : decode m_tr_clear.2.1 17 = .ok (.getfield 18, 3) := by decide +kernel
theorem d_tr_clear_20 : decode m_tr_clear.2.1 20 = .ok (.iconst (-1), 1) := by decide +kernel
theorem d_tr_clear_21 : decode m_tr_clear.2.1 21 = .ok (.invokestatic 24, 3) := by decide +kernel
theorem d_tr_clear_24 : decode m_tr_clear.2.1 24 = .ok (.aload_n 0, 1) := by decide +kernel
theorem d_tr_clear_25 : decode m_tr_clear.2.1 25 = .ok (.getfield 21, 3) := by decide +kernel
theorem d_tr_clear_28 : decode m_tr_clear.2.1 28 = .ok (.iconst 0, 1) := by decide +kernel
theorem d_tr_clear_29 : decode m_tr_clear.2.1 29 = .ok (.invokestatic 24, 3) := by decide +kernel
theorem d_tr_clear_32 : decode m_tr_clear.2.1 32 = .ok (.aload_n 0, 1) := by decide +kernel
theorem d_tr_clear_33 : decode m_tr_clear.2.1 33 = .ok (.getfield 15, 3) := by decide +kernel
theorem d_tr_clear_36 : decode m_tr_clear.2.1 36 = .ok (.iconst 0, 1) := by decide +kernel
theorem d_tr_clear_37 : decode m_tr_clear.2.1 37 = .ok (.iconst 0, 1) := by decide +kernel
theorem d_tr_clear_38 : decode m_tr_clear.2.1 38 = .ok (.iastore, 1) := by decide +kernel
theorem d_tr_clear_39 : decode m_tr_clear.2.1 39 = .ok (.return_, 1) := by decide +kernel
theorem d_tr_countNodes_0 : decode m_tr_countNodes.2.1 0 = .ok (.iconst 0, 1) := by decide +kernel
theorem d_tr_countNodes_1 : decode m_tr_countNodes.2.1 1 = .ok (.istore_n 1, 1) := by decide +kernel
theorem d_tr_countNodes_2 : decode m_tr_countNodes.2.1 2 = .ok (.iconst 0, 1) := by decide +kernel
theorem d_tr_countNodes_3 : decode m_tr_countNodes.2.1 3 = .ok (.istore_n 2, 1) := by decide +kernel
theorem d_tr_countNodes_4 : decode m_tr_countNodes.2.1 4 = .ok (.iload_n 2, 1) := by decide +kernel
theorem d_tr_countNodes_5 : decode m_tr_countNodes.2.1 5 = .ok (.sipush 259, 3) := by decide +kernel
theorem d_tr_countNodes_8 : decode m_tr_countNodes.2.1 8 = .ok (.if_icmp .ge (20), 3) := by decide +kernel
theorem d_tr_countNodes_11 : decode m_tr_countNodes.2.1 11 = .ok (.aload_n 0, 1) := by decide +kernel
theorem d_tr_countNodes_12 : decode m_tr_countNodes.2.1 12 = .ok (.iload_n 2, 1) := by decide +kernel
theorem d_tr_countNodes_13 : decode m_tr_countNodes.2.1 13 = .ok (.invokevirtual 66, 3) := by decide +kernel
theorem d_tr_countNodes_16 : decode m_tr_countNodes.2.1 16 = .ok (.ifCond .eq (6), 3) := by decide +kernel
theorem d_tr_countNodes_19 : decode m_tr_countNodes.2.1 19 = .ok (.iinc 1 1, 3) := by decide +kernel
theorem d_tr_countNodes_22 : decode m_tr_countNodes.2.1 22 = .ok (.iinc 2 1, 3) := by decide +kernel
theorem d_tr_countNodes_25 : decode m_tr_countNodes.2.1 25 = .ok (.goto (-21), 3) := by decide +kernel
theorem d_tr_countNodes_28 : decode m_tr_countNodes.2.1 28 = .ok (.iload_n 1, 1) := by decide +kernel
theorem d_tr_countNodes_29 : decode m_tr_countNodes.2.1 29 = .ok (.ireturn, 1) := by decide +kernel
theorem d_ss_standing_0 : decode m_ss_standing.2.1 0 = .ok (.aload_n 0, 1) := by decide +kernel
theorem d_ss_standing_1 : decode m_ss_standing.2.1 1 = .ok (.getfield 22, 3) := by decide +kernel
theorem d_ss_standing_4 : decode m_ss_standing.2.1 4 = .ok (.ifCond .eq (7), 3) := by decide +kernel
theorem d_ss_standing_7 : decode m_ss_standing.2.1 7 = .ok (.iconst 1, 1) := by decide +kernel
theorem d_ss_standing_8 : decode m_ss_standing.2.1 8 = .ok (.goto 15, 3) := by decide +kernel
theorem d_ss_standing_11 : decode m_ss_standing.2.1 11 = .ok (.aload_n 0, 1) := by decide +kernel
theorem d_ss_standing_12 : decode m_ss_standing.2.1 12 = .ok (.getfield 26, 3) := by decide +kernel
theorem d_ss_standing_15 : decode m_ss_standing.2.1 15 = .ok (.ifCond .eq (7), 3) := by decide +kernel
theorem d_ss_standing_18 : decode m_ss_standing.2.1 18 = .ok (.iconst 2, 1) := by decide +kernel
theorem d_ss_standing_19 : decode m_ss_standing.2.1 19 = .ok (.goto 4, 3) := by decide +kernel
theorem d_ss_standing_22 : decode m_ss_standing.2.1 22 = .ok (.iconst 0, 1) := by decide +kernel
theorem d_ss_standing_23 : decode m_ss_standing.2.1 23 = .ok (.ireturn, 1) := by decide +kernel
