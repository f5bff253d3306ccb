theorem d_FT_init_0 : decode b_FT_init 0 = .ok (.aload_n 0, 1) := by decide +kernel
theorem d_FT_init_1 : decode b_FT_init 1 = .ok (.invokespecial 1, 3) := by decide +kernel
theorem d_FT_init_4 : decode b_FT_init 4 = .ok (.aload_n 0, 1) := by decide +kernel
theorem d_FT_init_5 : decode b_FT_init 5 = .ok (.new 7, 3) := by decide +kernel
theorem d_FT_init_8 : decode b_FT_init 8 = .ok (.dup, 1) := by decide +kernel
theorem d_FT_init_9 : decode b_FT_init 9 = .ok (.sipush 400, 3) := by decide +kernel
theorem d_FT_init_12 : decode b_FT_init 12 = .ok (.invokespecial 11, 3) := by decide +kernel
theorem d_FT_init_15 : decode b_FT_init 15 = .ok (.putfield 14, 3) := by decide +kernel
theorem d_FT_init_18 : decode b_FT_init 18 = .ok (.aload_n 0, 1) := by decide +kernel
theorem d_FT_init_19 : decode b_FT_init 19 = .ok (.new 7, 3) := by decide +kernel
theorem d_FT_init_22 : decode b_FT_init 22 = .ok (.dup, 1) := by decide +kernel
theorem d_FT_init_23 : decode b_FT_init 23 = .ok (.sipush 2000, 3) := by decide +kernel
theorem d_FT_init_26 : decode b_FT_init 26 = .ok (.invokespecial 11, 3) := by decide +kernel
theorem d_FT_init_29 : decode b_FT_init 29 = .ok (.putfield 18, 3) := by decide +kernel
theorem d_FT_init_32 : decode b_FT_init 32 = .ok (.aload_n 0, 1) := by decide +kernel
theorem d_FT_init_33 : decode b_FT_init 33 = .ok (.iconst 3, 1) := by decide +kernel
theorem d_FT_init_34 : decode b_FT_init 34 = .ok (.anewarray 21, 3) := by decide +kernel
theorem d_FT_init_37 : decode b_FT_init 37 = .ok (.dup, 1) := by decide +kernel
theorem d_FT_init_38 : decode b_FT_init 38 = .ok (.iconst 0, 1) := by decide +kernel
theorem d_FT_init_39 : decode b_FT_init 39 = .ok (.new 23, 3) := by decide +kernel
theorem d_FT_init_42 : decode b_FT_init 42 = .ok (.dup, 1) := by decide +kernel
theorem d_FT_init_43 : decode b_FT_init 43 = .ok (.invokespecial 25, 3) := by decide +kernel
theorem d_FT_init_46 : decode b_FT_init 46 = .ok (.aastore, 1) := by decide +kernel
theorem d_FT_init_47 : decode b_FT_init 47 = .ok (.dup, 1) := by decide +kernel
theorem d_FT_init_48 : decode b_FT_init 48 = .ok (.iconst 1, 1) := by decide +kernel
theorem d_FT_init_49 : decode b_FT_init 49 = .ok (.new 26, 3) := by decide +kernel
theorem d_FT_init_52 : decode b_FT_init 52 = .ok (.dup, 1) := by decide +kernel
theorem d_FT_init_53 : decode b_FT_init 53 = .ok (.invokespecial 28, 3) := by decide +kernel
theorem d_FT_init_56 : decode b_FT_init 56 = .ok (.aastore, 1) := by decide +kernel
theorem d_FT_init_57 : decode b_FT_init 57 = .ok (.dup, 1) := by decide +kernel
theorem d_FT_init_58 : decode b_FT_init 58 = .ok (.iconst 2, 1) := by decide +kernel
theorem d_FT_init_59 : decode b_FT_init 59 = .ok (.new 29, 3) := by decide +kernel
theorem d_FT_init_62 : decode b_FT_init 62 = .ok (.dup, 1) := by decide +kernel
theorem d_FT_init_63 : decode b_FT_init 63 = .ok (.invokespecial 31, 3) := by decide +kernel
theorem d_FT_init_66 : decode b_FT_init 66 = .ok (.aastore, 1) := by decide +kernel
theorem d_FT_init_67 : decode b_FT_init 67 = .ok (.putfield 32, 3) := by decide +kernel
theorem d_FT_init_70 : decode b_FT_init 70 = .ok (.aload_n 0, 1) := by decide +kernel
theorem d_FT_init_71 : decode b_FT_init 71 = .ok (.sipush 400, 3) := by decide +kernel
theorem d_FT_init_74 : decode b_FT_init 74 = .ok (.putfield 36, 3) := by decide +kernel
theorem d_FT_init_77 : decode b_FT_init 77 = .ok (.return_, 1) := by decide +kernel
theorem d_FT_feed_0 : decode b_FT_feed 0 = .ok (.aload_n 0, 1) := by decide +kernel
theorem d_FT_feed_1 : decode b_FT_feed 1 = .ok (.getfield 14, 3) := by decide +kernel
theorem d_FT_feed_4 : decode b_FT_feed 4 = .ok (.getfield 40, 3) := by decide +kernel
theorem d_FT_feed_7 : decode b_FT_feed 7 = .ok (.sipush 380, 3) := by decide +kernel
theorem d_FT_feed_10 : decode b_FT_feed 10 = .ok (.if_icmp .le 5, 3) := by decide +kernel
theorem d_FT_feed_13 : decode b_FT_feed 13 = .ok (.iconst 0, 1) := by decide +kernel
theorem d_FT_feed_14 : decode b_FT_feed 14 = .ok (.ireturn, 1) := by decide +kernel
theorem d_FT_feed_15 : decode b_FT_feed 15 = .ok (.aload_n 0, 1) := by decide +kernel
theorem d_FT_feed_16 : decode b_FT_feed 16 = .ok (.iload_n 1, 1) := by decide +kernel
theorem d_FT_feed_17 : decode b_FT_feed 17 = .ok (.invokevirtual 43, 3) := by decide +kernel
theorem d_FT_feed_20 : decode b_FT_feed 20 = .ok (.aload_n 0, 1) := by decide +kernel
theorem d_FT_feed_21 : decode b_FT_feed 21 = .ok (.iload_n 2, 1) := by decide +kernel
theorem d_FT_feed_22 : decode b_FT_feed 22 = .ok (.invokevirtual 43, 3) := by decide +kernel
theorem d_FT_feed_25 : decode b_FT_feed 25 = .ok (.aload_n 0, 1) := by decide +kernel
theorem d_FT_feed_26 : decode b_FT_feed 26 = .ok (.iload_n 3, 1) := by decide +kernel
theorem d_FT_feed_27 : decode b_FT_feed 27 = .ok (.invokevirtual 43, 3) := by decide +kernel
theorem d_FT_feed_30 : decode b_FT_feed 30 = .ok (.aload_n 0, 1) := by decide +kernel
theorem d_FT_feed_31 : decode b_FT_feed 31 = .ok (.iload 4, 2) := by decide +kernel
theorem d_FT_feed_33 : decode b_FT_feed 33 = .ok (.invokevirtual 43, 3) := by decide +kernel
theorem d_FT_feed_36 : decode b_FT_feed 36 = .ok (.aload_n 0, 1) := by decide +kernel
theorem d_FT_feed_37 : decode b_FT_feed 37 = .ok (.iload 5, 2) := by decide +kernel
theorem d_FT_feed_39 : decode b_FT_feed 39 = .ok (.invokevirtual 43, 3) := by decide +kernel
theorem d_FT_feed_42 : decode b_FT_feed 42 = .ok (.iconst 1, 1) := by decide +kernel
theorem d_FT_feed_43 : decode b_FT_feed 43 = .ok (.ireturn, 1) := by decide +kernel
theorem d_FT_end_0 : decode b_FT_end 0 = .ok (.iload_n 1, 1) := by decide +kernel
theorem d_FT_end_1 : decode b_FT_end 1 = .ok (.ifCond .lt 14, 3) := by decide +kernel
theorem d_FT_end_4 : decode b_FT_end 4 = .ok (.iload_n 1, 1) := by decide +kernel
theorem d_FT_end_5 : decode b_FT_end 5 = .ok (.aload_n 0, 1) := by decide +kernel
theorem d_FT_end_6 : decode b_FT_end 6 = .ok (.getfield 14, 3) := by decide +kernel
theorem d_FT_end_9 : decode b_FT_end 9 = .ok (.getfield 40, 3) := by decide +kernel
theorem d_FT_end_12 : decode b_FT_end 12 = .ok (.if_icmp .le 5, 3) := by decide +kernel
theorem d_FT_end_15 : decode b_FT_end 15 = .ok (.iconst 0, 1) := by decide +kernel
theorem d_FT_end_16 : decode b_FT_end 16 = .ok (.ireturn, 1) := by decide +kernel
theorem d_FT_end_17 : decode b_FT_end 17 = .ok (.aload_n 0, 1) := by decide +kernel
theorem d_FT_end_18 : decode b_FT_end 18 = .ok (.getfield 14, 3) := by decide +kernel
theorem d_FT_end_21 : decode b_FT_end 21 = .ok (.iload_n 1, 1) := by decide +kernel
theorem d_FT_end_22 : decode b_FT_end 22 = .ok (.invokevirtual 46, 3) := by decide +kernel
theorem d_FT_end_25 : decode b_FT_end 25 = .ok (.iconst 1, 1) := by decide +kernel
theorem d_FT_end_26 : decode b_FT_end 26 = .ok (.ireturn, 1) := by decide +kernel
theorem d_FT_limit_0 : decode b_FT_limit 0 = .ok (.iload_n 1, 1) := by decide +kernel
theorem d_FT_limit_1 : decode b_FT_limit 1 = .ok (.iconst 1, 1) := by decide +kernel
theorem d_FT_limit_2 : decode b_FT_limit 2 = .ok (.if_icmp .lt 10, 3) := by decide +kernel
theorem d_FT_limit_5 : decode b_FT_limit 5 = .ok (.iload_n 1, 1) := by decide +kernel
theorem d_FT_limit_6 : decode b_FT_limit 6 = .ok (.sipush 400, 3) := by decide +kernel
theorem d_FT_limit_9 : decode b_FT_limit 9 = .ok (.if_icmp .le 5, 3) := by decide +kernel
theorem d_FT_limit_12 : decode b_FT_limit 12 = .ok (.iconst 0, 1) := by decide +kernel
theorem d_FT_limit_13 : decode b_FT_limit 13 = .ok (.ireturn, 1) := by decide +kernel
theorem d_FT_limit_14 : decode b_FT_limit 14 = .ok (.aload_n 0, 1) := by decide +kernel
theorem d_FT_limit_15 : decode b_FT_limit 15 = .ok (.iload_n 1, 1) := by decide +kernel
theorem d_FT_limit_16 : decode b_FT_limit 16 = .ok (.putfield 36, 3) := by decide +kernel
theorem d_FT_limit_19 : decode b_FT_limit 19 = .ok (.iconst 1, 1) := by decide +kernel
theorem d_FT_limit_20 : decode b_FT_limit 20 = .ok (.ireturn, 1) := by decide +kernel
theorem d_FT_tell_0 : decode b_FT_tell 0 = .ok (.aload_n 0, 1) := by decide +kernel
theorem d_FT_tell_1 : decode b_FT_tell 1 = .ok (.iload_n 1, 1) := by decide +kernel
theorem d_FT_tell_2 : decode b_FT_tell 2 = .ok (.invokevirtual 49, 3) := by decide +kernel
theorem d_FT_tell_5 : decode b_FT_tell 5 = .ok (.astore_n 2, 1) := by decide +kernel
theorem d_FT_tell_6 : decode b_FT_tell 6 = .ok (.aload_n 2, 1) := by decide +kernel
theorem d_FT_tell_7 : decode b_FT_tell 7 = .ok (.ifnull 23, 3) := by decide +kernel
theorem d_FT_tell_10 : decode b_FT_tell 10 = .ok (.aload_n 0, 1) := by decide +kernel
theorem d_FT_tell_11 : decode b_FT_tell 11 = .ok (.aload_n 2, 1) := by decide +kernel
theorem d_FT_tell_12 : decode b_FT_tell 12 = .ok (.invokevirtual 53, 3) := by decide +kernel
theorem d_FT_tell_15 : decode b_FT_tell 15 = .ok (.ifCond .eq 15, 3) := by decide +kernel
theorem d_FT_tell_18 : decode b_FT_tell 18 = .ok (.aload_n 0, 1) := by decide +kernel
theorem d_FT_tell_19 : decode b_FT_tell 19 = .ok (.aload_n 2, 1) := by decide +kernel
theorem d_FT_tell_20 : decode b_FT_tell 20 = .ok (.invokevirtual 57, 3) := by decide +kernel
theorem d_FT_tell_23 : decode b_FT_tell 23 = .ok (.ifCond .eq 7, 3) := by decide +kernel
theorem d_FT_tell_26 : decode b_FT_tell 26 = .ok (.iconst 1, 1) := by decide +kernel
theorem d_FT_tell_27 : decode b_FT_tell 27 = .ok (.goto 4, 3) := by decide +kernel
theorem d_FT_tell_30 : decode b_FT_tell 30 = .ok (.iconst 0, 1) := by decide +kernel
theorem d_FT_tell_31 : decode b_FT_tell 31 = .ok (.istore_n 3, 1) := by decide +kernel
theorem d_FT_tell_32 : decode b_FT_tell 32 = .ok (.aload_n 0, 1) := by decide +kernel
theorem d_FT_tell_33 : decode b_FT_tell 33 = .ok (.getfield 14, 3) := by decide +kernel
theorem d_FT_tell_36 : decode b_FT_tell 36 = .ok (.iconst 0, 1) := by decide +kernel
theorem d_FT_tell_37 : decode b_FT_tell 37 = .ok (.invokevirtual 46, 3) := by decide +kernel
theorem d_FT_tell_40 : decode b_FT_tell 40 = .ok (.iload_n 3, 1) := by decide +kernel
theorem d_FT_tell_41 : decode b_FT_tell 41 = .ok (.ifCond .eq 13, 3) := by decide +kernel
theorem d_FT_tell_44 : decode b_FT_tell 44 = .ok (.aload_n 0, 1) := by decide +kernel
theorem d_FT_tell_45 : decode b_FT_tell 45 = .ok (.getfield 18, 3) := by decide +kernel
theorem d_FT_tell_48 : decode b_FT_tell 48 = .ok (.getfield 40, 3) := by decide +kernel
theorem d_FT_tell_51 : decode b_FT_tell 51 = .ok (.goto 4, 3) := by decide +kernel
theorem d_FT_tell_54 : decode b_FT_tell 54 = .ok (.iconst (-1), 1) := by decide +kernel
theorem d_FT_tell_55 : decode b_FT_tell 55 = .ok (.ireturn, 1) := by decide +kernel
theorem d_FT_written_0 : decode b_FT_written 0 = .ok (.aload_n 0, 1) := by decide +kernel
theorem d_FT_written_1 : decode b_FT_written 1 = .ok (.getfield 18, 3) := by decide +kernel
theorem d_FT_written_4 : decode b_FT_written 4 = .ok (.getfield 40, 3) := by decide +kernel
theorem d_FT_written_7 : decode b_FT_written 7 = .ok (.ireturn, 1) := by decide +kernel
theorem d_FT_writtenAt_0 : decode b_FT_writtenAt 0 = .ok (.aload_n 0, 1) := by decide +kernel
theorem d_FT_writtenAt_1 : decode b_FT_writtenAt 1 = .ok (.getfield 18, 3) := by decide +kernel
theorem d_FT_writtenAt_4 : decode b_FT_writtenAt 4 = .ok (.iload_n 1, 1) := by decide +kernel
theorem d_FT_writtenAt_5 : decode b_FT_writtenAt 5 = .ok (.invokevirtual 60, 3) := by decide +kernel
theorem d_FT_writtenAt_8 : decode b_FT_writtenAt 8 = .ok (.ireturn, 1) := by decide +kernel
theorem d_FT_spoil_0 : decode b_FT_spoil 0 = .ok (.aload_n 0, 1) := by decide +kernel
theorem d_FT_spoil_1 : decode b_FT_spoil 1 = .ok (.getfield 18, 3) := by decide +kernel
theorem d_FT_spoil_4 : decode b_FT_spoil 4 = .ok (.iload_n 1, 1) := by decide +kernel
theorem d_FT_spoil_5 : decode b_FT_spoil 5 = .ok (.iload_n 2, 1) := by decide +kernel
theorem d_FT_spoil_6 : decode b_FT_spoil 6 = .ok (.sipush 255, 3) := by decide +kernel
theorem d_FT_spoil_9 : decode b_FT_spoil 9 = .ok (.iand, 1) := by decide +kernel
theorem d_FT_spoil_10 : decode b_FT_spoil 10 = .ok (.invokevirtual 64, 3) := by decide +kernel
theorem d_FT_spoil_13 : decode b_FT_spoil 13 = .ok (.ireturn, 1) := by decide +kernel
theorem d_FT_come_0 : decode b_FT_come 0 = .ok (.aload_n 0, 1) := by decide +kernel
theorem d_FT_come_1 : decode b_FT_come 1 = .ok (.iload_n 1, 1) := by decide +kernel
theorem d_FT_come_2 : decode b_FT_come 2 = .ok (.invokevirtual 49, 3) := by decide +kernel
theorem d_FT_come_5 : decode b_FT_come 5 = .ok (.astore_n 3, 1) := by decide +kernel
theorem d_FT_come_6 : decode b_FT_come 6 = .ok (.aload_n 3, 1) := by decide +kernel
theorem d_FT_come_7 : decode b_FT_come 7 = .ok (.ifnonnull 7, 3) := by decide +kernel
theorem d_FT_come_10 : decode b_FT_come 10 = .ok (.iconst (-1), 1) := by decide +kernel
theorem d_FT_come_11 : decode b_FT_come 11 = .ok (.goto 16, 3) := by decide +kernel
theorem d_FT_come_14 : decode b_FT_come 14 = .ok (.aload_n 3, 1) := by decide +kernel
theorem d_FT_come_15 : decode b_FT_come 15 = .ok (.iload_n 2, 1) := by decide +kernel
theorem d_FT_come_16 : decode b_FT_come 16 = .ok (.sipush 255, 3) := by decide +kernel
theorem d_FT_come_19 : decode b_FT_come 19 = .ok (.iand, 1) := by decide +kernel
theorem d_FT_come_20 : decode b_FT_come 20 = .ok (.aload_n 0, 1) := by decide +kernel
theorem d_FT_come_21 : decode b_FT_come 21 = .ok (.getfield 36, 3) := by decide +kernel
theorem d_FT_come_24 : decode b_FT_come 24 = .ok (.invokevirtual 68, 3) := by decide +kernel
theorem d_FT_come_27 : decode b_FT_come 27 = .ok (.ireturn, 1) := by decide +kernel
theorem d_FT_all_0 : decode b_FT_all 0 = .ok (.aload_n 0, 1) := by decide +kernel
theorem d_FT_all_1 : decode b_FT_all 1 = .ok (.iload_n 1, 1) := by decide +kernel
theorem d_FT_all_2 : decode b_FT_all 2 = .ok (.invokevirtual 49, 3) := by decide +kernel
theorem d_FT_all_5 : decode b_FT_all 5 = .ok (.astore_n 2, 1) := by decide +kernel
theorem d_FT_all_6 : decode b_FT_all 6 = .ok (.aload_n 2, 1) := by decide +kernel
theorem d_FT_all_7 : decode b_FT_all 7 = .ok (.ifnonnull 7, 3) := by decide +kernel
theorem d_FT_all_10 : decode b_FT_all 10 = .ok (.iconst (-1), 1) := by decide +kernel
theorem d_FT_all_11 : decode b_FT_all 11 = .ok (.goto 12, 3) := by decide +kernel
theorem d_FT_all_14 : decode b_FT_all 14 = .ok (.aload_n 0, 1) := by decide +kernel
theorem d_FT_all_15 : decode b_FT_all 15 = .ok (.aload_n 0, 1) := by decide +kernel
theorem d_FT_all_16 : decode b_FT_all 16 = .ok (.getfield 18, 3) := by decide +kernel
theorem d_FT_all_19 : decode b_FT_all 19 = .ok (.aload_n 2, 1) := by decide +kernel
theorem d_FT_all_20 : decode b_FT_all 20 = .ok (.invokevirtual 72, 3) := by decide +kernel
theorem d_FT_all_23 : decode b_FT_all 23 = .ok (.ireturn, 1) := by decide +kernel
theorem d_FT_raw_0 : decode b_FT_raw 0 = .ok (.aload_n 0, 1) := by decide +kernel
theorem d_FT_raw_1 : decode b_FT_raw 1 = .ok (.iload_n 1, 1) := by decide +kernel
theorem d_FT_raw_2 : decode b_FT_raw 2 = .ok (.invokevirtual 49, 3) := by decide +kernel
theorem d_FT_raw_5 : decode b_FT_raw 5 = .ok (.astore_n 2, 1) := by decide +kernel
theorem d_FT_raw_6 : decode b_FT_raw 6 = .ok (.aload_n 2, 1) := by decide +kernel
theorem d_FT_raw_7 : decode b_FT_raw 7 = .ok (.ifnonnull 13, 3) := by decide +kernel
theorem d_FT_raw_10 : decode b_FT_raw 10 = .ok (.aload_n 0, 1) := by decide +kernel
theorem d_FT_raw_11 : decode b_FT_raw 11 = .ok (.getfield 14, 3) := by decide +kernel
theorem d_FT_raw_14 : decode b_FT_raw 14 = .ok (.iconst 0, 1) := by decide +kernel
theorem d_FT_raw_15 : decode b_FT_raw 15 = .ok (.invokevirtual 46, 3) := by decide +kernel
theorem d_FT_raw_18 : decode b_FT_raw 18 = .ok (.iconst (-1), 1) := by decide +kernel
theorem d_FT_raw_19 : decode b_FT_raw 19 = .ok (.ireturn, 1) := by decide +kernel
theorem d_FT_raw_20 : decode b_FT_raw 20 = .ok (.aload_n 0, 1) := by decide +kernel
theorem d_FT_raw_21 : decode b_FT_raw 21 = .ok (.aload_n 0, 1) := by decide +kernel
theorem d_FT_raw_22 : decode b_FT_raw 22 = .ok (.getfield 14, 3) := by decide +kernel
theorem d_FT_raw_25 : decode b_FT_raw 25 = .ok (.aload_n 2, 1) := by decide +kernel
theorem d_FT_raw_26 : decode b_FT_raw 26 = .ok (.invokevirtual 72, 3) := by decide +kernel
theorem d_FT_raw_29 : decode b_FT_raw 29 = .ok (.ireturn, 1) := by decide +kernel
theorem d_FT_latest_0 : decode b_FT_latest 0 = .ok (.aload_n 0, 1) := by decide +kernel
theorem d_FT_latest_1 : decode b_FT_latest 1 = .ok (.iload_n 1, 1) := by decide +kernel
theorem d_FT_latest_2 : decode b_FT_latest 2 = .ok (.invokevirtual 49, 3) := by decide +kernel
theorem d_FT_latest_5 : decode b_FT_latest 5 = .ok (.astore_n 2, 1) := by decide +kernel
theorem d_FT_latest_6 : decode b_FT_latest 6 = .ok (.aload_n 2, 1) := by decide +kernel
theorem d_FT_latest_7 : decode b_FT_latest 7 = .ok (.ifnonnull 7, 3) := by decide +kernel
theorem d_FT_latest_10 : decode b_FT_latest 10 = .ok (.iconst (-1), 1) := by decide +kernel
theorem d_FT_latest_11 : decode b_FT_latest 11 = .ok (.goto 7, 3) := by decide +kernel
theorem d_FT_latest_14 : decode b_FT_latest 14 = .ok (.aload_n 2, 1) := by decide +kernel
theorem d_FT_latest_15 : decode b_FT_latest 15 = .ok (.invokevirtual 76, 3) := by decide +kernel
theorem d_FT_latest_18 : decode b_FT_latest 18 = .ok (.ireturn, 1) := by decide +kernel
theorem d_FT_latestAt_0 : decode b_FT_latestAt 0 = .ok (.aload_n 0, 1) := by decide +kernel
theorem d_FT_latestAt_1 : decode b_FT_latestAt 1 = .ok (.iload_n 1, 1) := by decide +kernel
theorem d_FT_latestAt_2 : decode b_FT_latestAt 2 = .ok (.invokevirtual 49, 3) := by decide +kernel
theorem d_FT_latestAt_5 : decode b_FT_latestAt 5 = .ok (.astore_n 3, 1) := by decide +kernel
theorem d_FT_latestAt_6 : decode b_FT_latestAt 6 = .ok (.aload_n 3, 1) := by decide +kernel
theorem d_FT_latestAt_7 : decode b_FT_latestAt 7 = .ok (.ifnonnull 7, 3) := by decide +kernel
theorem d_FT_latestAt_10 : decode b_FT_latestAt 10 = .ok (.iconst (-1), 1) := by decide +kernel
theorem d_FT_latestAt_11 : decode b_FT_latestAt 11 = .ok (.goto 11, 3) := by decide +kernel
theorem d_FT_latestAt_14 : decode b_FT_latestAt 14 = .ok (.aload_n 3, 1) := by decide +kernel
theorem d_FT_latestAt_15 : decode b_FT_latestAt 15 = .ok (.getfield 80, 3) := by decide +kernel
theorem d_FT_latestAt_18 : decode b_FT_latestAt 18 = .ok (.iload_n 2, 1) := by decide +kernel
theorem d_FT_latestAt_19 : decode b_FT_latestAt 19 = .ok (.invokevirtual 60, 3) := by decide +kernel
theorem d_FT_latestAt_22 : decode b_FT_latestAt 22 = .ok (.ireturn, 1) := by decide +kernel
theorem d_FT_count_0 : decode b_FT_count 0 = .ok (.aload_n 0, 1) := by decide +kernel
theorem d_FT_count_1 : decode b_FT_count 1 = .ok (.iload_n 1, 1) := by decide +kernel
theorem d_FT_count_2 : decode b_FT_count 2 = .ok (.invokevirtual 49, 3) := by decide +kernel
theorem d_FT_count_5 : decode b_FT_count 5 = .ok (.astore_n 3, 1) := by decide +kernel
theorem d_FT_count_6 : decode b_FT_count 6 = .ok (.aload_n 3, 1) := by decide +kernel
theorem d_FT_count_7 : decode b_FT_count 7 = .ok (.ifnonnull 7, 3) := by decide +kernel
theorem d_FT_count_10 : decode b_FT_count 10 = .ok (.iconst (-1), 1) := by decide +kernel
theorem d_FT_count_11 : decode b_FT_count 11 = .ok (.goto 8, 3) := by decide +kernel
theorem d_FT_count_14 : decode b_FT_count 14 = .ok (.aload_n 3, 1) := by decide +kernel
theorem d_FT_count_15 : decode b_FT_count 15 = .ok (.iload_n 2, 1) := by decide +kernel
theorem d_FT_count_16 : decode b_FT_count 16 = .ok (.invokevirtual 83, 3) := by decide +kernel
theorem d_FT_count_19 : decode b_FT_count 19 = .ok (.ireturn, 1) := by decide +kernel
theorem d_FT_wayOf_0 : decode b_FT_wayOf 0 = .ok (.iload_n 1, 1) := by decide +kernel
theorem d_FT_wayOf_1 : decode b_FT_wayOf 1 = .ok (.ifCond .lt 21, 3) := by decide +kernel
theorem d_FT_wayOf_4 : decode b_FT_wayOf 4 = .ok (.iload_n 1, 1) := by decide +kernel
theorem d_FT_wayOf_5 : decode b_FT_wayOf 5 = .ok (.aload_n 0, 1) := by decide +kernel
theorem d_FT_wayOf_6 : decode b_FT_wayOf 6 = .ok (.getfield 32, 3) := by decide +kernel
theorem d_FT_wayOf_9 : decode b_FT_wayOf 9 = .ok (.arraylength, 1) := by decide +kernel
theorem d_FT_wayOf_10 : decode b_FT_wayOf 10 = .ok (.if_icmp .ge 12, 3) := by decide +kernel
theorem d_FT_wayOf_13 : decode b_FT_wayOf 13 = .ok (.aload_n 0, 1) := by decide +kernel
theorem d_FT_wayOf_14 : decode b_FT_wayOf 14 = .ok (.getfield 32, 3) := by decide +kernel
theorem d_FT_wayOf_17 : decode b_FT_wayOf 17 = .ok (.iload_n 1, 1) := by decide +kernel
theorem d_FT_wayOf_18 : decode b_FT_wayOf 18 = .ok (.aaload, 1) := by decide +kernel
theorem d_FT_wayOf_19 : decode b_FT_wayOf 19 = .ok (.goto 4, 3) := by decide +kernel
theorem d_FT_wayOf_22 : decode b_FT_wayOf 22 = .ok (.aconst_null, 1) := by decide +kernel
theorem d_FT_wayOf_23 : decode b_FT_wayOf 23 = .ok (.areturn, 1) := by decide +kernel
theorem d_FT_appendToTape_0 : decode b_FT_appendToTape 0 = .ok (.bipush 24, 2) := by decide +kernel
theorem d_FT_appendToTape_2 : decode b_FT_appendToTape 2 = .ok (.istore_n 2, 1) := by decide +kernel
theorem d_FT_appendToTape_3 : decode b_FT_appendToTape 3 = .ok (.iload_n 2, 1) := by decide +kernel
theorem d_FT_appendToTape_4 : decode b_FT_appendToTape 4 = .ok (.ifCond .lt 23, 3) := by decide +kernel
theorem d_FT_appendToTape_7 : decode b_FT_appendToTape 7 = .ok (.aload_n 0, 1) := by decide +kernel
theorem d_FT_appendToTape_8 : decode b_FT_appendToTape 8 = .ok (.getfield 14, 3) := by decide +kernel
theorem d_FT_appendToTape_11 : decode b_FT_appendToTape 11 = .ok (.iload_n 1, 1) := by decide +kernel
theorem d_FT_appendToTape_12 : decode b_FT_appendToTape 12 = .ok (.iload_n 2, 1) := by decide +kernel
theorem d_FT_appendToTape_13 : decode b_FT_appendToTape 13 = .ok (.iushr, 1) := by decide +kernel
theorem d_FT_appendToTape_14 : decode b_FT_appendToTape 14 = .ok (.sipush 255, 3) := by decide +kernel
theorem d_FT_appendToTape_17 : decode b_FT_appendToTape 17 = .ok (.iand, 1) := by decide +kernel
theorem d_FT_appendToTape_18 : decode b_FT_appendToTape 18 = .ok (.invokevirtual 86, 3) := by decide +kernel
theorem d_FT_appendToTape_21 : decode b_FT_appendToTape 21 = .ok (.iinc 2 (-8), 3) := by decide +kernel
theorem d_FT_appendToTape_24 : decode b_FT_appendToTape 24 = .ok (.goto (-21), 3) := by decide +kernel
theorem d_FT_appendToTape_27 : decode b_FT_appendToTape 27 = .ok (.return_, 1) := by decide +kernel
theorem d_FT_mayTell_0 : decode b_FT_mayTell 0 = .ok (.aload_n 0, 1) := by decide +kernel
theorem d_FT_mayTell_1 : decode b_FT_mayTell 1 = .ok (.getfield 14, 3) := by decide +kernel
theorem d_FT_mayTell_4 : decode b_FT_mayTell 4 = .ok (.getfield 40, 3) := by decide +kernel
theorem d_FT_mayTell_7 : decode b_FT_mayTell 7 = .ok (.aload_n 0, 1) := by decide +kernel
theorem d_FT_mayTell_8 : decode b_FT_mayTell 8 = .ok (.getfield 36, 3) := by decide +kernel
theorem d_FT_mayTell_11 : decode b_FT_mayTell 11 = .ok (.if_icmp .gt 24, 3) := by decide +kernel
theorem d_FT_mayTell_14 : decode b_FT_mayTell 14 = .ok (.aload_n 0, 1) := by decide +kernel
theorem d_FT_mayTell_15 : decode b_FT_mayTell 15 = .ok (.getfield 14, 3) := by decide +kernel
theorem d_FT_mayTell_18 : decode b_FT_mayTell 18 = .ok (.getfield 40, 3) := by decide +kernel
theorem d_FT_mayTell_21 : decode b_FT_mayTell 21 = .ok (.ifCond .gt 10, 3) := by decide +kernel
theorem d_FT_mayTell_24 : decode b_FT_mayTell 24 = .ok (.aload_n 1, 1) := by decide +kernel
theorem d_FT_mayTell_25 : decode b_FT_mayTell 25 = .ok (.getfield 89, 3) := by decide +kernel
theorem d_FT_mayTell_28 : decode b_FT_mayTell 28 = .ok (.ifCond .eq 7, 3) := by decide +kernel
theorem d_FT_mayTell_31 : decode b_FT_mayTell 31 = .ok (.iconst 1, 1) := by decide +kernel
theorem d_FT_mayTell_32 : decode b_FT_mayTell 32 = .ok (.goto 4, 3) := by decide +kernel
theorem d_FT_mayTell_35 : decode b_FT_mayTell 35 = .ok (.iconst 0, 1) := by decide +kernel
theorem d_FT_mayTell_36 : decode b_FT_mayTell 36 = .ok (.ireturn, 1) := by decide +kernel
theorem d_FT_writeFrame_0 : decode b_FT_writeFrame 0 = .ok (.aload_n 0, 1) := by decide +kernel
theorem d_FT_writeFrame_1 : decode b_FT_writeFrame 1 = .ok (.getfield 18, 3) := by decide +kernel
theorem d_FT_writeFrame_4 : decode b_FT_writeFrame 4 = .ok (.getfield 40, 3) := by decide +kernel
theorem d_FT_writeFrame_7 : decode b_FT_writeFrame 7 = .ok (.istore_n 2, 1) := by decide +kernel
theorem d_FT_writeFrame_8 : decode b_FT_writeFrame 8 = .ok (.aload_n 1, 1) := by decide +kernel
theorem d_FT_writeFrame_9 : decode b_FT_writeFrame 9 = .ok (.aload_n 0, 1) := by decide +kernel
theorem d_FT_writeFrame_10 : decode b_FT_writeFrame 10 = .ok (.getfield 14, 3) := by decide +kernel
theorem d_FT_writeFrame_13 : decode b_FT_writeFrame 13 = .ok (.aload_n 0, 1) := by decide +kernel
theorem d_FT_writeFrame_14 : decode b_FT_writeFrame 14 = .ok (.getfield 18, 3) := by decide +kernel
theorem d_FT_writeFrame_17 : decode b_FT_writeFrame 17 = .ok (.invokevirtual 93, 3) := by decide +kernel
theorem d_FT_writeFrame_20 : decode b_FT_writeFrame 20 = .ok (.aload_n 0, 1) := by decide +kernel
theorem d_FT_writeFrame_21 : decode b_FT_writeFrame 21 = .ok (.getfield 18, 3) := by decide +kernel
theorem d_FT_writeFrame_24 : decode b_FT_writeFrame 24 = .ok (.getfield 97, 3) := by decide +kernel
theorem d_FT_writeFrame_27 : decode b_FT_writeFrame 27 = .ok (.ifCond .ne 7, 3) := by decide +kernel
theorem d_FT_writeFrame_30 : decode b_FT_writeFrame 30 = .ok (.iconst 1, 1) := by decide +kernel
theorem d_FT_writeFrame_31 : decode b_FT_writeFrame 31 = .ok (.goto 4, 3) := by decide +kernel
theorem d_FT_writeFrame_34 : decode b_FT_writeFrame 34 = .ok (.iconst 0, 1) := by decide +kernel
theorem d_FT_writeFrame_35 : decode b_FT_writeFrame 35 = .ok (.istore_n 3, 1) := by decide +kernel
theorem d_FT_writeFrame_36 : decode b_FT_writeFrame 36 = .ok (.iload_n 3, 1) := by decide +kernel
theorem d_FT_writeFrame_37 : decode b_FT_writeFrame 37 = .ok (.ifCond .ne 11, 3) := by decide +kernel
theorem d_FT_writeFrame_40 : decode b_FT_writeFrame 40 = .ok (.aload_n 0, 1) := by decide +kernel
theorem d_FT_writeFrame_41 : decode b_FT_writeFrame 41 = .ok (.getfield 18, 3) := by decide +kernel
theorem d_FT_writeFrame_44 : decode b_FT_writeFrame 44 = .ok (.iload_n 2, 1) := by decide +kernel
theorem d_FT_writeFrame_45 : decode b_FT_writeFrame 45 = .ok (.invokevirtual 46, 3) := by decide +kernel
theorem d_FT_writeFrame_48 : decode b_FT_writeFrame 48 = .ok (.iload_n 3, 1) := by decide +kernel
theorem d_FT_writeFrame_49 : decode b_FT_writeFrame 49 = .ok (.ireturn, 1) := by decide +kernel
theorem d_FT_drain_0 : decode b_FT_drain 0 = .ok (.iconst 0, 1) := by decide +kernel
theorem d_FT_drain_1 : decode b_FT_drain 1 = .ok (.istore_n 3, 1) := by decide +kernel
theorem d_FT_drain_2 : decode b_FT_drain 2 = .ok (.aload_n 1, 1) := by decide +kernel
theorem d_FT_drain_3 : decode b_FT_drain 3 = .ok (.getfield 40, 3) := by decide +kernel
theorem d_FT_drain_6 : decode b_FT_drain 6 = .ok (.istore 4, 2) := by decide +kernel
theorem d_FT_drain_8 : decode b_FT_drain 8 = .ok (.iconst 0, 1) := by decide +kernel
theorem d_FT_drain_9 : decode b_FT_drain 9 = .ok (.istore 5, 2) := by decide +kernel
theorem d_FT_drain_11 : decode b_FT_drain 11 = .ok (.iload 5, 2) := by decide +kernel
theorem d_FT_drain_13 : decode b_FT_drain 13 = .ok (.iload 4, 2) := by decide +kernel
theorem d_FT_drain_15 : decode b_FT_drain 15 = .ok (.if_icmp .ge 30, 3) := by decide +kernel
theorem d_FT_drain_18 : decode b_FT_drain 18 = .ok (.aload_n 2, 1) := by decide +kernel
theorem d_FT_drain_19 : decode b_FT_drain 19 = .ok (.aload_n 1, 1) := by decide +kernel
theorem d_FT_drain_20 : decode b_FT_drain 20 = .ok (.iload 5, 2) := by decide +kernel
theorem d_FT_drain_22 : decode b_FT_drain 22 = .ok (.invokevirtual 60, 3) := by decide +kernel
theorem d_FT_drain_25 : decode b_FT_drain 25 = .ok (.aload_n 0, 1) := by decide +kernel
theorem d_FT_drain_26 : decode b_FT_drain 26 = .ok (.getfield 36, 3) := by decide +kernel
theorem d_FT_drain_29 : decode b_FT_drain 29 = .ok (.invokevirtual 68, 3) := by decide +kernel
theorem d_FT_drain_32 : decode b_FT_drain 32 = .ok (.iconst 1, 1) := by decide +kernel
theorem d_FT_drain_33 : decode b_FT_drain 33 = .ok (.if_icmp .ne 6, 3) := by decide +kernel
theorem d_FT_drain_36 : decode b_FT_drain 36 = .ok (.iinc 3 1, 3) := by decide +kernel
theorem d_FT_drain_39 : decode b_FT_drain 39 = .ok (.iinc 5 1, 3) := by decide +kernel
theorem d_FT_drain_42 : decode b_FT_drain 42 = .ok (.goto (-31), 3) := by decide +kernel
theorem d_FT_drain_45 : decode b_FT_drain 45 = .ok (.aload_n 1, 1) := by decide +kernel
theorem d_FT_drain_46 : decode b_FT_drain 46 = .ok (.iconst 0, 1) := by decide +kernel
theorem d_FT_drain_47 : decode b_FT_drain 47 = .ok (.invokevirtual 46, 3) := by decide +kernel
theorem d_FT_drain_50 : decode b_FT_drain 50 = .ok (.iload_n 3, 1) := by decide +kernel
theorem d_FT_drain_51 : decode b_FT_drain 51 = .ok (.ireturn, 1) := by decide +kernel
theorem d_CW_init_0 : decode b_CW_init 0 = .ok (.aload_n 0, 1) := by decide +kernel
theorem d_CW_init_1 : decode b_CW_init 1 = .ok (.bipush 126, 2) := by decide +kernel
theorem d_CW_init_3 : decode b_CW_init 3 = .ok (.iconst 0, 1) := by decide +kernel
theorem d_CW_init_4 : decode b_CW_init 4 = .ok (.invokespecial 5, 3) := by decide +kernel
theorem d_CW_init_7 : decode b_CW_init 7 = .ok (.aload_n 0, 1) := by decide +kernel
theorem d_CW_init_8 : decode b_CW_init 8 = .ok (.iconst 0, 1) := by decide +kernel
theorem d_CW_init_9 : decode b_CW_init 9 = .ok (.putfield 11, 3) := by decide +kernel
theorem d_CW_init_12 : decode b_CW_init 12 = .ok (.aload_n 0, 1) := by decide +kernel
theorem d_CW_init_13 : decode b_CW_init 13 = .ok (.ldc 15, 2) := by decide +kernel
theorem d_CW_init_15 : decode b_CW_init 15 = .ok (.putfield 16, 3) := by decide +kernel
theorem d_CW_init_18 : decode b_CW_init 18 = .ok (.aload_n 0, 1) := by decide +kernel
theorem d_CW_init_19 : decode b_CW_init 19 = .ok (.iconst 0, 1) := by decide +kernel
theorem d_CW_init_20 : decode b_CW_init 20 = .ok (.putfield 20, 3) := by decide +kernel
theorem d_CW_init_23 : decode b_CW_init 23 = .ok (.aload_n 0, 1) := by decide +kernel
theorem d_CW_init_24 : decode b_CW_init 24 = .ok (.iconst 0, 1) := by decide +kernel
theorem d_CW_init_25 : decode b_CW_init 25 = .ok (.putfield 23, 3) := by decide +kernel
theorem d_CW_init_28 : decode b_CW_init 28 = .ok (.aload_n 0, 1) := by decide +kernel
theorem d_CW_init_29 : decode b_CW_init 29 = .ok (.iconst 0, 1) := by decide +kernel
theorem d_CW_init_30 : decode b_CW_init 30 = .ok (.putfield 26, 3) := by decide +kernel
theorem d_CW_init_33 : decode b_CW_init 33 = .ok (.return_, 1) := by decide +kernel
theorem d_CW_frame_0 : decode b_CW_frame 0 = .ok (.aload_n 1, 1) := by decide +kernel
theorem d_CW_frame_1 : decode b_CW_frame 1 = .ok (.getfield 29, 3) := by decide +kernel
theorem d_CW_frame_4 : decode b_CW_frame 4 = .ok (.istore_n 3, 1) := by decide +kernel
theorem d_CW_frame_5 : decode b_CW_frame 5 = .ok (.ldc 15, 2) := by decide +kernel
theorem d_CW_frame_7 : decode b_CW_frame 7 = .ok (.istore 4, 2) := by decide +kernel
theorem d_CW_frame_9 : decode b_CW_frame 9 = .ok (.iconst 0, 1) := by decide +kernel
theorem d_CW_frame_10 : decode b_CW_frame 10 = .ok (.istore 5, 2) := by decide +kernel
theorem d_CW_frame_12 : decode b_CW_frame 12 = .ok (.iload 5, 2) := by decide +kernel
theorem d_CW_frame_14 : decode b_CW_frame 14 = .ok (.iload_n 3, 1) := by decide +kernel
theorem d_CW_frame_15 : decode b_CW_frame 15 = .ok (.if_icmp .ge 32, 3) := by decide +kernel
theorem d_CW_frame_18 : decode b_CW_frame 18 = .ok (.aload_n 1, 1) := by decide +kernel
theorem d_CW_frame_19 : decode b_CW_frame 19 = .ok (.iload 5, 2) := by decide +kernel
theorem d_CW_frame_21 : decode b_CW_frame 21 = .ok (.invokevirtual 34, 3) := by decide +kernel
theorem d_CW_frame_24 : decode b_CW_frame 24 = .ok (.istore 6, 2) := by decide +kernel
theorem d_CW_frame_26 : decode b_CW_frame 26 = .ok (.iload 4, 2) := by decide +kernel
theorem d_CW_frame_28 : decode b_CW_frame 28 = .ok (.iload 6, 2) := by decide +kernel
theorem d_CW_frame_30 : decode b_CW_frame 30 = .ok (.invokestatic 38, 3) := by decide +kernel
theorem d_CW_frame_33 : decode b_CW_frame 33 = .ok (.istore 4, 2) := by decide +kernel
theorem d_CW_frame_35 : decode b_CW_frame 35 = .ok (.iload 6, 2) := by decide +kernel
theorem d_CW_frame_37 : decode b_CW_frame 37 = .ok (.aload_n 2, 1) := by decide +kernel
theorem d_CW_frame_38 : decode b_CW_frame 38 = .ok (.invokestatic 42, 3) := by decide +kernel
theorem d_CW_frame_41 : decode b_CW_frame 41 = .ok (.iinc 5 1, 3) := by decide +kernel
theorem d_CW_frame_44 : decode b_CW_frame 44 = .ok (.goto (-32), 3) := by decide +kernel
theorem d_CW_frame_47 : decode b_CW_frame 47 = .ok (.iload 4, 2) := by decide +kernel
theorem d_CW_frame_49 : decode b_CW_frame 49 = .ok (.invokestatic 46, 3) := by decide +kernel
theorem d_CW_frame_52 : decode b_CW_frame 52 = .ok (.istore 5, 2) := by decide +kernel
theorem d_CW_frame_54 : decode b_CW_frame 54 = .ok (.iload 5, 2) := by decide +kernel
theorem d_CW_frame_56 : decode b_CW_frame 56 = .ok (.sipush 255, 3) := by decide +kernel
theorem d_CW_frame_59 : decode b_CW_frame 59 = .ok (.iand, 1) := by decide +kernel
theorem d_CW_frame_60 : decode b_CW_frame 60 = .ok (.aload_n 2, 1) := by decide +kernel
theorem d_CW_frame_61 : decode b_CW_frame 61 = .ok (.invokestatic 42, 3) := by decide +kernel
theorem d_CW_frame_64 : decode b_CW_frame 64 = .ok (.iload 5, 2) := by decide +kernel
theorem d_CW_frame_66 : decode b_CW_frame 66 = .ok (.bipush 8, 2) := by decide +kernel
theorem d_CW_frame_68 : decode b_CW_frame 68 = .ok (.iushr, 1) := by decide +kernel
theorem d_CW_frame_69 : decode b_CW_frame 69 = .ok (.aload_n 2, 1) := by decide +kernel
theorem d_CW_frame_70 : decode b_CW_frame 70 = .ok (.invokestatic 42, 3) := by decide +kernel
theorem d_CW_frame_73 : decode b_CW_frame 73 = .ok (.aload_n 2, 1) := by decide +kernel
theorem d_CW_frame_74 : decode b_CW_frame 74 = .ok (.bipush 126, 2) := by decide +kernel
theorem d_CW_frame_76 : decode b_CW_frame 76 = .ok (.invokevirtual 49, 3) := by decide +kernel
theorem d_CW_frame_79 : decode b_CW_frame 79 = .ok (.return_, 1) := by decide +kernel
theorem d_CW_writeByte_0 : decode b_CW_writeByte 0 = .ok (.iload_n 0, 1) := by decide +kernel
theorem d_CW_writeByte_1 : decode b_CW_writeByte 1 = .ok (.bipush 125, 2) := by decide +kernel
theorem d_CW_writeByte_3 : decode b_CW_writeByte 3 = .ok (.if_icmp .eq 9, 3) := by decide +kernel
theorem d_CW_writeByte_6 : decode b_CW_writeByte 6 = .ok (.iload_n 0, 1) := by decide +kernel
theorem d_CW_writeByte_7 : decode b_CW_writeByte 7 = .ok (.bipush 126, 2) := by decide +kernel
theorem d_CW_writeByte_9 : decode b_CW_writeByte 9 = .ok (.if_icmp .ne 20, 3) := by decide +kernel
theorem d_CW_writeByte_12 : decode b_CW_writeByte 12 = .ok (.aload_n 1, 1) := by decide +kernel
theorem d_CW_writeByte_13 : decode b_CW_writeByte 13 = .ok (.bipush 125, 2) := by decide +kernel
theorem d_CW_writeByte_15 : decode b_CW_writeByte 15 = .ok (.invokevirtual 49, 3) := by decide +kernel
theorem d_CW_writeByte_18 : decode b_CW_writeByte 18 = .ok (.aload_n 1, 1) := by decide +kernel
theorem d_CW_writeByte_19 : decode b_CW_writeByte 19 = .ok (.iload_n 0, 1) := by decide +kernel
theorem d_CW_writeByte_20 : decode b_CW_writeByte 20 = .ok (.bipush 32, 2) := by decide +kernel
theorem d_CW_writeByte_22 : decode b_CW_writeByte 22 = .ok (.ixor, 1) := by decide +kernel
theorem d_CW_writeByte_23 : decode b_CW_writeByte 23 = .ok (.invokevirtual 49, 3) := by decide +kernel
theorem d_CW_writeByte_26 : decode b_CW_writeByte 26 = .ok (.goto 8, 3) := by decide +kernel
theorem d_CW_writeByte_29 : decode b_CW_writeByte 29 = .ok (.aload_n 1, 1) := by decide +kernel
theorem d_CW_writeByte_30 : decode b_CW_writeByte 30 = .ok (.iload_n 0, 1) := by decide +kernel
theorem d_CW_writeByte_31 : decode b_CW_writeByte 31 = .ok (.invokevirtual 49, 3) := by decide +kernel
theorem d_CW_writeByte_34 : decode b_CW_writeByte 34 = .ok (.return_, 1) := by decide +kernel
theorem d_CW_addToCheck_0 : decode b_CW_addToCheck 0 = .ok (.iload_n 0, 1) := by decide +kernel
theorem d_CW_addToCheck_1 : decode b_CW_addToCheck 1 = .ok (.iload_n 1, 1) := by decide +kernel
theorem d_CW_addToCheck_2 : decode b_CW_addToCheck 2 = .ok (.ixor, 1) := by decide +kernel
theorem d_CW_addToCheck_3 : decode b_CW_addToCheck 3 = .ok (.istore_n 2, 1) := by decide +kernel
theorem d_CW_addToCheck_4 : decode b_CW_addToCheck 4 = .ok (.iconst 0, 1) := by decide +kernel
theorem d_CW_addToCheck_5 : decode b_CW_addToCheck 5 = .ok (.istore_n 3, 1) := by decide +kernel
theorem d_CW_addToCheck_6 : decode b_CW_addToCheck 6 = .ok (.iload_n 3, 1) := by decide +kernel
theorem d_CW_addToCheck_7 : decode b_CW_addToCheck 7 = .ok (.bipush 8, 2) := by decide +kernel
theorem d_CW_addToCheck_9 : decode b_CW_addToCheck 9 = .ok (.if_icmp .ge 28, 3) := by decide +kernel
theorem d_CW_addToCheck_12 : decode b_CW_addToCheck 12 = .ok (.iload_n 2, 1) := by decide +kernel
theorem d_CW_addToCheck_13 : decode b_CW_addToCheck 13 = .ok (.iconst 1, 1) := by decide +kernel
theorem d_CW_addToCheck_14 : decode b_CW_addToCheck 14 = .ok (.iand, 1) := by decide +kernel
theorem d_CW_addToCheck_15 : decode b_CW_addToCheck 15 = .ok (.ifCond .eq 12, 3) := by decide +kernel
theorem d_CW_addToCheck_18 : decode b_CW_addToCheck 18 = .ok (.iload_n 2, 1) := by decide +kernel
theorem d_CW_addToCheck_19 : decode b_CW_addToCheck 19 = .ok (.iconst 1, 1) := by decide +kernel
theorem d_CW_addToCheck_20 : decode b_CW_addToCheck 20 = .ok (.iushr, 1) := by decide +kernel
theorem d_CW_addToCheck_21 : decode b_CW_addToCheck 21 = .ok (.ldc 53, 2) := by decide +kernel
theorem d_CW_addToCheck_23 : decode b_CW_addToCheck 23 = .ok (.ixor, 1) := by decide +kernel
theorem d_CW_addToCheck_24 : decode b_CW_addToCheck 24 = .ok (.goto 6, 3) := by decide +kernel
theorem d_CW_addToCheck_27 : decode b_CW_addToCheck 27 = .ok (.iload_n 2, 1) := by decide +kernel
theorem d_CW_addToCheck_28 : decode b_CW_addToCheck 28 = .ok (.iconst 1, 1) := by decide +kernel
theorem d_CW_addToCheck_29 : decode b_CW_addToCheck 29 = .ok (.iushr, 1) := by decide +kernel
theorem d_CW_addToCheck_30 : decode b_CW_addToCheck 30 = .ok (.istore_n 2, 1) := by decide +kernel
theorem d_CW_addToCheck_31 : decode b_CW_addToCheck 31 = .ok (.iinc 3 1, 3) := by decide +kernel
theorem d_CW_addToCheck_34 : decode b_CW_addToCheck 34 = .ok (.goto (-28), 3) := by decide +kernel
theorem d_CW_addToCheck_37 : decode b_CW_addToCheck 37 = .ok (.iload_n 2, 1) := by decide +kernel
theorem d_CW_addToCheck_38 : decode b_CW_addToCheck 38 = .ok (.ireturn, 1) := by decide +kernel
theorem d_CW_finishedCheck_0 : decode b_CW_finishedCheck 0 = .ok (.iload_n 0, 1) := by decide +kernel
theorem d_CW_finishedCheck_1 : decode b_CW_finishedCheck 1 = .ok (.ldc 15, 2) := by decide +kernel
theorem d_CW_finishedCheck_3 : decode b_CW_finishedCheck 3 = .ok (.ixor, 1) := by decide +kernel
theorem d_CW_finishedCheck_4 : decode b_CW_finishedCheck 4 = .ok (.ireturn, 1) := by decide +kernel
theorem d_CW_decode_0 : decode b_CW_decode 0 = .ok (.aload_n 0, 1) := by decide +kernel
theorem d_CW_decode_1 : decode b_CW_decode 1 = .ok (.getfield 11, 3) := by decide +kernel
theorem d_CW_decode_4 : decode b_CW_decode 4 = .ok (.ifCond .eq 33, 3) := by decide +kernel
theorem d_CW_decode_7 : decode b_CW_decode 7 = .ok (.aload_n 0, 1) := by decide +kernel
theorem d_CW_decode_8 : decode b_CW_decode 8 = .ok (.iconst 0, 1) := by decide +kernel
theorem d_CW_decode_9 : decode b_CW_decode 9 = .ok (.putfield 11, 3) := by decide +kernel
theorem d_CW_decode_12 : decode b_CW_decode 12 = .ok (.iload_n 1, 1) := by decide +kernel
theorem d_CW_decode_13 : decode b_CW_decode 13 = .ok (.bipush 125, 2) := by decide +kernel
theorem d_CW_decode_15 : decode b_CW_decode 15 = .ok (.if_icmp .ne 11, 3) := by decide +kernel
theorem d_CW_decode_18 : decode b_CW_decode 18 = .ok (.aload_n 0, 1) := by decide +kernel
theorem d_CW_decode_19 : decode b_CW_decode 19 = .ok (.iconst 1, 1) := by decide +kernel
theorem d_CW_decode_20 : decode b_CW_decode 20 = .ok (.putfield 54, 3) := by decide +kernel
theorem d_CW_decode_23 : decode b_CW_decode 23 = .ok (.goto 33, 3) := by decide +kernel
theorem d_CW_decode_26 : decode b_CW_decode 26 = .ok (.aload_n 0, 1) := by decide +kernel
theorem d_CW_decode_27 : decode b_CW_decode 27 = .ok (.iload_n 1, 1) := by decide +kernel
theorem d_CW_decode_28 : decode b_CW_decode 28 = .ok (.bipush 32, 2) := by decide +kernel
theorem d_CW_decode_30 : decode b_CW_decode 30 = .ok (.ixor, 1) := by decide +kernel
theorem d_CW_decode_31 : decode b_CW_decode 31 = .ok (.invokevirtual 57, 3) := by decide +kernel
theorem d_CW_decode_34 : decode b_CW_decode 34 = .ok (.goto 22, 3) := by decide +kernel
theorem d_CW_decode_37 : decode b_CW_decode 37 = .ok (.iload_n 1, 1) := by decide +kernel
theorem d_CW_decode_38 : decode b_CW_decode 38 = .ok (.bipush 125, 2) := by decide +kernel
theorem d_CW_decode_40 : decode b_CW_decode 40 = .ok (.if_icmp .ne 11, 3) := by decide +kernel
theorem d_CW_decode_43 : decode b_CW_decode 43 = .ok (.aload_n 0, 1) := by decide +kernel
theorem d_CW_decode_44 : decode b_CW_decode 44 = .ok (.iconst 1, 1) := by decide +kernel
theorem d_CW_decode_45 : decode b_CW_decode 45 = .ok (.putfield 11, 3) := by decide +kernel
theorem d_CW_decode_48 : decode b_CW_decode 48 = .ok (.goto 8, 3) := by decide +kernel
theorem d_CW_decode_51 : decode b_CW_decode 51 = .ok (.aload_n 0, 1) := by decide +kernel
theorem d_CW_decode_52 : decode b_CW_decode 52 = .ok (.iload_n 1, 1) := by decide +kernel
theorem d_CW_decode_53 : decode b_CW_decode 53 = .ok (.invokevirtual 57, 3) := by decide +kernel
theorem d_CW_decode_56 : decode b_CW_decode 56 = .ok (.return_, 1) := by decide +kernel
theorem d_CW_hold_0 : decode b_CW_hold 0 = .ok (.aload_n 0, 1) := by decide +kernel
theorem d_CW_hold_1 : decode b_CW_hold 1 = .ok (.getfield 20, 3) := by decide +kernel
theorem d_CW_hold_4 : decode b_CW_hold 4 = .ok (.iconst 2, 1) := by decide +kernel
theorem d_CW_hold_5 : decode b_CW_hold 5 = .ok (.if_icmp .ne 32, 3) := by decide +kernel
theorem d_CW_hold_8 : decode b_CW_hold 8 = .ok (.aload_n 0, 1) := by decide +kernel
theorem d_CW_hold_9 : decode b_CW_hold 9 = .ok (.getfield 60, 3) := by decide +kernel
theorem d_CW_hold_12 : decode b_CW_hold 12 = .ok (.aload_n 0, 1) := by decide +kernel
theorem d_CW_hold_13 : decode b_CW_hold 13 = .ok (.getfield 23, 3) := by decide +kernel
theorem d_CW_hold_16 : decode b_CW_hold 16 = .ok (.invokevirtual 49, 3) := by decide +kernel
theorem d_CW_hold_19 : decode b_CW_hold 19 = .ok (.aload_n 0, 1) := by decide +kernel
theorem d_CW_hold_20 : decode b_CW_hold 20 = .ok (.aload_n 0, 1) := by decide +kernel
theorem d_CW_hold_21 : decode b_CW_hold 21 = .ok (.getfield 16, 3) := by decide +kernel
theorem d_CW_hold_24 : decode b_CW_hold 24 = .ok (.aload_n 0, 1) := by decide +kernel
theorem d_CW_hold_25 : decode b_CW_hold 25 = .ok (.getfield 23, 3) := by decide +kernel
theorem d_CW_hold_28 : decode b_CW_hold 28 = .ok (.invokestatic 38, 3) := by decide +kernel
theorem d_CW_hold_31 : decode b_CW_hold 31 = .ok (.putfield 16, 3) := by decide +kernel
theorem d_CW_hold_34 : decode b_CW_hold 34 = .ok (.goto 13, 3) := by decide +kernel
theorem d_CW_hold_37 : decode b_CW_hold 37 = .ok (.aload_n 0, 1) := by decide +kernel
theorem d_CW_hold_38 : decode b_CW_hold 38 = .ok (.dup, 1) := by decide +kernel
theorem d_CW_hold_39 : decode b_CW_hold 39 = .ok (.getfield 20, 3) := by decide +kernel
theorem d_CW_hold_42 : decode b_CW_hold 42 = .ok (.iconst 1, 1) := by decide +kernel
theorem d_CW_hold_43 : decode b_CW_hold 43 = .ok (.iadd, 1) := by decide +kernel
theorem d_CW_hold_44 : decode b_CW_hold 44 = .ok (.putfield 20, 3) := by decide +kernel
theorem d_CW_hold_47 : decode b_CW_hold 47 = .ok (.aload_n 0, 1) := by decide +kernel
theorem d_CW_hold_48 : decode b_CW_hold 48 = .ok (.aload_n 0, 1) := by decide +kernel
theorem d_CW_hold_49 : decode b_CW_hold 49 = .ok (.getfield 26, 3) := by decide +kernel
theorem d_CW_hold_52 : decode b_CW_hold 52 = .ok (.putfield 23, 3) := by decide +kernel
theorem d_CW_hold_55 : decode b_CW_hold 55 = .ok (.aload_n 0, 1) := by decide +kernel
theorem d_CW_hold_56 : decode b_CW_hold 56 = .ok (.iload_n 1, 1) := by decide +kernel
theorem d_CW_hold_57 : decode b_CW_hold 57 = .ok (.putfield 26, 3) := by decide +kernel
theorem d_CW_hold_60 : decode b_CW_hold 60 = .ok (.return_, 1) := by decide +kernel
theorem d_CW_isWhole_0 : decode b_CW_isWhole 0 = .ok (.aload_n 0, 1) := by decide +kernel
theorem d_CW_isWhole_1 : decode b_CW_isWhole 1 = .ok (.getfield 11, 3) := by decide +kernel
theorem d_CW_isWhole_4 : decode b_CW_isWhole 4 = .ok (.ifCond .ne 39, 3) := by decide +kernel
theorem d_CW_isWhole_7 : decode b_CW_isWhole 7 = .ok (.aload_n 0, 1) := by decide +kernel
theorem d_CW_isWhole_8 : decode b_CW_isWhole 8 = .ok (.getfield 60, 3) := by decide +kernel
theorem d_CW_isWhole_11 : decode b_CW_isWhole 11 = .ok (.getfield 29, 3) := by decide +kernel
theorem d_CW_isWhole_14 : decode b_CW_isWhole 14 = .ok (.ifCond .le 29, 3) := by decide +kernel
theorem d_CW_isWhole_17 : decode b_CW_isWhole 17 = .ok (.aload_n 0, 1) := by decide +kernel
theorem d_CW_isWhole_18 : decode b_CW_isWhole 18 = .ok (.getfield 16, 3) := by decide +kernel
theorem d_CW_isWhole_21 : decode b_CW_isWhole 21 = .ok (.invokestatic 46, 3) := by decide +kernel
theorem d_CW_isWhole_24 : decode b_CW_isWhole 24 = .ok (.aload_n 0, 1) := by decide +kernel
theorem d_CW_isWhole_25 : decode b_CW_isWhole 25 = .ok (.getfield 23, 3) := by decide +kernel
theorem d_CW_isWhole_28 : decode b_CW_isWhole 28 = .ok (.aload_n 0, 1) := by decide +kernel
theorem d_CW_isWhole_29 : decode b_CW_isWhole 29 = .ok (.getfield 26, 3) := by decide +kernel
theorem d_CW_isWhole_32 : decode b_CW_isWhole 32 = .ok (.bipush 8, 2) := by decide +kernel
theorem d_CW_isWhole_34 : decode b_CW_isWhole 34 = .ok (.ishl, 1) := by decide +kernel
theorem d_CW_isWhole_35 : decode b_CW_isWhole 35 = .ok (.ior, 1) := by decide +kernel
theorem d_CW_isWhole_36 : decode b_CW_isWhole 36 = .ok (.if_icmp .ne 7, 3) := by decide +kernel
theorem d_CW_isWhole_39 : decode b_CW_isWhole 39 = .ok (.iconst 1, 1) := by decide +kernel
theorem d_CW_isWhole_40 : decode b_CW_isWhole 40 = .ok (.goto 4, 3) := by decide +kernel
theorem d_CW_isWhole_43 : decode b_CW_isWhole 43 = .ok (.iconst 0, 1) := by decide +kernel
theorem d_CW_isWhole_44 : decode b_CW_isWhole 44 = .ok (.ireturn, 1) := by decide +kernel
theorem d_CW_forgetChunk_0 : decode b_CW_forgetChunk 0 = .ok (.aload_n 0, 1) := by decide +kernel
theorem d_CW_forgetChunk_1 : decode b_CW_forgetChunk 1 = .ok (.iconst 0, 1) := by decide +kernel
theorem d_CW_forgetChunk_2 : decode b_CW_forgetChunk 2 = .ok (.putfield 11, 3) := by decide +kernel
theorem d_CW_forgetChunk_5 : decode b_CW_forgetChunk 5 = .ok (.aload_n 0, 1) := by decide +kernel
theorem d_CW_forgetChunk_6 : decode b_CW_forgetChunk 6 = .ok (.ldc 15, 2) := by decide +kernel
