theorem d_M_init_0 : decode b_M_init 0 = .ok (.aload_n 0, 1) := by decide +kernel
theorem d_M_init_1 : decode b_M_init 1 = .ok (.invokespecial 1, 3) := by decide +kernel
theorem d_M_init_4 : decode b_M_init 4 = .ok (.aload_n 0, 1) := by decide +kernel
theorem d_M_init_5 : decode b_M_init 5 = .ok (.sipush 400, 3) := by decide +kernel
theorem d_M_init_8 : decode b_M_init 8 = .ok (.newarray .int, 2) := by decide +kernel
theorem d_M_init_10 : decode b_M_init 10 = .ok (.putfield 7, 3) := by decide +kernel
theorem d_M_init_13 : decode b_M_init 13 = .ok (.aload_n 0, 1) := by decide +kernel
theorem d_M_init_14 : decode b_M_init 14 = .ok (.sipush 400, 3) := by decide +kernel
theorem d_M_init_17 : decode b_M_init 17 = .ok (.putfield 13, 3) := by decide +kernel
theorem d_M_init_20 : decode b_M_init 20 = .ok (.aload_n 0, 1) := by decide +kernel
theorem d_M_init_21 : decode b_M_init 21 = .ok (.sipush 2000, 3) := by decide +kernel
theorem d_M_init_24 : decode b_M_init 24 = .ok (.newarray .int, 2) := by decide +kernel
theorem d_M_init_26 : decode b_M_init 26 = .ok (.putfield 17, 3) := by decide +kernel
theorem d_M_init_29 : decode b_M_init 29 = .ok (.aload_n 0, 1) := by decide +kernel
theorem d_M_init_30 : decode b_M_init 30 = .ok (.sipush 900, 3) := by decide +kernel
theorem d_M_init_33 : decode b_M_init 33 = .ok (.newarray .int, 2) := by decide +kernel
theorem d_M_init_35 : decode b_M_init 35 = .ok (.putfield 20, 3) := by decide +kernel
theorem d_M_init_38 : decode b_M_init 38 = .ok (.aload_n 0, 1) := by decide +kernel
theorem d_M_init_39 : decode b_M_init 39 = .ok (.iconst 3, 1) := by decide +kernel
theorem d_M_init_40 : decode b_M_init 40 = .ok (.newarray .int, 2) := by decide +kernel
theorem d_M_init_42 : decode b_M_init 42 = .ok (.putfield 23, 3) := by decide +kernel
theorem d_M_init_45 : decode b_M_init 45 = .ok (.aload_n 0, 1) := by decide +kernel
theorem d_M_init_46 : decode b_M_init 46 = .ok (.iconst 3, 1) := by decide +kernel
theorem d_M_init_47 : decode b_M_init 47 = .ok (.newarray .int, 2) := by decide +kernel
theorem d_M_init_49 : decode b_M_init 49 = .ok (.putfield 26, 3) := by decide +kernel
theorem d_M_init_52 : decode b_M_init 52 = .ok (.aload_n 0, 1) := by decide +kernel
theorem d_M_init_53 : decode b_M_init 53 = .ok (.sipush 1200, 3) := by decide +kernel
theorem d_M_init_56 : decode b_M_init 56 = .ok (.newarray .int, 2) := by decide +kernel
theorem d_M_init_58 : decode b_M_init 58 = .ok (.putfield 29, 3) := by decide +kernel
theorem d_M_init_61 : decode b_M_init 61 = .ok (.aload_n 0, 1) := by decide +kernel
theorem d_M_init_62 : decode b_M_init 62 = .ok (.iconst 3, 1) := by decide +kernel
theorem d_M_init_63 : decode b_M_init 63 = .ok (.newarray .boolean, 2) := by decide +kernel
theorem d_M_init_65 : decode b_M_init 65 = .ok (.putfield 32, 3) := by decide +kernel
theorem d_M_init_68 : decode b_M_init 68 = .ok (.aload_n 0, 1) := by decide +kernel
theorem d_M_init_69 : decode b_M_init 69 = .ok (.iconst 3, 1) := by decide +kernel
theorem d_M_init_70 : decode b_M_init 70 = .ok (.newarray .boolean, 2) := by decide +kernel
theorem d_M_init_72 : decode b_M_init 72 = .ok (.putfield 36, 3) := by decide +kernel
theorem d_M_init_75 : decode b_M_init 75 = .ok (.aload_n 0, 1) := by decide +kernel
theorem d_M_init_76 : decode b_M_init 76 = .ok (.iconst 3, 1) := by decide +kernel
theorem d_M_init_77 : decode b_M_init 77 = .ok (.newarray .int, 2) := by decide +kernel
theorem d_M_init_79 : decode b_M_init 79 = .ok (.dup, 1) := by decide +kernel
theorem d_M_init_80 : decode b_M_init 80 = .ok (.iconst 0, 1) := by decide +kernel
theorem d_M_init_81 : decode b_M_init 81 = .ok (.iconst (-1), 1) := by decide +kernel
theorem d_M_init_82 : decode b_M_init 82 = .ok (.iastore, 1) := by decide +kernel
theorem d_M_init_83 : decode b_M_init 83 = .ok (.dup, 1) := by decide +kernel
theorem d_M_init_84 : decode b_M_init 84 = .ok (.iconst 1, 1) := by decide +kernel
theorem d_M_init_85 : decode b_M_init 85 = .ok (.iconst (-1), 1) := by decide +kernel
theorem d_M_init_86 : decode b_M_init 86 = .ok (.iastore, 1) := by decide +kernel
theorem d_M_init_87 : decode b_M_init 87 = .ok (.dup, 1) := by decide +kernel
theorem d_M_init_88 : decode b_M_init 88 = .ok (.iconst 2, 1) := by decide +kernel
theorem d_M_init_89 : decode b_M_init 89 = .ok (.iconst (-1), 1) := by decide +kernel
theorem d_M_init_90 : decode b_M_init 90 = .ok (.iastore, 1) := by decide +kernel
theorem d_M_init_91 : decode b_M_init 91 = .ok (.putfield 39, 3) := by decide +kernel
theorem d_M_init_94 : decode b_M_init 94 = .ok (.aload_n 0, 1) := by decide +kernel
theorem d_M_init_95 : decode b_M_init 95 = .ok (.sipush 1200, 3) := by decide +kernel
theorem d_M_init_98 : decode b_M_init 98 = .ok (.newarray .int, 2) := by decide +kernel
theorem d_M_init_100 : decode b_M_init 100 = .ok (.putfield 42, 3) := by decide +kernel
theorem d_M_init_103 : decode b_M_init 103 = .ok (.aload_n 0, 1) := by decide +kernel
theorem d_M_init_104 : decode b_M_init 104 = .ok (.bipush 12, 2) := by decide +kernel
theorem d_M_init_106 : decode b_M_init 106 = .ok (.newarray .int, 2) := by decide +kernel
theorem d_M_init_108 : decode b_M_init 108 = .ok (.putfield 45, 3) := by decide +kernel
theorem d_M_init_111 : decode b_M_init 111 = .ok (.return_, 1) := by decide +kernel
theorem d_M_isWay_0 : decode b_M_isWay 0 = .ok (.iload_n 0, 1) := by decide +kernel
theorem d_M_isWay_1 : decode b_M_isWay 1 = .ok (.ifCond .lt 12, 3) := by decide +kernel
theorem d_M_isWay_4 : decode b_M_isWay 4 = .ok (.iload_n 0, 1) := by decide +kernel
theorem d_M_isWay_5 : decode b_M_isWay 5 = .ok (.iconst 3, 1) := by decide +kernel
theorem d_M_isWay_6 : decode b_M_isWay 6 = .ok (.if_icmp .ge 7, 3) := by decide +kernel
theorem d_M_isWay_9 : decode b_M_isWay 9 = .ok (.iconst 1, 1) := by decide +kernel
theorem d_M_isWay_10 : decode b_M_isWay 10 = .ok (.goto 4, 3) := by decide +kernel
theorem d_M_isWay_13 : decode b_M_isWay 13 = .ok (.iconst 0, 1) := by decide +kernel
theorem d_M_isWay_14 : decode b_M_isWay 14 = .ok (.ireturn, 1) := by decide +kernel
theorem d_M_put_0 : decode b_M_put 0 = .ok (.bipush 24, 2) := by decide +kernel
theorem d_M_put_2 : decode b_M_put 2 = .ok (.istore_n 2, 1) := by decide +kernel
theorem d_M_put_3 : decode b_M_put 3 = .ok (.iload_n 2, 1) := by decide +kernel
theorem d_M_put_4 : decode b_M_put 4 = .ok (.ifCond .lt 35, 3) := by decide +kernel
theorem d_M_put_7 : decode b_M_put 7 = .ok (.aload_n 0, 1) := by decide +kernel
theorem d_M_put_8 : decode b_M_put 8 = .ok (.getfield 7, 3) := by decide +kernel
theorem d_M_put_11 : decode b_M_put 11 = .ok (.aload_n 0, 1) := by decide +kernel
theorem d_M_put_12 : decode b_M_put 12 = .ok (.getfield 51, 3) := by decide +kernel
theorem d_M_put_15 : decode b_M_put 15 = .ok (.iload_n 1, 1) := by decide +kernel
theorem d_M_put_16 : decode b_M_put 16 = .ok (.iload_n 2, 1) := by decide +kernel
theorem d_M_put_17 : decode b_M_put 17 = .ok (.ishr, 1) := by decide +kernel
theorem d_M_put_18 : decode b_M_put 18 = .ok (.sipush 255, 3) := by decide +kernel
theorem d_M_put_21 : decode b_M_put 21 = .ok (.iand, 1) := by decide +kernel
theorem d_M_put_22 : decode b_M_put 22 = .ok (.iastore, 1) := by decide +kernel
theorem d_M_put_23 : decode b_M_put 23 = .ok (.aload_n 0, 1) := by decide +kernel
theorem d_M_put_24 : decode b_M_put 24 = .ok (.dup, 1) := by decide +kernel
theorem d_M_put_25 : decode b_M_put 25 = .ok (.getfield 51, 3) := by decide +kernel
theorem d_M_put_28 : decode b_M_put 28 = .ok (.iconst 1, 1) := by decide +kernel
theorem d_M_put_29 : decode b_M_put 29 = .ok (.iadd, 1) := by decide +kernel
theorem d_M_put_30 : decode b_M_put 30 = .ok (.putfield 51, 3) := by decide +kernel
theorem d_M_put_33 : decode b_M_put 33 = .ok (.iinc 2 (-8), 3) := by decide +kernel
theorem d_M_put_36 : decode b_M_put 36 = .ok (.goto (-33), 3) := by decide +kernel
theorem d_M_put_39 : decode b_M_put 39 = .ok (.return_, 1) := by decide +kernel
theorem d_M_feed_0 : decode b_M_feed 0 = .ok (.aload_n 0, 1) := by decide +kernel
theorem d_M_feed_1 : decode b_M_feed 1 = .ok (.iconst 0, 1) := by decide +kernel
theorem d_M_feed_2 : decode b_M_feed 2 = .ok (.putfield 48, 3) := by decide +kernel
theorem d_M_feed_5 : decode b_M_feed 5 = .ok (.aload_n 0, 1) := by decide +kernel
theorem d_M_feed_6 : decode b_M_feed 6 = .ok (.getfield 51, 3) := by decide +kernel
theorem d_M_feed_9 : decode b_M_feed 9 = .ok (.bipush 20, 2) := by decide +kernel
theorem d_M_feed_11 : decode b_M_feed 11 = .ok (.iadd, 1) := by decide +kernel
theorem d_M_feed_12 : decode b_M_feed 12 = .ok (.sipush 400, 3) := by decide +kernel
theorem d_M_feed_15 : decode b_M_feed 15 = .ok (.if_icmp .le 5, 3) := by decide +kernel
theorem d_M_feed_18 : decode b_M_feed 18 = .ok (.iconst 0, 1) := by decide +kernel
theorem d_M_feed_19 : decode b_M_feed 19 = .ok (.ireturn, 1) := by decide +kernel
theorem d_M_feed_20 : decode b_M_feed 20 = .ok (.aload_n 0, 1) := by decide +kernel
theorem d_M_feed_21 : decode b_M_feed 21 = .ok (.iload_n 1, 1) := by decide +kernel
theorem d_M_feed_22 : decode b_M_feed 22 = .ok (.invokevirtual 54, 3) := by decide +kernel
theorem d_M_feed_25 : decode b_M_feed 25 = .ok (.aload_n 0, 1) := by decide +kernel
theorem d_M_feed_26 : decode b_M_feed 26 = .ok (.iload_n 2, 1) := by decide +kernel
theorem d_M_feed_27 : decode b_M_feed 27 = .ok (.invokevirtual 54, 3) := by decide +kernel
theorem d_M_feed_30 : decode b_M_feed 30 = .ok (.aload_n 0, 1) := by decide +kernel
theorem d_M_feed_31 : decode b_M_feed 31 = .ok (.iload_n 3, 1) := by decide +kernel
theorem d_M_feed_32 : decode b_M_feed 32 = .ok (.invokevirtual 54, 3) := by decide +kernel
theorem d_M_feed_35 : decode b_M_feed 35 = .ok (.aload_n 0, 1) := by decide +kernel
theorem d_M_feed_36 : decode b_M_feed 36 = .ok (.iload 4, 2) := by decide +kernel
theorem d_M_feed_38 : decode b_M_feed 38 = .ok (.invokevirtual 54, 3) := by decide +kernel
theorem d_M_feed_41 : decode b_M_feed 41 = .ok (.aload_n 0, 1) := by decide +kernel
theorem d_M_feed_42 : decode b_M_feed 42 = .ok (.iload 5, 2) := by decide +kernel
theorem d_M_feed_44 : decode b_M_feed 44 = .ok (.invokevirtual 54, 3) := by decide +kernel
theorem d_M_feed_47 : decode b_M_feed 47 = .ok (.iconst 1, 1) := by decide +kernel
theorem d_M_feed_48 : decode b_M_feed 48 = .ok (.ireturn, 1) := by decide +kernel
theorem d_M_end_0 : decode b_M_end 0 = .ok (.aload_n 0, 1) := by decide +kernel
theorem d_M_end_1 : decode b_M_end 1 = .ok (.iconst 0, 1) := by decide +kernel
theorem d_M_end_2 : decode b_M_end 2 = .ok (.putfield 48, 3) := by decide +kernel
theorem d_M_end_5 : decode b_M_end 5 = .ok (.iload_n 1, 1) := by decide +kernel
theorem d_M_end_6 : decode b_M_end 6 = .ok (.ifCond .lt 11, 3) := by decide +kernel
theorem d_M_end_9 : decode b_M_end 9 = .ok (.iload_n 1, 1) := by decide +kernel
theorem d_M_end_10 : decode b_M_end 10 = .ok (.aload_n 0, 1) := by decide +kernel
theorem d_M_end_11 : decode b_M_end 11 = .ok (.getfield 51, 3) := by decide +kernel
theorem d_M_end_14 : decode b_M_end 14 = .ok (.if_icmp .le 5, 3) := by decide +kernel
theorem d_M_end_17 : decode b_M_end 17 = .ok (.iconst 0, 1) := by decide +kernel
theorem d_M_end_18 : decode b_M_end 18 = .ok (.ireturn, 1) := by decide +kernel
theorem d_M_end_19 : decode b_M_end 19 = .ok (.aload_n 0, 1) := by decide +kernel
theorem d_M_end_20 : decode b_M_end 20 = .ok (.iload_n 1, 1) := by decide +kernel
theorem d_M_end_21 : decode b_M_end 21 = .ok (.putfield 51, 3) := by decide +kernel
theorem d_M_end_24 : decode b_M_end 24 = .ok (.iconst 1, 1) := by decide +kernel
theorem d_M_end_25 : decode b_M_end 25 = .ok (.ireturn, 1) := by decide +kernel
theorem d_M_limit_0 : decode b_M_limit 0 = .ok (.aload_n 0, 1) := by decide +kernel
theorem d_M_limit_1 : decode b_M_limit 1 = .ok (.iconst 0, 1) := by decide +kernel
theorem d_M_limit_2 : decode b_M_limit 2 = .ok (.putfield 48, 3) := by decide +kernel
theorem d_M_limit_5 : decode b_M_limit 5 = .ok (.iload_n 1, 1) := by decide +kernel
theorem d_M_limit_6 : decode b_M_limit 6 = .ok (.iconst 1, 1) := by decide +kernel
theorem d_M_limit_7 : decode b_M_limit 7 = .ok (.if_icmp .lt 10, 3) := by decide +kernel
theorem d_M_limit_10 : decode b_M_limit 10 = .ok (.iload_n 1, 1) := by decide +kernel
theorem d_M_limit_11 : decode b_M_limit 11 = .ok (.sipush 400, 3) := by decide +kernel
theorem d_M_limit_14 : decode b_M_limit 14 = .ok (.if_icmp .le 5, 3) := by decide +kernel
theorem d_M_limit_17 : decode b_M_limit 17 = .ok (.iconst 0, 1) := by decide +kernel
theorem d_M_limit_18 : decode b_M_limit 18 = .ok (.ireturn, 1) := by decide +kernel
theorem d_M_limit_19 : decode b_M_limit 19 = .ok (.aload_n 0, 1) := by decide +kernel
theorem d_M_limit_20 : decode b_M_limit 20 = .ok (.iload_n 1, 1) := by decide +kernel
theorem d_M_limit_21 : decode b_M_limit 21 = .ok (.putfield 13, 3) := by decide +kernel
theorem d_M_limit_24 : decode b_M_limit 24 = .ok (.iconst 1, 1) := by decide +kernel
theorem d_M_limit_25 : decode b_M_limit 25 = .ok (.ireturn, 1) := by decide +kernel
theorem d_M_checked_0 : decode b_M_checked 0 = .ok (.iload_n 0, 1) := by decide +kernel
theorem d_M_checked_1 : decode b_M_checked 1 = .ok (.iload_n 1, 1) := by decide +kernel
theorem d_M_checked_2 : decode b_M_checked 2 = .ok (.ixor, 1) := by decide +kernel
theorem d_M_checked_3 : decode b_M_checked 3 = .ok (.istore_n 2, 1) := by decide +kernel
theorem d_M_checked_4 : decode b_M_checked 4 = .ok (.iconst 0, 1) := by decide +kernel
theorem d_M_checked_5 : decode b_M_checked 5 = .ok (.istore_n 3, 1) := by decide +kernel
theorem d_M_checked_6 : decode b_M_checked 6 = .ok (.iload_n 3, 1) := by decide +kernel
theorem d_M_checked_7 : decode b_M_checked 7 = .ok (.bipush 8, 2) := by decide +kernel
theorem d_M_checked_9 : decode b_M_checked 9 = .ok (.if_icmp .ge 29, 3) := by decide +kernel
theorem d_M_checked_12 : decode b_M_checked 12 = .ok (.iload_n 2, 1) := by decide +kernel
theorem d_M_checked_13 : decode b_M_checked 13 = .ok (.iconst 1, 1) := by decide +kernel
theorem d_M_checked_14 : decode b_M_checked 14 = .ok (.iand, 1) := by decide +kernel
theorem d_M_checked_15 : decode b_M_checked 15 = .ok (.iconst 1, 1) := by decide +kernel
theorem d_M_checked_16 : decode b_M_checked 16 = .ok (.if_icmp .ne 12, 3) := by decide +kernel
theorem d_M_checked_19 : decode b_M_checked 19 = .ok (.iload_n 2, 1) := by decide +kernel
theorem d_M_checked_20 : decode b_M_checked 20 = .ok (.iconst 1, 1) := by decide +kernel
theorem d_M_checked_21 : decode b_M_checked 21 = .ok (.ishr, 1) := by decide +kernel
theorem d_M_checked_22 : decode b_M_checked 22 = .ok (.ldc 58, 2) := by decide +kernel
theorem d_M_checked_24 : decode b_M_checked 24 = .ok (.ixor, 1) := by decide +kernel
theorem d_M_checked_25 : decode b_M_checked 25 = .ok (.goto 6, 3) := by decide +kernel
theorem d_M_checked_28 : decode b_M_checked 28 = .ok (.iload_n 2, 1) := by decide +kernel
theorem d_M_checked_29 : decode b_M_checked 29 = .ok (.iconst 1, 1) := by decide +kernel
theorem d_M_checked_30 : decode b_M_checked 30 = .ok (.ishr, 1) := by decide +kernel
theorem d_M_checked_31 : decode b_M_checked 31 = .ok (.istore_n 2, 1) := by decide +kernel
theorem d_M_checked_32 : decode b_M_checked 32 = .ok (.iinc 3 1, 3) := by decide +kernel
theorem d_M_checked_35 : decode b_M_checked 35 = .ok (.goto (-29), 3) := by decide +kernel
theorem d_M_checked_38 : decode b_M_checked 38 = .ok (.iload_n 2, 1) := by decide +kernel
theorem d_M_checked_39 : decode b_M_checked 39 = .ok (.ireturn, 1) := by decide +kernel
theorem d_M_say_0 : decode b_M_say 0 = .ok (.aload_n 0, 1) := by decide +kernel
theorem d_M_say_1 : decode b_M_say 1 = .ok (.getfield 20, 3) := by decide +kernel
theorem d_M_say_4 : decode b_M_say 4 = .ok (.aload_n 0, 1) := by decide +kernel
theorem d_M_say_5 : decode b_M_say 5 = .ok (.getfield 59, 3) := by decide +kernel
theorem d_M_say_8 : decode b_M_say 8 = .ok (.iload_n 1, 1) := by decide +kernel
theorem d_M_say_9 : decode b_M_say 9 = .ok (.iastore, 1) := by decide +kernel
theorem d_M_say_10 : decode b_M_say 10 = .ok (.aload_n 0, 1) := by decide +kernel
theorem d_M_say_11 : decode b_M_say 11 = .ok (.dup, 1) := by decide +kernel
theorem d_M_say_12 : decode b_M_say 12 = .ok (.getfield 59, 3) := by decide +kernel
theorem d_M_say_15 : decode b_M_say 15 = .ok (.iconst 1, 1) := by decide +kernel
theorem d_M_say_16 : decode b_M_say 16 = .ok (.iadd, 1) := by decide +kernel
theorem d_M_say_17 : decode b_M_say 17 = .ok (.putfield 59, 3) := by decide +kernel
theorem d_M_say_20 : decode b_M_say 20 = .ok (.return_, 1) := by decide +kernel
theorem d_M_sayTurned_0 : decode b_M_sayTurned 0 = .ok (.iload_n 1, 1) := by decide +kernel
theorem d_M_sayTurned_1 : decode b_M_sayTurned 1 = .ok (.iconst 1, 1) := by decide +kernel
theorem d_M_sayTurned_2 : decode b_M_sayTurned 2 = .ok (.if_icmp .ne 25, 3) := by decide +kernel
theorem d_M_sayTurned_5 : decode b_M_sayTurned 5 = .ok (.iload_n 2, 1) := by decide +kernel
theorem d_M_sayTurned_6 : decode b_M_sayTurned 6 = .ok (.sipush 192, 3) := by decide +kernel
theorem d_M_sayTurned_9 : decode b_M_sayTurned 9 = .ok (.if_icmp .eq 10, 3) := by decide +kernel
theorem d_M_sayTurned_12 : decode b_M_sayTurned 12 = .ok (.iload_n 2, 1) := by decide +kernel
theorem d_M_sayTurned_13 : decode b_M_sayTurned 13 = .ok (.sipush 219, 3) := by decide +kernel
theorem d_M_sayTurned_16 : decode b_M_sayTurned 16 = .ok (.if_icmp .ne 7, 3) := by decide +kernel
theorem d_M_sayTurned_19 : decode b_M_sayTurned 19 = .ok (.iconst 1, 1) := by decide +kernel
theorem d_M_sayTurned_20 : decode b_M_sayTurned 20 = .ok (.goto 24, 3) := by decide +kernel
theorem d_M_sayTurned_23 : decode b_M_sayTurned 23 = .ok (.iconst 0, 1) := by decide +kernel
theorem d_M_sayTurned_24 : decode b_M_sayTurned 24 = .ok (.goto 20, 3) := by decide +kernel
theorem d_M_sayTurned_27 : decode b_M_sayTurned 27 = .ok (.iload_n 2, 1) := by decide +kernel
theorem d_M_sayTurned_28 : decode b_M_sayTurned 28 = .ok (.bipush 125, 2) := by decide +kernel
theorem d_M_sayTurned_30 : decode b_M_sayTurned 30 = .ok (.if_icmp .eq 9, 3) := by decide +kernel
theorem d_M_sayTurned_33 : decode b_M_sayTurned 33 = .ok (.iload_n 2, 1) := by decide +kernel
theorem d_M_sayTurned_34 : decode b_M_sayTurned 34 = .ok (.bipush 126, 2) := by decide +kernel
theorem d_M_sayTurned_36 : decode b_M_sayTurned 36 = .ok (.if_icmp .ne 7, 3) := by decide +kernel
theorem d_M_sayTurned_39 : decode b_M_sayTurned 39 = .ok (.iconst 1, 1) := by decide +kernel
theorem d_M_sayTurned_40 : decode b_M_sayTurned 40 = .ok (.goto 4, 3) := by decide +kernel
theorem d_M_sayTurned_43 : decode b_M_sayTurned 43 = .ok (.iconst 0, 1) := by decide +kernel
theorem d_M_sayTurned_44 : decode b_M_sayTurned 44 = .ok (.istore_n 3, 1) := by decide +kernel
theorem d_M_sayTurned_45 : decode b_M_sayTurned 45 = .ok (.iload_n 3, 1) := by decide +kernel
theorem d_M_sayTurned_46 : decode b_M_sayTurned 46 = .ok (.ifCond .eq 20, 3) := by decide +kernel
theorem d_M_sayTurned_49 : decode b_M_sayTurned 49 = .ok (.aload_n 0, 1) := by decide +kernel
theorem d_M_sayTurned_50 : decode b_M_sayTurned 50 = .ok (.iload_n 1, 1) := by decide +kernel
theorem d_M_sayTurned_51 : decode b_M_sayTurned 51 = .ok (.iconst 1, 1) := by decide +kernel
theorem d_M_sayTurned_52 : decode b_M_sayTurned 52 = .ok (.if_icmp .ne 9, 3) := by decide +kernel
theorem d_M_sayTurned_55 : decode b_M_sayTurned 55 = .ok (.sipush 219, 3) := by decide +kernel
theorem d_M_sayTurned_58 : decode b_M_sayTurned 58 = .ok (.goto 5, 3) := by decide +kernel
theorem d_M_sayTurned_61 : decode b_M_sayTurned 61 = .ok (.bipush 125, 2) := by decide +kernel
theorem d_M_sayTurned_63 : decode b_M_sayTurned 63 = .ok (.invokevirtual 62, 3) := by decide +kernel
theorem d_M_sayTurned_66 : decode b_M_sayTurned 66 = .ok (.aload_n 0, 1) := by decide +kernel
theorem d_M_sayTurned_67 : decode b_M_sayTurned 67 = .ok (.iload_n 3, 1) := by decide +kernel
theorem d_M_sayTurned_68 : decode b_M_sayTurned 68 = .ok (.ifCond .ne 7, 3) := by decide +kernel
theorem d_M_sayTurned_71 : decode b_M_sayTurned 71 = .ok (.iload_n 2, 1) := by decide +kernel
theorem d_M_sayTurned_72 : decode b_M_sayTurned 72 = .ok (.goto 31, 3) := by decide +kernel
theorem d_M_sayTurned_75 : decode b_M_sayTurned 75 = .ok (.iload_n 1, 1) := by decide +kernel
theorem d_M_sayTurned_76 : decode b_M_sayTurned 76 = .ok (.iconst 1, 1) := by decide +kernel
theorem d_M_sayTurned_77 : decode b_M_sayTurned 77 = .ok (.if_icmp .ne 22, 3) := by decide +kernel
theorem d_M_sayTurned_80 : decode b_M_sayTurned 80 = .ok (.iload_n 2, 1) := by decide +kernel
theorem d_M_sayTurned_81 : decode b_M_sayTurned 81 = .ok (.sipush 192, 3) := by decide +kernel
theorem d_M_sayTurned_84 : decode b_M_sayTurned 84 = .ok (.if_icmp .ne 9, 3) := by decide +kernel
theorem d_M_sayTurned_87 : decode b_M_sayTurned 87 = .ok (.sipush 220, 3) := by decide +kernel
theorem d_M_sayTurned_90 : decode b_M_sayTurned 90 = .ok (.goto 13, 3) := by decide +kernel
theorem d_M_sayTurned_93 : decode b_M_sayTurned 93 = .ok (.sipush 221, 3) := by decide +kernel
theorem d_M_sayTurned_96 : decode b_M_sayTurned 96 = .ok (.goto 7, 3) := by decide +kernel
theorem d_M_sayTurned_99 : decode b_M_sayTurned 99 = .ok (.iload_n 2, 1) := by decide +kernel
theorem d_M_sayTurned_100 : decode b_M_sayTurned 100 = .ok (.bipush 32, 2) := by decide +kernel
theorem d_M_sayTurned_102 : decode b_M_sayTurned 102 = .ok (.ixor, 1) := by decide +kernel
theorem d_M_sayTurned_103 : decode b_M_sayTurned 103 = .ok (.invokevirtual 62, 3) := by decide +kernel
theorem d_M_sayTurned_106 : decode b_M_sayTurned 106 = .ok (.return_, 1) := by decide +kernel
theorem d_M_groupEnd_0 : decode b_M_groupEnd 0 = .ok (.iload_n 1, 1) := by decide +kernel
theorem d_M_groupEnd_1 : decode b_M_groupEnd 1 = .ok (.istore_n 3, 1) := by decide +kernel
theorem d_M_groupEnd_2 : decode b_M_groupEnd 2 = .ok (.iload_n 3, 1) := by decide +kernel
theorem d_M_groupEnd_3 : decode b_M_groupEnd 3 = .ok (.iload_n 2, 1) := by decide +kernel
theorem d_M_groupEnd_4 : decode b_M_groupEnd 4 = .ok (.if_icmp .ge 27, 3) := by decide +kernel
theorem d_M_groupEnd_7 : decode b_M_groupEnd 7 = .ok (.aload_n 0, 1) := by decide +kernel
theorem d_M_groupEnd_8 : decode b_M_groupEnd 8 = .ok (.getfield 7, 3) := by decide +kernel
theorem d_M_groupEnd_11 : decode b_M_groupEnd 11 = .ok (.iload_n 3, 1) := by decide +kernel
theorem d_M_groupEnd_12 : decode b_M_groupEnd 12 = .ok (.iaload, 1) := by decide +kernel
theorem d_M_groupEnd_13 : decode b_M_groupEnd 13 = .ok (.ifCond .eq 18, 3) := by decide +kernel
theorem d_M_groupEnd_16 : decode b_M_groupEnd 16 = .ok (.iload_n 3, 1) := by decide +kernel
theorem d_M_groupEnd_17 : decode b_M_groupEnd 17 = .ok (.iload_n 1, 1) := by decide +kernel
theorem d_M_groupEnd_18 : decode b_M_groupEnd 18 = .ok (.isub, 1) := by decide +kernel
theorem d_M_groupEnd_19 : decode b_M_groupEnd 19 = .ok (.sipush 254, 3) := by decide +kernel
theorem d_M_groupEnd_22 : decode b_M_groupEnd 22 = .ok (.if_icmp .ge 9, 3) := by decide +kernel
theorem d_M_groupEnd_25 : decode b_M_groupEnd 25 = .ok (.iinc 3 1, 3) := by decide +kernel
theorem d_M_groupEnd_28 : decode b_M_groupEnd 28 = .ok (.goto (-26), 3) := by decide +kernel
theorem d_M_groupEnd_31 : decode b_M_groupEnd 31 = .ok (.iload_n 3, 1) := by decide +kernel
theorem d_M_groupEnd_32 : decode b_M_groupEnd 32 = .ok (.ireturn, 1) := by decide +kernel
theorem d_M_sayGroups_0 : decode b_M_sayGroups 0 = .ok (.iconst 0, 1) := by decide +kernel
theorem d_M_sayGroups_1 : decode b_M_sayGroups 1 = .ok (.istore_n 2, 1) := by decide +kernel
theorem d_M_sayGroups_2 : decode b_M_sayGroups 2 = .ok (.iconst 1, 1) := by decide +kernel
theorem d_M_sayGroups_3 : decode b_M_sayGroups 3 = .ok (.istore_n 3, 1) := by decide +kernel
theorem d_M_sayGroups_4 : decode b_M_sayGroups 4 = .ok (.iload_n 3, 1) := by decide +kernel
theorem d_M_sayGroups_5 : decode b_M_sayGroups 5 = .ok (.ifCond .eq 114, 3) := by decide +kernel
theorem d_M_sayGroups_8 : decode b_M_sayGroups 8 = .ok (.aload_n 0, 1) := by decide +kernel
theorem d_M_sayGroups_9 : decode b_M_sayGroups 9 = .ok (.iload_n 2, 1) := by decide +kernel
theorem d_M_sayGroups_10 : decode b_M_sayGroups 10 = .ok (.iload_n 1, 1) := by decide +kernel
theorem d_M_sayGroups_11 : decode b_M_sayGroups 11 = .ok (.invokevirtual 65, 3) := by decide +kernel
theorem d_M_sayGroups_14 : decode b_M_sayGroups 14 = .ok (.istore 4, 2) := by decide +kernel
theorem d_M_sayGroups_16 : decode b_M_sayGroups 16 = .ok (.aload_n 0, 1) := by decide +kernel
theorem d_M_sayGroups_17 : decode b_M_sayGroups 17 = .ok (.iconst 1, 1) := by decide +kernel
theorem d_M_sayGroups_18 : decode b_M_sayGroups 18 = .ok (.iload 4, 2) := by decide +kernel
theorem d_M_sayGroups_20 : decode b_M_sayGroups 20 = .ok (.iadd, 1) := by decide +kernel
theorem d_M_sayGroups_21 : decode b_M_sayGroups 21 = .ok (.iload_n 2, 1) := by decide +kernel
theorem d_M_sayGroups_22 : decode b_M_sayGroups 22 = .ok (.isub, 1) := by decide +kernel
theorem d_M_sayGroups_23 : decode b_M_sayGroups 23 = .ok (.invokevirtual 62, 3) := by decide +kernel
theorem d_M_sayGroups_26 : decode b_M_sayGroups 26 = .ok (.iload_n 2, 1) := by decide +kernel
theorem d_M_sayGroups_27 : decode b_M_sayGroups 27 = .ok (.istore 5, 2) := by decide +kernel
theorem d_M_sayGroups_29 : decode b_M_sayGroups 29 = .ok (.iload 5, 2) := by decide +kernel
theorem d_M_sayGroups_31 : decode b_M_sayGroups 31 = .ok (.iload 4, 2) := by decide +kernel
theorem d_M_sayGroups_33 : decode b_M_sayGroups 33 = .ok (.if_icmp .ge 20, 3) := by decide +kernel
theorem d_M_sayGroups_36 : decode b_M_sayGroups 36 = .ok (.aload_n 0, 1) := by decide +kernel
theorem d_M_sayGroups_37 : decode b_M_sayGroups 37 = .ok (.aload_n 0, 1) := by decide +kernel
theorem d_M_sayGroups_38 : decode b_M_sayGroups 38 = .ok (.getfield 7, 3) := by decide +kernel
theorem d_M_sayGroups_41 : decode b_M_sayGroups 41 = .ok (.iload 5, 2) := by decide +kernel
theorem d_M_sayGroups_43 : decode b_M_sayGroups 43 = .ok (.iaload, 1) := by decide +kernel
theorem d_M_sayGroups_44 : decode b_M_sayGroups 44 = .ok (.invokevirtual 62, 3) := by decide +kernel
theorem d_M_sayGroups_47 : decode b_M_sayGroups 47 = .ok (.iinc 5 1, 3) := by decide +kernel
theorem d_M_sayGroups_50 : decode b_M_sayGroups 50 = .ok (.goto (-21), 3) := by decide +kernel
theorem d_M_sayGroups_53 : decode b_M_sayGroups 53 = .ok (.iload 4, 2) := by decide +kernel
theorem d_M_sayGroups_55 : decode b_M_sayGroups 55 = .ok (.iload_n 2, 1) := by decide +kernel
theorem d_M_sayGroups_56 : decode b_M_sayGroups 56 = .ok (.isub, 1) := by decide +kernel
theorem d_M_sayGroups_57 : decode b_M_sayGroups 57 = .ok (.sipush 254, 3) := by decide +kernel
theorem d_M_sayGroups_60 : decode b_M_sayGroups 60 = .ok (.if_icmp .ne 7, 3) := by decide +kernel
theorem d_M_sayGroups_63 : decode b_M_sayGroups 63 = .ok (.iconst 1, 1) := by decide +kernel
theorem d_M_sayGroups_64 : decode b_M_sayGroups 64 = .ok (.goto 4, 3) := by decide +kernel
theorem d_M_sayGroups_67 : decode b_M_sayGroups 67 = .ok (.iconst 0, 1) := by decide +kernel
theorem d_M_sayGroups_68 : decode b_M_sayGroups 68 = .ok (.istore 5, 2) := by decide +kernel
theorem d_M_sayGroups_70 : decode b_M_sayGroups 70 = .ok (.iload 5, 2) := by decide +kernel
theorem d_M_sayGroups_72 : decode b_M_sayGroups 72 = .ok (.ifCond .eq 17, 3) := by decide +kernel
theorem d_M_sayGroups_75 : decode b_M_sayGroups 75 = .ok (.iload 4, 2) := by decide +kernel
theorem d_M_sayGroups_77 : decode b_M_sayGroups 77 = .ok (.iload_n 1, 1) := by decide +kernel
theorem d_M_sayGroups_78 : decode b_M_sayGroups 78 = .ok (.if_icmp .ge 7, 3) := by decide +kernel
theorem d_M_sayGroups_81 : decode b_M_sayGroups 81 = .ok (.iconst 1, 1) := by decide +kernel
theorem d_M_sayGroups_82 : decode b_M_sayGroups 82 = .ok (.goto 18, 3) := by decide +kernel
theorem d_M_sayGroups_85 : decode b_M_sayGroups 85 = .ok (.iconst 0, 1) := by decide +kernel
theorem d_M_sayGroups_86 : decode b_M_sayGroups 86 = .ok (.goto 14, 3) := by decide +kernel
theorem d_M_sayGroups_89 : decode b_M_sayGroups 89 = .ok (.iload 4, 2) := by decide +kernel
theorem d_M_sayGroups_91 : decode b_M_sayGroups 91 = .ok (.iload_n 1, 1) := by decide +kernel
theorem d_M_sayGroups_92 : decode b_M_sayGroups 92 = .ok (.if_icmp .ge 7, 3) := by decide +kernel
theorem d_M_sayGroups_95 : decode b_M_sayGroups 95 = .ok (.iconst 1, 1) := by decide +kernel
theorem d_M_sayGroups_96 : decode b_M_sayGroups 96 = .ok (.goto 4, 3) := by decide +kernel
theorem d_M_sayGroups_99 : decode b_M_sayGroups 99 = .ok (.iconst 0, 1) := by decide +kernel
theorem d_M_sayGroups_100 : decode b_M_sayGroups 100 = .ok (.istore_n 3, 1) := by decide +kernel
theorem d_M_sayGroups_101 : decode b_M_sayGroups 101 = .ok (.iload 5, 2) := by decide +kernel
theorem d_M_sayGroups_103 : decode b_M_sayGroups 103 = .ok (.ifCond .eq 8, 3) := by decide +kernel
theorem d_M_sayGroups_106 : decode b_M_sayGroups 106 = .ok (.iload 4, 2) := by decide +kernel
theorem d_M_sayGroups_108 : decode b_M_sayGroups 108 = .ok (.goto 7, 3) := by decide +kernel
theorem d_M_sayGroups_111 : decode b_M_sayGroups 111 = .ok (.iload 4, 2) := by decide +kernel
theorem d_M_sayGroups_113 : decode b_M_sayGroups 113 = .ok (.iconst 1, 1) := by decide +kernel
theorem d_M_sayGroups_114 : decode b_M_sayGroups 114 = .ok (.iadd, 1) := by decide +kernel
theorem d_M_sayGroups_115 : decode b_M_sayGroups 115 = .ok (.istore_n 2, 1) := by decide +kernel
theorem d_M_sayGroups_116 : decode b_M_sayGroups 116 = .ok (.goto (-112), 3) := by decide +kernel
theorem d_M_sayGroups_119 : decode b_M_sayGroups 119 = .ok (.return_, 1) := by decide +kernel
theorem d_M_tell_0 : decode b_M_tell 0 = .ok (.aload_n 0, 1) := by decide +kernel
theorem d_M_tell_1 : decode b_M_tell 1 = .ok (.iconst 0, 1) := by decide +kernel
theorem d_M_tell_2 : decode b_M_tell 2 = .ok (.putfield 48, 3) := by decide +kernel
theorem d_M_tell_5 : decode b_M_tell 5 = .ok (.aload_n 0, 1) := by decide +kernel
theorem d_M_tell_6 : decode b_M_tell 6 = .ok (.getfield 51, 3) := by decide +kernel
theorem d_M_tell_9 : decode b_M_tell 9 = .ok (.istore_n 2, 1) := by decide +kernel
theorem d_M_tell_10 : decode b_M_tell 10 = .ok (.aload_n 0, 1) := by decide +kernel
theorem d_M_tell_11 : decode b_M_tell 11 = .ok (.iconst 0, 1) := by decide +kernel
theorem d_M_tell_12 : decode b_M_tell 12 = .ok (.putfield 51, 3) := by decide +kernel
theorem d_M_tell_15 : decode b_M_tell 15 = .ok (.iload_n 1, 1) := by decide +kernel
theorem d_M_tell_16 : decode b_M_tell 16 = .ok (.invokestatic 69, 3) := by decide +kernel
theorem d_M_tell_19 : decode b_M_tell 19 = .ok (.ifCond .eq 19, 3) := by decide +kernel
theorem d_M_tell_22 : decode b_M_tell 22 = .ok (.iload_n 2, 1) := by decide +kernel
theorem d_M_tell_23 : decode b_M_tell 23 = .ok (.aload_n 0, 1) := by decide +kernel
theorem d_M_tell_24 : decode b_M_tell 24 = .ok (.getfield 13, 3) := by decide +kernel
theorem d_M_tell_27 : decode b_M_tell 27 = .ok (.if_icmp .gt 11, 3) := by decide +kernel
theorem d_M_tell_30 : decode b_M_tell 30 = .ok (.iload_n 1, 1) := by decide +kernel
theorem d_M_tell_31 : decode b_M_tell 31 = .ok (.ifCond .le 9, 3) := by decide +kernel
theorem d_M_tell_34 : decode b_M_tell 34 = .ok (.iload_n 2, 1) := by decide +kernel
theorem d_M_tell_35 : decode b_M_tell 35 = .ok (.ifCond .ne 5, 3) := by decide +kernel
theorem d_M_tell_38 : decode b_M_tell 38 = .ok (.iconst (-1), 1) := by decide +kernel
theorem d_M_tell_39 : decode b_M_tell 39 = .ok (.ireturn, 1) := by decide +kernel
theorem d_M_tell_40 : decode b_M_tell 40 = .ok (.aload_n 0, 1) := by decide +kernel
theorem d_M_tell_41 : decode b_M_tell 41 = .ok (.iconst 0, 1) := by decide +kernel
theorem d_M_tell_42 : decode b_M_tell 42 = .ok (.putfield 59, 3) := by decide +kernel
theorem d_M_tell_45 : decode b_M_tell 45 = .ok (.iload_n 1, 1) := by decide +kernel
theorem d_M_tell_46 : decode b_M_tell 46 = .ok (.ifCond .ne 8, 3) := by decide +kernel
theorem d_M_tell_49 : decode b_M_tell 49 = .ok (.aload_n 0, 1) := by decide +kernel
theorem d_M_tell_50 : decode b_M_tell 50 = .ok (.iload_n 2, 1) := by decide +kernel
theorem d_M_tell_51 : decode b_M_tell 51 = .ok (.invokevirtual 73, 3) := by decide +kernel
theorem d_M_tell_54 : decode b_M_tell 54 = .ok (.ldc 76, 2) := by decide +kernel
theorem d_M_tell_56 : decode b_M_tell 56 = .ok (.istore_n 3, 1) := by decide +kernel
theorem d_M_tell_57 : decode b_M_tell 57 = .ok (.iconst 0, 1) := by decide +kernel
theorem d_M_tell_58 : decode b_M_tell 58 = .ok (.istore 4, 2) := by decide +kernel
theorem d_M_tell_60 : decode b_M_tell 60 = .ok (.iload 4, 2) := by decide +kernel
theorem d_M_tell_62 : decode b_M_tell 62 = .ok (.iload_n 2, 1) := by decide +kernel
theorem d_M_tell_63 : decode b_M_tell 63 = .ok (.if_icmp .ge 37, 3) := by decide +kernel
theorem d_M_tell_66 : decode b_M_tell 66 = .ok (.iload_n 1, 1) := by decide +kernel
theorem d_M_tell_67 : decode b_M_tell 67 = .ok (.ifCond .le 33, 3) := by decide +kernel
theorem d_M_tell_70 : decode b_M_tell 70 = .ok (.aload_n 0, 1) := by decide +kernel
theorem d_M_tell_71 : decode b_M_tell 71 = .ok (.iload_n 1, 1) := by decide +kernel
theorem d_M_tell_72 : decode b_M_tell 72 = .ok (.aload_n 0, 1) := by decide +kernel
theorem d_M_tell_73 : decode b_M_tell 73 = .ok (.getfield 7, 3) := by decide +kernel
theorem d_M_tell_76 : decode b_M_tell 76 = .ok (.iload 4, 2) := by decide +kernel
theorem d_M_tell_78 : decode b_M_tell 78 = .ok (.iaload, 1) := by decide +kernel
theorem d_M_tell_79 : decode b_M_tell 79 = .ok (.invokevirtual 77, 3) := by decide +kernel
theorem d_M_tell_82 : decode b_M_tell 82 = .ok (.iload_n 3, 1) := by decide +kernel
theorem d_M_tell_83 : decode b_M_tell 83 = .ok (.aload_n 0, 1) := by decide +kernel
theorem d_M_tell_84 : decode b_M_tell 84 = .ok (.getfield 7, 3) := by decide +kernel
theorem d_M_tell_87 : decode b_M_tell 87 = .ok (.iload 4, 2) := by decide +kernel
theorem d_M_tell_89 : decode b_M_tell 89 = .ok (.iaload, 1) := by decide +kernel
theorem d_M_tell_90 : decode b_M_tell 90 = .ok (.invokestatic 81, 3) := by decide +kernel
theorem d_M_tell_93 : decode b_M_tell 93 = .ok (.istore_n 3, 1) := by decide +kernel
theorem d_M_tell_94 : decode b_M_tell 94 = .ok (.iinc 4 1, 3) := by decide +kernel
theorem d_M_tell_97 : decode b_M_tell 97 = .ok (.goto (-37), 3) := by decide +kernel
theorem d_M_tell_100 : decode b_M_tell 100 = .ok (.iload_n 1, 1) := by decide +kernel
theorem d_M_tell_101 : decode b_M_tell 101 = .ok (.iconst 2, 1) := by decide +kernel
theorem d_M_tell_102 : decode b_M_tell 102 = .ok (.if_icmp .ne 30, 3) := by decide +kernel
theorem d_M_tell_105 : decode b_M_tell 105 = .ok (.aload_n 0, 1) := by decide +kernel
theorem d_M_tell_106 : decode b_M_tell 106 = .ok (.iconst 2, 1) := by decide +kernel
theorem d_M_tell_107 : decode b_M_tell 107 = .ok (.iload_n 3, 1) := by decide +kernel
theorem d_M_tell_108 : decode b_M_tell 108 = .ok (.iconst (-1), 1) := by decide +kernel
theorem d_M_tell_109 : decode b_M_tell 109 = .ok (.ixor, 1) := by decide +kernel
theorem d_M_tell_110 : decode b_M_tell 110 = .ok (.sipush 255, 3) := by decide +kernel
theorem d_M_tell_113 : decode b_M_tell 113 = .ok (.iand, 1) := by decide +kernel
theorem d_M_tell_114 : decode b_M_tell 114 = .ok (.invokevirtual 77, 3) := by decide +kernel
theorem d_M_tell_117 : decode b_M_tell 117 = .ok (.aload_n 0, 1) := by decide +kernel
theorem d_M_tell_118 : decode b_M_tell 118 = .ok (.iconst 2, 1) := by decide +kernel
theorem d_M_tell_119 : decode b_M_tell 119 = .ok (.iload_n 3, 1) := by decide +kernel
theorem d_M_tell_120 : decode b_M_tell 120 = .ok (.iconst (-1), 1) := by decide +kernel
theorem d_M_tell_121 : decode b_M_tell 121 = .ok (.ixor, 1) := by decide +kernel
theorem d_M_tell_122 : decode b_M_tell 122 = .ok (.bipush 8, 2) := by decide +kernel
theorem d_M_tell_124 : decode b_M_tell 124 = .ok (.ishr, 1) := by decide +kernel
theorem d_M_tell_125 : decode b_M_tell 125 = .ok (.sipush 255, 3) := by decide +kernel
theorem d_M_tell_128 : decode b_M_tell 128 = .ok (.iand, 1) := by decide +kernel
theorem d_M_tell_129 : decode b_M_tell 129 = .ok (.invokevirtual 77, 3) := by decide +kernel
theorem d_M_tell_132 : decode b_M_tell 132 = .ok (.aload_n 0, 1) := by decide +kernel
theorem d_M_tell_133 : decode b_M_tell 133 = .ok (.iload_n 1, 1) := by decide +kernel
theorem d_M_tell_134 : decode b_M_tell 134 = .ok (.ifCond .ne 7, 3) := by decide +kernel
theorem d_M_tell_137 : decode b_M_tell 137 = .ok (.iconst 0, 1) := by decide +kernel
theorem d_M_tell_138 : decode b_M_tell 138 = .ok (.goto 16, 3) := by decide +kernel
theorem d_M_tell_141 : decode b_M_tell 141 = .ok (.iload_n 1, 1) := by decide +kernel
theorem d_M_tell_142 : decode b_M_tell 142 = .ok (.iconst 1, 1) := by decide +kernel
theorem d_M_tell_143 : decode b_M_tell 143 = .ok (.if_icmp .ne 9, 3) := by decide +kernel
theorem d_M_tell_146 : decode b_M_tell 146 = .ok (.sipush 192, 3) := by decide +kernel
theorem d_M_tell_149 : decode b_M_tell 149 = .ok (.goto 5, 3) := by decide +kernel
theorem d_M_tell_152 : decode b_M_tell 152 = .ok (.bipush 126, 2) := by decide +kernel
theorem d_M_tell_154 : decode b_M_tell 154 = .ok (.invokevirtual 62, 3) := by decide +kernel
theorem d_M_tell_157 : decode b_M_tell 157 = .ok (.aload_n 0, 1) := by decide +kernel
theorem d_M_tell_158 : decode b_M_tell 158 = .ok (.getfield 84, 3) := by decide +kernel
theorem d_M_tell_161 : decode b_M_tell 161 = .ok (.aload_n 0, 1) := by decide +kernel
theorem d_M_tell_162 : decode b_M_tell 162 = .ok (.getfield 59, 3) := by decide +kernel
theorem d_M_tell_165 : decode b_M_tell 165 = .ok (.iadd, 1) := by decide +kernel
theorem d_M_tell_166 : decode b_M_tell 166 = .ok (.sipush 2000, 3) := by decide +kernel
theorem d_M_tell_169 : decode b_M_tell 169 = .ok (.if_icmp .le 5, 3) := by decide +kernel
theorem d_M_tell_172 : decode b_M_tell 172 = .ok (.iconst (-1), 1) := by decide +kernel
theorem d_M_tell_173 : decode b_M_tell 173 = .ok (.ireturn, 1) := by decide +kernel
theorem d_M_tell_174 : decode b_M_tell 174 = .ok (.iconst 0, 1) := by decide +kernel
theorem d_M_tell_175 : decode b_M_tell 175 = .ok (.istore 4, 2) := by decide +kernel
theorem d_M_tell_177 : decode b_M_tell 177 = .ok (.iload 4, 2) := by decide +kernel
theorem d_M_tell_179 : decode b_M_tell 179 = .ok (.aload_n 0, 1) := by decide +kernel
theorem d_M_tell_180 : decode b_M_tell 180 = .ok (.getfield 59, 3) := by decide +kernel
theorem d_M_tell_183 : decode b_M_tell 183 = .ok (.if_icmp .ge 28, 3) := by decide +kernel
theorem d_M_tell_186 : decode b_M_tell 186 = .ok (.aload_n 0, 1) := by decide +kernel
theorem d_M_tell_187 : decode b_M_tell 187 = .ok (.getfield 17, 3) := by decide +kernel
theorem d_M_tell_190 : decode b_M_tell 190 = .ok (.aload_n 0, 1) := by decide +kernel
theorem d_M_tell_191 : decode b_M_tell 191 = .ok (.getfield 84, 3) := by decide +kernel
theorem d_M_tell_194 : decode b_M_tell 194 = .ok (.iload 4, 2) := by decide +kernel
theorem d_M_tell_196 : decode b_M_tell 196 = .ok (.iadd, 1) := by decide +kernel
theorem d_M_tell_197 : decode b_M_tell 197 = .ok (.aload_n 0, 1) := by decide +kernel
theorem d_M_tell_198 : decode b_M_tell 198 = .ok (.getfield 20, 3) := by decide +kernel
theorem d_M_tell_201 : decode b_M_tell 201 = .ok (.iload 4, 2) := by decide +kernel
theorem d_M_tell_203 : decode b_M_tell 203 = .ok (.iaload, 1) := by decide +kernel
theorem d_M_tell_204 : decode b_M_tell 204 = .ok (.iastore, 1) := by decide +kernel
theorem d_M_tell_205 : decode b_M_tell 205 = .ok (.iinc 4 1, 3) := by decide +kernel
theorem d_M_tell_208 : decode b_M_tell 208 = .ok (.goto (-31), 3) := by decide +kernel
theorem d_M_tell_211 : decode b_M_tell 211 = .ok (.aload_n 0, 1) := by decide +kernel
theorem d_M_tell_212 : decode b_M_tell 212 = .ok (.dup, 1) := by decide +kernel
theorem d_M_tell_213 : decode b_M_tell 213 = .ok (.getfield 84, 3) := by decide +kernel
theorem d_M_tell_216 : decode b_M_tell 216 = .ok (.aload_n 0, 1) := by decide +kernel
theorem d_M_tell_217 : decode b_M_tell 217 = .ok (.getfield 59, 3) := by decide +kernel
theorem d_M_tell_220 : decode b_M_tell 220 = .ok (.iadd, 1) := by decide +kernel
theorem d_M_tell_221 : decode b_M_tell 221 = .ok (.putfield 84, 3) := by decide +kernel
theorem d_M_tell_224 : decode b_M_tell 224 = .ok (.aload_n 0, 1) := by decide +kernel
theorem d_M_tell_225 : decode b_M_tell 225 = .ok (.getfield 84, 3) := by decide +kernel
theorem d_M_tell_228 : decode b_M_tell 228 = .ok (.ireturn, 1) := by decide +kernel
theorem d_M_written_0 : decode b_M_written 0 = .ok (.aload_n 0, 1) := by decide +kernel
theorem d_M_written_1 : decode b_M_written 1 = .ok (.iconst 0, 1) := by decide +kernel
theorem d_M_written_2 : decode b_M_written 2 = .ok (.putfield 48, 3) := by decide +kernel
theorem d_M_written_5 : decode b_M_written 5 = .ok (.aload_n 0, 1) := by decide +kernel
theorem d_M_written_6 : decode b_M_written 6 = .ok (.getfield 84, 3) := by decide +kernel
theorem d_M_written_9 : decode b_M_written 9 = .ok (.ireturn, 1) := by decide +kernel
theorem d_M_writtenAt_0 : decode b_M_writtenAt 0 = .ok (.aload_n 0, 1) := by decide +kernel
theorem d_M_writtenAt_1 : decode b_M_writtenAt 1 = .ok (.iconst 0, 1) := by decide +kernel
theorem d_M_writtenAt_2 : decode b_M_writtenAt 2 = .ok (.putfield 48, 3) := by decide +kernel
theorem d_M_writtenAt_5 : decode b_M_writtenAt 5 = .ok (.iload_n 1, 1) := by decide +kernel
theorem d_M_writtenAt_6 : decode b_M_writtenAt 6 = .ok (.ifCond .lt 20, 3) := by decide +kernel
theorem d_M_writtenAt_9 : decode b_M_writtenAt 9 = .ok (.iload_n 1, 1) := by decide +kernel
theorem d_M_writtenAt_10 : decode b_M_writtenAt 10 = .ok (.aload_n 0, 1) := by decide +kernel
theorem d_M_writtenAt_11 : decode b_M_writtenAt 11 = .ok (.getfield 84, 3) := by decide +kernel
theorem d_M_writtenAt_14 : decode b_M_writtenAt 14 = .ok (.if_icmp .ge 12, 3) := by decide +kernel
theorem d_M_writtenAt_17 : decode b_M_writtenAt 17 = .ok (.aload_n 0, 1) := by decide +kernel
theorem d_M_writtenAt_18 : decode b_M_writtenAt 18 = .ok (.getfield 17, 3) := by decide +kernel
theorem d_M_writtenAt_21 : decode b_M_writtenAt 21 = .ok (.iload_n 1, 1) := by decide +kernel
theorem d_M_writtenAt_22 : decode b_M_writtenAt 22 = .ok (.iaload, 1) := by decide +kernel
theorem d_M_writtenAt_23 : decode b_M_writtenAt 23 = .ok (.goto 4, 3) := by decide +kernel
theorem d_M_writtenAt_26 : decode b_M_writtenAt 26 = .ok (.iconst (-1), 1) := by decide +kernel
theorem d_M_writtenAt_27 : decode b_M_writtenAt 27 = .ok (.ireturn, 1) := by decide +kernel
theorem d_M_spoil_0 : decode b_M_spoil 0 = .ok (.aload_n 0, 1) := by decide +kernel
theorem d_M_spoil_1 : decode b_M_spoil 1 = .ok (.iconst 0, 1) := by decide +kernel
theorem d_M_spoil_2 : decode b_M_spoil 2 = .ok (.putfield 48, 3) := by decide +kernel
theorem d_M_spoil_5 : decode b_M_spoil 5 = .ok (.iload_n 1, 1) := by decide +kernel
theorem d_M_spoil_6 : decode b_M_spoil 6 = .ok (.ifCond .lt 11, 3) := by decide +kernel
theorem d_M_spoil_9 : decode b_M_spoil 9 = .ok (.iload_n 1, 1) := by decide +kernel
theorem d_M_spoil_10 : decode b_M_spoil 10 = .ok (.aload_n 0, 1) := by decide +kernel
theorem d_M_spoil_11 : decode b_M_spoil 11 = .ok (.getfield 84, 3) := by decide +kernel
theorem d_M_spoil_14 : decode b_M_spoil 14 = .ok (.if_icmp .lt 5, 3) := by decide +kernel
theorem d_M_spoil_17 : decode b_M_spoil 17 = .ok (.iconst 0, 1) := by decide +kernel
theorem d_M_spoil_18 : decode b_M_spoil 18 = .ok (.ireturn, 1) := by decide +kernel
theorem d_M_spoil_19 : decode b_M_spoil 19 = .ok (.aload_n 0, 1) := by decide +kernel
theorem d_M_spoil_20 : decode b_M_spoil 20 = .ok (.getfield 17, 3) := by decide +kernel
theorem d_M_spoil_23 : decode b_M_spoil 23 = .ok (.iload_n 1, 1) := by decide +kernel
theorem d_M_spoil_24 : decode b_M_spoil 24 = .ok (.aload_n 0, 1) := by decide +kernel
theorem d_M_spoil_25 : decode b_M_spoil 25 = .ok (.getfield 17, 3) := by decide +kernel
theorem d_M_spoil_28 : decode b_M_spoil 28 = .ok (.iload_n 1, 1) := by decide +kernel
theorem d_M_spoil_29 : decode b_M_spoil 29 = .ok (.iaload, 1) := by decide +kernel
theorem d_M_spoil_30 : decode b_M_spoil 30 = .ok (.iload_n 2, 1) := by decide +kernel
theorem d_M_spoil_31 : decode b_M_spoil 31 = .ok (.sipush 255, 3) := by decide +kernel
theorem d_M_spoil_34 : decode b_M_spoil 34 = .ok (.iand, 1) := by decide +kernel
theorem d_M_spoil_35 : decode b_M_spoil 35 = .ok (.ixor, 1) := by decide +kernel
theorem d_M_spoil_36 : decode b_M_spoil 36 = .ok (.iastore, 1) := by decide +kernel
theorem d_M_spoil_37 : decode b_M_spoil 37 = .ok (.iconst 1, 1) := by decide +kernel
theorem d_M_spoil_38 : decode b_M_spoil 38 = .ok (.ireturn, 1) := by decide +kernel
theorem d_M_keep_0 : decode b_M_keep 0 = .ok (.aload_n 0, 1) := by decide +kernel
theorem d_M_keep_1 : decode b_M_keep 1 = .ok (.getfield 26, 3) := by decide +kernel
theorem d_M_keep_4 : decode b_M_keep 4 = .ok (.iload_n 1, 1) := by decide +kernel
theorem d_M_keep_5 : decode b_M_keep 5 = .ok (.iaload, 1) := by decide +kernel
theorem d_M_keep_6 : decode b_M_keep 6 = .ok (.sipush 400, 3) := by decide +kernel
theorem d_M_keep_9 : decode b_M_keep 9 = .ok (.if_icmp .ge 21, 3) := by decide +kernel
theorem d_M_keep_12 : decode b_M_keep 12 = .ok (.aload_n 0, 1) := by decide +kernel
theorem d_M_keep_13 : decode b_M_keep 13 = .ok (.getfield 29, 3) := by decide +kernel
theorem d_M_keep_16 : decode b_M_keep 16 = .ok (.sipush 400, 3) := by decide +kernel
theorem d_M_keep_19 : decode b_M_keep 19 = .ok (.iload_n 1, 1) := by decide +kernel
theorem d_M_keep_20 : decode b_M_keep 20 = .ok (.imul, 1) := by decide +kernel
theorem d_M_keep_21 : decode b_M_keep 21 = .ok (.aload_n 0, 1) := by decide +kernel
theorem d_M_keep_22 : decode b_M_keep 22 = .ok (.getfield 26, 3) := by decide +kernel
theorem d_M_keep_25 : decode b_M_keep 25 = .ok (.iload_n 1, 1) := by decide +kernel
theorem d_M_keep_26 : decode b_M_keep 26 = .ok (.iaload, 1) := by decide +kernel
theorem d_M_keep_27 : decode b_M_keep 27 = .ok (.iadd, 1) := by decide +kernel
theorem d_M_keep_28 : decode b_M_keep 28 = .ok (.iload_n 2, 1) := by decide +kernel
theorem d_M_keep_29 : decode b_M_keep 29 = .ok (.iastore, 1) := by decide +kernel
theorem d_M_keep_30 : decode b_M_keep 30 = .ok (.aload_n 0, 1) := by decide +kernel
theorem d_M_keep_31 : decode b_M_keep 31 = .ok (.getfield 26, 3) := by decide +kernel
theorem d_M_keep_34 : decode b_M_keep 34 = .ok (.iload_n 1, 1) := by decide +kernel
theorem d_M_keep_35 : decode b_M_keep 35 = .ok (.dup2, 1) := by decide +kernel
theorem d_M_keep_36 : decode b_M_keep 36 = .ok (.iaload, 1) := by decide +kernel
theorem d_M_keep_37 : decode b_M_keep 37 = .ok (.iconst 1, 1) := by decide +kernel
theorem d_M_keep_38 : decode b_M_keep 38 = .ok (.iadd, 1) := by decide +kernel
theorem d_M_keep_39 : decode b_M_keep 39 = .ok (.iastore, 1) := by decide +kernel
theorem d_M_keep_40 : decode b_M_keep 40 = .ok (.return_, 1) := by decide +kernel
theorem d_M_comeGroup_0 : decode b_M_comeGroup 0 = .ok (.aload_n 0, 1) := by decide +kernel
theorem d_M_comeGroup_1 : decode b_M_comeGroup 1 = .ok (.getfield 87, 3) := by decide +kernel
theorem d_M_comeGroup_4 : decode b_M_comeGroup 4 = .ok (.ifCond .le 20, 3) := by decide +kernel
theorem d_M_comeGroup_7 : decode b_M_comeGroup 7 = .ok (.aload_n 0, 1) := by decide +kernel
theorem d_M_comeGroup_8 : decode b_M_comeGroup 8 = .ok (.dup, 1) := by decide +kernel
theorem d_M_comeGroup_9 : decode b_M_comeGroup 9 = .ok (.getfield 87, 3) := by decide +kernel
theorem d_M_comeGroup_12 : decode b_M_comeGroup 12 = .ok (.iconst 1, 1) := by decide +kernel
