theorem d_CW_forgetChunk_8 : decode b_CW_forgetChunk 8 = .ok (.putfield 16, 3) := by decide +kernel
theorem d_CW_forgetChunk_11 : decode b_CW_forgetChunk 11 = .ok (.aload_n 0, 1) := by decide +kernel
theorem d_CW_forgetChunk_12 : decode b_CW_forgetChunk 12 = .ok (.iconst 0, 1) := by decide +kernel
theorem d_CW_forgetChunk_13 : decode b_CW_forgetChunk 13 = .ok (.putfield 20, 3) := by decide +kernel
theorem d_CW_forgetChunk_16 : decode b_CW_forgetChunk 16 = .ok (.aload_n 0, 1) := by decide +kernel
theorem d_CW_forgetChunk_17 : decode b_CW_forgetChunk 17 = .ok (.iconst 0, 1) := by decide +kernel
theorem d_CW_forgetChunk_18 : decode b_CW_forgetChunk 18 = .ok (.putfield 23, 3) := by decide +kernel
theorem d_CW_forgetChunk_21 : decode b_CW_forgetChunk 21 = .ok (.aload_n 0, 1) := by decide +kernel
theorem d_CW_forgetChunk_22 : decode b_CW_forgetChunk 22 = .ok (.iconst 0, 1) := by decide +kernel
theorem d_CW_forgetChunk_23 : decode b_CW_forgetChunk 23 = .ok (.putfield 26, 3) := by decide +kernel
theorem d_CW_forgetChunk_26 : decode b_CW_forgetChunk 26 = .ok (.return_, 1) := by decide +kernel
theorem d_EW_init_0 : decode b_EW_init 0 = .ok (.aload_n 0, 1) := by decide +kernel
theorem d_EW_init_1 : decode b_EW_init 1 = .ok (.sipush 192, 3) := by decide +kernel
theorem d_EW_init_4 : decode b_EW_init 4 = .ok (.iconst 0, 1) := by decide +kernel
theorem d_EW_init_5 : decode b_EW_init 5 = .ok (.invokespecial 3, 3) := by decide +kernel
theorem d_EW_init_8 : decode b_EW_init 8 = .ok (.aload_n 0, 1) := by decide +kernel
theorem d_EW_init_9 : decode b_EW_init 9 = .ok (.iconst 0, 1) := by decide +kernel
theorem d_EW_init_10 : decode b_EW_init 10 = .ok (.putfield 9, 3) := by decide +kernel
theorem d_EW_init_13 : decode b_EW_init 13 = .ok (.return_, 1) := by decide +kernel
theorem d_EW_frame_0 : decode b_EW_frame 0 = .ok (.aload_n 1, 1) := by decide +kernel
theorem d_EW_frame_1 : decode b_EW_frame 1 = .ok (.getfield 13, 3) := by decide +kernel
theorem d_EW_frame_4 : decode b_EW_frame 4 = .ok (.istore_n 3, 1) := by decide +kernel
theorem d_EW_frame_5 : decode b_EW_frame 5 = .ok (.iconst 0, 1) := by decide +kernel
theorem d_EW_frame_6 : decode b_EW_frame 6 = .ok (.istore 4, 2) := by decide +kernel
theorem d_EW_frame_8 : decode b_EW_frame 8 = .ok (.iload 4, 2) := by decide +kernel
theorem d_EW_frame_10 : decode b_EW_frame 10 = .ok (.iload_n 3, 1) := by decide +kernel
theorem d_EW_frame_11 : decode b_EW_frame 11 = .ok (.if_icmp .ge 19, 3) := by decide +kernel
theorem d_EW_frame_14 : decode b_EW_frame 14 = .ok (.aload_n 1, 1) := by decide +kernel
theorem d_EW_frame_15 : decode b_EW_frame 15 = .ok (.iload 4, 2) := by decide +kernel
theorem d_EW_frame_17 : decode b_EW_frame 17 = .ok (.invokevirtual 19, 3) := by decide +kernel
theorem d_EW_frame_20 : decode b_EW_frame 20 = .ok (.aload_n 2, 1) := by decide +kernel
theorem d_EW_frame_21 : decode b_EW_frame 21 = .ok (.invokestatic 23, 3) := by decide +kernel
theorem d_EW_frame_24 : decode b_EW_frame 24 = .ok (.iinc 4 1, 3) := by decide +kernel
theorem d_EW_frame_27 : decode b_EW_frame 27 = .ok (.goto (-19), 3) := by decide +kernel
theorem d_EW_frame_30 : decode b_EW_frame 30 = .ok (.aload_n 2, 1) := by decide +kernel
theorem d_EW_frame_31 : decode b_EW_frame 31 = .ok (.sipush 192, 3) := by decide +kernel
theorem d_EW_frame_34 : decode b_EW_frame 34 = .ok (.invokevirtual 27, 3) := by decide +kernel
theorem d_EW_frame_37 : decode b_EW_frame 37 = .ok (.return_, 1) := by decide +kernel
theorem d_EW_writeByte_0 : decode b_EW_writeByte 0 = .ok (.iload_n 0, 1) := by decide +kernel
theorem d_EW_writeByte_1 : decode b_EW_writeByte 1 = .ok (.sipush 192, 3) := by decide +kernel
theorem d_EW_writeByte_4 : decode b_EW_writeByte 4 = .ok (.if_icmp .ne 20, 3) := by decide +kernel
theorem d_EW_writeByte_7 : decode b_EW_writeByte 7 = .ok (.aload_n 1, 1) := by decide +kernel
theorem d_EW_writeByte_8 : decode b_EW_writeByte 8 = .ok (.sipush 219, 3) := by decide +kernel
theorem d_EW_writeByte_11 : decode b_EW_writeByte 11 = .ok (.invokevirtual 27, 3) := by decide +kernel
theorem d_EW_writeByte_14 : decode b_EW_writeByte 14 = .ok (.aload_n 1, 1) := by decide +kernel
theorem d_EW_writeByte_15 : decode b_EW_writeByte 15 = .ok (.sipush 220, 3) := by decide +kernel
theorem d_EW_writeByte_18 : decode b_EW_writeByte 18 = .ok (.invokevirtual 27, 3) := by decide +kernel
theorem d_EW_writeByte_21 : decode b_EW_writeByte 21 = .ok (.goto 32, 3) := by decide +kernel
theorem d_EW_writeByte_24 : decode b_EW_writeByte 24 = .ok (.iload_n 0, 1) := by decide +kernel
theorem d_EW_writeByte_25 : decode b_EW_writeByte 25 = .ok (.sipush 219, 3) := by decide +kernel
theorem d_EW_writeByte_28 : decode b_EW_writeByte 28 = .ok (.if_icmp .ne 20, 3) := by decide +kernel
theorem d_EW_writeByte_31 : decode b_EW_writeByte 31 = .ok (.aload_n 1, 1) := by decide +kernel
theorem d_EW_writeByte_32 : decode b_EW_writeByte 32 = .ok (.sipush 219, 3) := by decide +kernel
theorem d_EW_writeByte_35 : decode b_EW_writeByte 35 = .ok (.invokevirtual 27, 3) := by decide +kernel
theorem d_EW_writeByte_38 : decode b_EW_writeByte 38 = .ok (.aload_n 1, 1) := by decide +kernel
theorem d_EW_writeByte_39 : decode b_EW_writeByte 39 = .ok (.sipush 221, 3) := by decide +kernel
theorem d_EW_writeByte_42 : decode b_EW_writeByte 42 = .ok (.invokevirtual 27, 3) := by decide +kernel
theorem d_EW_writeByte_45 : decode b_EW_writeByte 45 = .ok (.goto 8, 3) := by decide +kernel
theorem d_EW_writeByte_48 : decode b_EW_writeByte 48 = .ok (.aload_n 1, 1) := by decide +kernel
theorem d_EW_writeByte_49 : decode b_EW_writeByte 49 = .ok (.iload_n 0, 1) := by decide +kernel
theorem d_EW_writeByte_50 : decode b_EW_writeByte 50 = .ok (.invokevirtual 27, 3) := by decide +kernel
theorem d_EW_writeByte_53 : decode b_EW_writeByte 53 = .ok (.return_, 1) := by decide +kernel
theorem d_EW_decode_0 : decode b_EW_decode 0 = .ok (.aload_n 0, 1) := by decide +kernel
theorem d_EW_decode_1 : decode b_EW_decode 1 = .ok (.getfield 9, 3) := by decide +kernel
theorem d_EW_decode_4 : decode b_EW_decode 4 = .ok (.ifCond .eq 16, 3) := by decide +kernel
theorem d_EW_decode_7 : decode b_EW_decode 7 = .ok (.aload_n 0, 1) := by decide +kernel
theorem d_EW_decode_8 : decode b_EW_decode 8 = .ok (.iconst 0, 1) := by decide +kernel
theorem d_EW_decode_9 : decode b_EW_decode 9 = .ok (.putfield 9, 3) := by decide +kernel
theorem d_EW_decode_12 : decode b_EW_decode 12 = .ok (.aload_n 0, 1) := by decide +kernel
theorem d_EW_decode_13 : decode b_EW_decode 13 = .ok (.iload_n 1, 1) := by decide +kernel
theorem d_EW_decode_14 : decode b_EW_decode 14 = .ok (.invokevirtual 31, 3) := by decide +kernel
theorem d_EW_decode_17 : decode b_EW_decode 17 = .ok (.goto 26, 3) := by decide +kernel
theorem d_EW_decode_20 : decode b_EW_decode 20 = .ok (.iload_n 1, 1) := by decide +kernel
theorem d_EW_decode_21 : decode b_EW_decode 21 = .ok (.sipush 219, 3) := by decide +kernel
theorem d_EW_decode_24 : decode b_EW_decode 24 = .ok (.if_icmp .ne 11, 3) := by decide +kernel
theorem d_EW_decode_27 : decode b_EW_decode 27 = .ok (.aload_n 0, 1) := by decide +kernel
theorem d_EW_decode_28 : decode b_EW_decode 28 = .ok (.iconst 1, 1) := by decide +kernel
theorem d_EW_decode_29 : decode b_EW_decode 29 = .ok (.putfield 9, 3) := by decide +kernel
theorem d_EW_decode_32 : decode b_EW_decode 32 = .ok (.goto 11, 3) := by decide +kernel
theorem d_EW_decode_35 : decode b_EW_decode 35 = .ok (.aload_n 0, 1) := by decide +kernel
theorem d_EW_decode_36 : decode b_EW_decode 36 = .ok (.getfield 34, 3) := by decide +kernel
theorem d_EW_decode_39 : decode b_EW_decode 39 = .ok (.iload_n 1, 1) := by decide +kernel
theorem d_EW_decode_40 : decode b_EW_decode 40 = .ok (.invokevirtual 27, 3) := by decide +kernel
theorem d_EW_decode_43 : decode b_EW_decode 43 = .ok (.return_, 1) := by decide +kernel
theorem d_EW_decodeEscaped_0 : decode b_EW_decodeEscaped 0 = .ok (.iload_n 1, 1) := by decide +kernel
theorem d_EW_decodeEscaped_1 : decode b_EW_decodeEscaped 1 = .ok (.sipush 220, 3) := by decide +kernel
theorem d_EW_decodeEscaped_4 : decode b_EW_decodeEscaped 4 = .ok (.if_icmp .ne 16, 3) := by decide +kernel
theorem d_EW_decodeEscaped_7 : decode b_EW_decodeEscaped 7 = .ok (.aload_n 0, 1) := by decide +kernel
theorem d_EW_decodeEscaped_8 : decode b_EW_decodeEscaped 8 = .ok (.getfield 34, 3) := by decide +kernel
theorem d_EW_decodeEscaped_11 : decode b_EW_decodeEscaped 11 = .ok (.sipush 192, 3) := by decide +kernel
theorem d_EW_decodeEscaped_14 : decode b_EW_decodeEscaped 14 = .ok (.invokevirtual 27, 3) := by decide +kernel
theorem d_EW_decodeEscaped_17 : decode b_EW_decodeEscaped 17 = .ok (.goto 28, 3) := by decide +kernel
theorem d_EW_decodeEscaped_20 : decode b_EW_decodeEscaped 20 = .ok (.iload_n 1, 1) := by decide +kernel
theorem d_EW_decodeEscaped_21 : decode b_EW_decodeEscaped 21 = .ok (.sipush 221, 3) := by decide +kernel
theorem d_EW_decodeEscaped_24 : decode b_EW_decodeEscaped 24 = .ok (.if_icmp .ne 16, 3) := by decide +kernel
theorem d_EW_decodeEscaped_27 : decode b_EW_decodeEscaped 27 = .ok (.aload_n 0, 1) := by decide +kernel
theorem d_EW_decodeEscaped_28 : decode b_EW_decodeEscaped 28 = .ok (.getfield 34, 3) := by decide +kernel
theorem d_EW_decodeEscaped_31 : decode b_EW_decodeEscaped 31 = .ok (.sipush 219, 3) := by decide +kernel
theorem d_EW_decodeEscaped_34 : decode b_EW_decodeEscaped 34 = .ok (.invokevirtual 27, 3) := by decide +kernel
theorem d_EW_decodeEscaped_37 : decode b_EW_decodeEscaped 37 = .ok (.goto 8, 3) := by decide +kernel
theorem d_EW_decodeEscaped_40 : decode b_EW_decodeEscaped 40 = .ok (.aload_n 0, 1) := by decide +kernel
theorem d_EW_decodeEscaped_41 : decode b_EW_decodeEscaped 41 = .ok (.iconst 1, 1) := by decide +kernel
theorem d_EW_decodeEscaped_42 : decode b_EW_decodeEscaped 42 = .ok (.putfield 38, 3) := by decide +kernel
theorem d_EW_decodeEscaped_45 : decode b_EW_decodeEscaped 45 = .ok (.return_, 1) := by decide +kernel
theorem d_EW_isWhole_0 : decode b_EW_isWhole 0 = .ok (.aload_n 0, 1) := by decide +kernel
theorem d_EW_isWhole_1 : decode b_EW_isWhole 1 = .ok (.getfield 9, 3) := by decide +kernel
theorem d_EW_isWhole_4 : decode b_EW_isWhole 4 = .ok (.ifCond .ne 7, 3) := by decide +kernel
theorem d_EW_isWhole_7 : decode b_EW_isWhole 7 = .ok (.iconst 1, 1) := by decide +kernel
theorem d_EW_isWhole_8 : decode b_EW_isWhole 8 = .ok (.goto 4, 3) := by decide +kernel
theorem d_EW_isWhole_11 : decode b_EW_isWhole 11 = .ok (.iconst 0, 1) := by decide +kernel
theorem d_EW_isWhole_12 : decode b_EW_isWhole 12 = .ok (.ireturn, 1) := by decide +kernel
theorem d_EW_forgetChunk_0 : decode b_EW_forgetChunk 0 = .ok (.aload_n 0, 1) := by decide +kernel
theorem d_EW_forgetChunk_1 : decode b_EW_forgetChunk 1 = .ok (.iconst 0, 1) := by decide +kernel
theorem d_EW_forgetChunk_2 : decode b_EW_forgetChunk 2 = .ok (.putfield 9, 3) := by decide +kernel
theorem d_EW_forgetChunk_5 : decode b_EW_forgetChunk 5 = .ok (.return_, 1) := by decide +kernel
theorem d_GW_init_0 : decode b_GW_init 0 = .ok (.aload_n 0, 1) := by decide +kernel
theorem d_GW_init_1 : decode b_GW_init 1 = .ok (.iconst 0, 1) := by decide +kernel
theorem d_GW_init_2 : decode b_GW_init 2 = .ok (.iconst 1, 1) := by decide +kernel
theorem d_GW_init_3 : decode b_GW_init 3 = .ok (.invokespecial 3, 3) := by decide +kernel
theorem d_GW_init_6 : decode b_GW_init 6 = .ok (.aload_n 0, 1) := by decide +kernel
theorem d_GW_init_7 : decode b_GW_init 7 = .ok (.iconst 0, 1) := by decide +kernel
theorem d_GW_init_8 : decode b_GW_init 8 = .ok (.putfield 9, 3) := by decide +kernel
theorem d_GW_init_11 : decode b_GW_init 11 = .ok (.aload_n 0, 1) := by decide +kernel
theorem d_GW_init_12 : decode b_GW_init 12 = .ok (.iconst 0, 1) := by decide +kernel
theorem d_GW_init_13 : decode b_GW_init 13 = .ok (.putfield 13, 3) := by decide +kernel
theorem d_GW_init_16 : decode b_GW_init 16 = .ok (.return_, 1) := by decide +kernel
theorem d_GW_frame_0 : decode b_GW_frame 0 = .ok (.aload_n 1, 1) := by decide +kernel
theorem d_GW_frame_1 : decode b_GW_frame 1 = .ok (.getfield 16, 3) := by decide +kernel
theorem d_GW_frame_4 : decode b_GW_frame 4 = .ok (.istore_n 3, 1) := by decide +kernel
theorem d_GW_frame_5 : decode b_GW_frame 5 = .ok (.iconst 0, 1) := by decide +kernel
theorem d_GW_frame_6 : decode b_GW_frame 6 = .ok (.istore 4, 2) := by decide +kernel
theorem d_GW_frame_8 : decode b_GW_frame 8 = .ok (.iconst 0, 1) := by decide +kernel
theorem d_GW_frame_9 : decode b_GW_frame 9 = .ok (.istore 5, 2) := by decide +kernel
theorem d_GW_frame_11 : decode b_GW_frame 11 = .ok (.iconst 0, 1) := by decide +kernel
theorem d_GW_frame_12 : decode b_GW_frame 12 = .ok (.istore 6, 2) := by decide +kernel
theorem d_GW_frame_14 : decode b_GW_frame 14 = .ok (.iload 6, 2) := by decide +kernel
theorem d_GW_frame_16 : decode b_GW_frame 16 = .ok (.iload_n 3, 1) := by decide +kernel
theorem d_GW_frame_17 : decode b_GW_frame 17 = .ok (.if_icmp .ge 72, 3) := by decide +kernel
theorem d_GW_frame_20 : decode b_GW_frame 20 = .ok (.aload_n 1, 1) := by decide +kernel
theorem d_GW_frame_21 : decode b_GW_frame 21 = .ok (.iload 6, 2) := by decide +kernel
theorem d_GW_frame_23 : decode b_GW_frame 23 = .ok (.invokevirtual 21, 3) := by decide +kernel
theorem d_GW_frame_26 : decode b_GW_frame 26 = .ok (.ifCond .ne 24, 3) := by decide +kernel
theorem d_GW_frame_29 : decode b_GW_frame 29 = .ok (.aload_n 1, 1) := by decide +kernel
theorem d_GW_frame_30 : decode b_GW_frame 30 = .ok (.iload 4, 2) := by decide +kernel
theorem d_GW_frame_32 : decode b_GW_frame 32 = .ok (.iload 6, 2) := by decide +kernel
theorem d_GW_frame_34 : decode b_GW_frame 34 = .ok (.aload_n 2, 1) := by decide +kernel
theorem d_GW_frame_35 : decode b_GW_frame 35 = .ok (.invokestatic 25, 3) := by decide +kernel
theorem d_GW_frame_38 : decode b_GW_frame 38 = .ok (.iload 6, 2) := by decide +kernel
theorem d_GW_frame_40 : decode b_GW_frame 40 = .ok (.iconst 1, 1) := by decide +kernel
theorem d_GW_frame_41 : decode b_GW_frame 41 = .ok (.iadd, 1) := by decide +kernel
theorem d_GW_frame_42 : decode b_GW_frame 42 = .ok (.istore 4, 2) := by decide +kernel
theorem d_GW_frame_44 : decode b_GW_frame 44 = .ok (.iconst 0, 1) := by decide +kernel
theorem d_GW_frame_45 : decode b_GW_frame 45 = .ok (.istore 5, 2) := by decide +kernel
theorem d_GW_frame_47 : decode b_GW_frame 47 = .ok (.goto 36, 3) := by decide +kernel
theorem d_GW_frame_50 : decode b_GW_frame 50 = .ok (.iload 6, 2) := by decide +kernel
theorem d_GW_frame_52 : decode b_GW_frame 52 = .ok (.iconst 1, 1) := by decide +kernel
theorem d_GW_frame_53 : decode b_GW_frame 53 = .ok (.iadd, 1) := by decide +kernel
theorem d_GW_frame_54 : decode b_GW_frame 54 = .ok (.iload 4, 2) := by decide +kernel
theorem d_GW_frame_56 : decode b_GW_frame 56 = .ok (.isub, 1) := by decide +kernel
theorem d_GW_frame_57 : decode b_GW_frame 57 = .ok (.sipush 254, 3) := by decide +kernel
theorem d_GW_frame_60 : decode b_GW_frame 60 = .ok (.if_icmp .ne 23, 3) := by decide +kernel
theorem d_GW_frame_63 : decode b_GW_frame 63 = .ok (.aload_n 1, 1) := by decide +kernel
theorem d_GW_frame_64 : decode b_GW_frame 64 = .ok (.iload 4, 2) := by decide +kernel
theorem d_GW_frame_66 : decode b_GW_frame 66 = .ok (.iload 6, 2) := by decide +kernel
theorem d_GW_frame_68 : decode b_GW_frame 68 = .ok (.iconst 1, 1) := by decide +kernel
theorem d_GW_frame_69 : decode b_GW_frame 69 = .ok (.iadd, 1) := by decide +kernel
theorem d_GW_frame_70 : decode b_GW_frame 70 = .ok (.aload_n 2, 1) := by decide +kernel
theorem d_GW_frame_71 : decode b_GW_frame 71 = .ok (.invokestatic 25, 3) := by decide +kernel
theorem d_GW_frame_74 : decode b_GW_frame 74 = .ok (.iload 6, 2) := by decide +kernel
theorem d_GW_frame_76 : decode b_GW_frame 76 = .ok (.iconst 1, 1) := by decide +kernel
theorem d_GW_frame_77 : decode b_GW_frame 77 = .ok (.iadd, 1) := by decide +kernel
theorem d_GW_frame_78 : decode b_GW_frame 78 = .ok (.istore 4, 2) := by decide +kernel
theorem d_GW_frame_80 : decode b_GW_frame 80 = .ok (.iconst 1, 1) := by decide +kernel
theorem d_GW_frame_81 : decode b_GW_frame 81 = .ok (.istore 5, 2) := by decide +kernel
theorem d_GW_frame_83 : decode b_GW_frame 83 = .ok (.iinc 6 1, 3) := by decide +kernel
theorem d_GW_frame_86 : decode b_GW_frame 86 = .ok (.goto (-72), 3) := by decide +kernel
theorem d_GW_frame_89 : decode b_GW_frame 89 = .ok (.iload 4, 2) := by decide +kernel
theorem d_GW_frame_91 : decode b_GW_frame 91 = .ok (.iload_n 3, 1) := by decide +kernel
theorem d_GW_frame_92 : decode b_GW_frame 92 = .ok (.if_icmp .lt 8, 3) := by decide +kernel
theorem d_GW_frame_95 : decode b_GW_frame 95 = .ok (.iload 5, 2) := by decide +kernel
theorem d_GW_frame_97 : decode b_GW_frame 97 = .ok (.ifCond .ne 11, 3) := by decide +kernel
theorem d_GW_frame_100 : decode b_GW_frame 100 = .ok (.aload_n 1, 1) := by decide +kernel
theorem d_GW_frame_101 : decode b_GW_frame 101 = .ok (.iload 4, 2) := by decide +kernel
theorem d_GW_frame_103 : decode b_GW_frame 103 = .ok (.iload_n 3, 1) := by decide +kernel
theorem d_GW_frame_104 : decode b_GW_frame 104 = .ok (.aload_n 2, 1) := by decide +kernel
theorem d_GW_frame_105 : decode b_GW_frame 105 = .ok (.invokestatic 25, 3) := by decide +kernel
theorem d_GW_frame_108 : decode b_GW_frame 108 = .ok (.aload_n 2, 1) := by decide +kernel
theorem d_GW_frame_109 : decode b_GW_frame 109 = .ok (.iconst 0, 1) := by decide +kernel
theorem d_GW_frame_110 : decode b_GW_frame 110 = .ok (.invokevirtual 29, 3) := by decide +kernel
theorem d_GW_frame_113 : decode b_GW_frame 113 = .ok (.return_, 1) := by decide +kernel
theorem d_GW_writeGroup_0 : decode b_GW_writeGroup 0 = .ok (.aload_n 3, 1) := by decide +kernel
theorem d_GW_writeGroup_1 : decode b_GW_writeGroup 1 = .ok (.iload_n 2, 1) := by decide +kernel
theorem d_GW_writeGroup_2 : decode b_GW_writeGroup 2 = .ok (.iload_n 1, 1) := by decide +kernel
theorem d_GW_writeGroup_3 : decode b_GW_writeGroup 3 = .ok (.isub, 1) := by decide +kernel
theorem d_GW_writeGroup_4 : decode b_GW_writeGroup 4 = .ok (.iconst 1, 1) := by decide +kernel
theorem d_GW_writeGroup_5 : decode b_GW_writeGroup 5 = .ok (.iadd, 1) := by decide +kernel
theorem d_GW_writeGroup_6 : decode b_GW_writeGroup 6 = .ok (.invokevirtual 29, 3) := by decide +kernel
theorem d_GW_writeGroup_9 : decode b_GW_writeGroup 9 = .ok (.iload_n 1, 1) := by decide +kernel
theorem d_GW_writeGroup_10 : decode b_GW_writeGroup 10 = .ok (.istore 4, 2) := by decide +kernel
theorem d_GW_writeGroup_12 : decode b_GW_writeGroup 12 = .ok (.iload 4, 2) := by decide +kernel
theorem d_GW_writeGroup_14 : decode b_GW_writeGroup 14 = .ok (.iload_n 2, 1) := by decide +kernel
theorem d_GW_writeGroup_15 : decode b_GW_writeGroup 15 = .ok (.if_icmp .ge 19, 3) := by decide +kernel
theorem d_GW_writeGroup_18 : decode b_GW_writeGroup 18 = .ok (.aload_n 3, 1) := by decide +kernel
theorem d_GW_writeGroup_19 : decode b_GW_writeGroup 19 = .ok (.aload_n 0, 1) := by decide +kernel
theorem d_GW_writeGroup_20 : decode b_GW_writeGroup 20 = .ok (.iload 4, 2) := by decide +kernel
theorem d_GW_writeGroup_22 : decode b_GW_writeGroup 22 = .ok (.invokevirtual 21, 3) := by decide +kernel
theorem d_GW_writeGroup_25 : decode b_GW_writeGroup 25 = .ok (.invokevirtual 29, 3) := by decide +kernel
theorem d_GW_writeGroup_28 : decode b_GW_writeGroup 28 = .ok (.iinc 4 1, 3) := by decide +kernel
theorem d_GW_writeGroup_31 : decode b_GW_writeGroup 31 = .ok (.goto (-19), 3) := by decide +kernel
theorem d_GW_writeGroup_34 : decode b_GW_writeGroup 34 = .ok (.return_, 1) := by decide +kernel
theorem d_GW_decode_0 : decode b_GW_decode 0 = .ok (.aload_n 0, 1) := by decide +kernel
theorem d_GW_decode_1 : decode b_GW_decode 1 = .ok (.getfield 13, 3) := by decide +kernel
theorem d_GW_decode_4 : decode b_GW_decode 4 = .ok (.ifCond .le 24, 3) := by decide +kernel
theorem d_GW_decode_7 : decode b_GW_decode 7 = .ok (.aload_n 0, 1) := by decide +kernel
theorem d_GW_decode_8 : decode b_GW_decode 8 = .ok (.getfield 33, 3) := by decide +kernel
theorem d_GW_decode_11 : decode b_GW_decode 11 = .ok (.iload_n 1, 1) := by decide +kernel
theorem d_GW_decode_12 : decode b_GW_decode 12 = .ok (.invokevirtual 29, 3) := by decide +kernel
theorem d_GW_decode_15 : decode b_GW_decode 15 = .ok (.aload_n 0, 1) := by decide +kernel
theorem d_GW_decode_16 : decode b_GW_decode 16 = .ok (.dup, 1) := by decide +kernel
theorem d_GW_decode_17 : decode b_GW_decode 17 = .ok (.getfield 13, 3) := by decide +kernel
theorem d_GW_decode_20 : decode b_GW_decode 20 = .ok (.iconst 1, 1) := by decide +kernel
theorem d_GW_decode_21 : decode b_GW_decode 21 = .ok (.isub, 1) := by decide +kernel
theorem d_GW_decode_22 : decode b_GW_decode 22 = .ok (.putfield 13, 3) := by decide +kernel
theorem d_GW_decode_25 : decode b_GW_decode 25 = .ok (.goto 8, 3) := by decide +kernel
theorem d_GW_decode_28 : decode b_GW_decode 28 = .ok (.aload_n 0, 1) := by decide +kernel
theorem d_GW_decode_29 : decode b_GW_decode 29 = .ok (.iload_n 1, 1) := by decide +kernel
theorem d_GW_decode_30 : decode b_GW_decode 30 = .ok (.invokevirtual 37, 3) := by decide +kernel
theorem d_GW_decode_33 : decode b_GW_decode 33 = .ok (.return_, 1) := by decide +kernel
theorem d_GW_beginGroup_0 : decode b_GW_beginGroup 0 = .ok (.aload_n 0, 1) := by decide +kernel
theorem d_GW_beginGroup_1 : decode b_GW_beginGroup 1 = .ok (.getfield 9, 3) := by decide +kernel
theorem d_GW_beginGroup_4 : decode b_GW_beginGroup 4 = .ok (.ifCond .eq 21, 3) := by decide +kernel
theorem d_GW_beginGroup_7 : decode b_GW_beginGroup 7 = .ok (.aload_n 0, 1) := by decide +kernel
theorem d_GW_beginGroup_8 : decode b_GW_beginGroup 8 = .ok (.getfield 9, 3) := by decide +kernel
theorem d_GW_beginGroup_11 : decode b_GW_beginGroup 11 = .ok (.sipush 255, 3) := by decide +kernel
theorem d_GW_beginGroup_14 : decode b_GW_beginGroup 14 = .ok (.if_icmp .eq 11, 3) := by decide +kernel
theorem d_GW_beginGroup_17 : decode b_GW_beginGroup 17 = .ok (.aload_n 0, 1) := by decide +kernel
theorem d_GW_beginGroup_18 : decode b_GW_beginGroup 18 = .ok (.getfield 33, 3) := by decide +kernel
theorem d_GW_beginGroup_21 : decode b_GW_beginGroup 21 = .ok (.iconst 0, 1) := by decide +kernel
theorem d_GW_beginGroup_22 : decode b_GW_beginGroup 22 = .ok (.invokevirtual 29, 3) := by decide +kernel
theorem d_GW_beginGroup_25 : decode b_GW_beginGroup 25 = .ok (.aload_n 0, 1) := by decide +kernel
theorem d_GW_beginGroup_26 : decode b_GW_beginGroup 26 = .ok (.iload_n 1, 1) := by decide +kernel
theorem d_GW_beginGroup_27 : decode b_GW_beginGroup 27 = .ok (.putfield 9, 3) := by decide +kernel
theorem d_GW_beginGroup_30 : decode b_GW_beginGroup 30 = .ok (.aload_n 0, 1) := by decide +kernel
theorem d_GW_beginGroup_31 : decode b_GW_beginGroup 31 = .ok (.iload_n 1, 1) := by decide +kernel
theorem d_GW_beginGroup_32 : decode b_GW_beginGroup 32 = .ok (.iconst 1, 1) := by decide +kernel
theorem d_GW_beginGroup_33 : decode b_GW_beginGroup 33 = .ok (.isub, 1) := by decide +kernel
theorem d_GW_beginGroup_34 : decode b_GW_beginGroup 34 = .ok (.putfield 13, 3) := by decide +kernel
theorem d_GW_beginGroup_37 : decode b_GW_beginGroup 37 = .ok (.return_, 1) := by decide +kernel
theorem d_GW_isWhole_0 : decode b_GW_isWhole 0 = .ok (.aload_n 0, 1) := by decide +kernel
theorem d_GW_isWhole_1 : decode b_GW_isWhole 1 = .ok (.getfield 9, 3) := by decide +kernel
theorem d_GW_isWhole_4 : decode b_GW_isWhole 4 = .ok (.ifCond .eq 14, 3) := by decide +kernel
theorem d_GW_isWhole_7 : decode b_GW_isWhole 7 = .ok (.aload_n 0, 1) := by decide +kernel
theorem d_GW_isWhole_8 : decode b_GW_isWhole 8 = .ok (.getfield 13, 3) := by decide +kernel
theorem d_GW_isWhole_11 : decode b_GW_isWhole 11 = .ok (.ifCond .ne 7, 3) := by decide +kernel
theorem d_GW_isWhole_14 : decode b_GW_isWhole 14 = .ok (.iconst 1, 1) := by decide +kernel
theorem d_GW_isWhole_15 : decode b_GW_isWhole 15 = .ok (.goto 4, 3) := by decide +kernel
theorem d_GW_isWhole_18 : decode b_GW_isWhole 18 = .ok (.iconst 0, 1) := by decide +kernel
theorem d_GW_isWhole_19 : decode b_GW_isWhole 19 = .ok (.ireturn, 1) := by decide +kernel
theorem d_GW_forgetChunk_0 : decode b_GW_forgetChunk 0 = .ok (.aload_n 0, 1) := by decide +kernel
theorem d_GW_forgetChunk_1 : decode b_GW_forgetChunk 1 = .ok (.iconst 0, 1) := by decide +kernel
theorem d_GW_forgetChunk_2 : decode b_GW_forgetChunk 2 = .ok (.putfield 9, 3) := by decide +kernel
theorem d_GW_forgetChunk_5 : decode b_GW_forgetChunk 5 = .ok (.aload_n 0, 1) := by decide +kernel
theorem d_GW_forgetChunk_6 : decode b_GW_forgetChunk 6 = .ok (.iconst 0, 1) := by decide +kernel
theorem d_GW_forgetChunk_7 : decode b_GW_forgetChunk 7 = .ok (.putfield 13, 3) := by decide +kernel
theorem d_GW_forgetChunk_10 : decode b_GW_forgetChunk 10 = .ok (.return_, 1) := by decide +kernel
theorem d_Row_init_0 : decode b_Row_init 0 = .ok (.aload_n 0, 1) := by decide +kernel
theorem d_Row_init_1 : decode b_Row_init 1 = .ok (.invokespecial 3, 3) := by decide +kernel
theorem d_Row_init_4 : decode b_Row_init 4 = .ok (.aload_n 0, 1) := by decide +kernel
theorem d_Row_init_5 : decode b_Row_init 5 = .ok (.iload_n 1, 1) := by decide +kernel
theorem d_Row_init_6 : decode b_Row_init 6 = .ok (.iconst 0, 1) := by decide +kernel
theorem d_Row_init_7 : decode b_Row_init 7 = .ok (.invokestatic 9, 3) := by decide +kernel
theorem d_Row_init_10 : decode b_Row_init 10 = .ok (.newarray .int, 2) := by decide +kernel
theorem d_Row_init_12 : decode b_Row_init 12 = .ok (.putfield 15, 3) := by decide +kernel
theorem d_Row_init_15 : decode b_Row_init 15 = .ok (.aload_n 0, 1) := by decide +kernel
theorem d_Row_init_16 : decode b_Row_init 16 = .ok (.iconst 0, 1) := by decide +kernel
theorem d_Row_init_17 : decode b_Row_init 17 = .ok (.putfield 21, 3) := by decide +kernel
theorem d_Row_init_20 : decode b_Row_init 20 = .ok (.aload_n 0, 1) := by decide +kernel
theorem d_Row_init_21 : decode b_Row_init 21 = .ok (.iconst 0, 1) := by decide +kernel
theorem d_Row_init_22 : decode b_Row_init 22 = .ok (.putfield 25, 3) := by decide +kernel
theorem d_Row_init_25 : decode b_Row_init 25 = .ok (.return_, 1) := by decide +kernel
theorem d_Row_put_0 : decode b_Row_put 0 = .ok (.aload_n 0, 1) := by decide +kernel
theorem d_Row_put_1 : decode b_Row_put 1 = .ok (.getfield 21, 3) := by decide +kernel
theorem d_Row_put_4 : decode b_Row_put 4 = .ok (.ifCond .lt 38, 3) := by decide +kernel
theorem d_Row_put_7 : decode b_Row_put 7 = .ok (.aload_n 0, 1) := by decide +kernel
theorem d_Row_put_8 : decode b_Row_put 8 = .ok (.getfield 21, 3) := by decide +kernel
theorem d_Row_put_11 : decode b_Row_put 11 = .ok (.aload_n 0, 1) := by decide +kernel
theorem d_Row_put_12 : decode b_Row_put 12 = .ok (.getfield 15, 3) := by decide +kernel
theorem d_Row_put_15 : decode b_Row_put 15 = .ok (.arraylength, 1) := by decide +kernel
theorem d_Row_put_16 : decode b_Row_put 16 = .ok (.if_icmp .ge 26, 3) := by decide +kernel
theorem d_Row_put_19 : decode b_Row_put 19 = .ok (.aload_n 0, 1) := by decide +kernel
theorem d_Row_put_20 : decode b_Row_put 20 = .ok (.getfield 15, 3) := by decide +kernel
theorem d_Row_put_23 : decode b_Row_put 23 = .ok (.aload_n 0, 1) := by decide +kernel
theorem d_Row_put_24 : decode b_Row_put 24 = .ok (.getfield 21, 3) := by decide +kernel
theorem d_Row_put_27 : decode b_Row_put 27 = .ok (.iload_n 1, 1) := by decide +kernel
theorem d_Row_put_28 : decode b_Row_put 28 = .ok (.iastore, 1) := by decide +kernel
theorem d_Row_put_29 : decode b_Row_put 29 = .ok (.aload_n 0, 1) := by decide +kernel
theorem d_Row_put_30 : decode b_Row_put 30 = .ok (.dup, 1) := by decide +kernel
theorem d_Row_put_31 : decode b_Row_put 31 = .ok (.getfield 21, 3) := by decide +kernel
theorem d_Row_put_34 : decode b_Row_put 34 = .ok (.iconst 1, 1) := by decide +kernel
theorem d_Row_put_35 : decode b_Row_put 35 = .ok (.iadd, 1) := by decide +kernel
theorem d_Row_put_36 : decode b_Row_put 36 = .ok (.putfield 21, 3) := by decide +kernel
theorem d_Row_put_39 : decode b_Row_put 39 = .ok (.goto 8, 3) := by decide +kernel
theorem d_Row_put_42 : decode b_Row_put 42 = .ok (.aload_n 0, 1) := by decide +kernel
theorem d_Row_put_43 : decode b_Row_put 43 = .ok (.iconst 1, 1) := by decide +kernel
theorem d_Row_put_44 : decode b_Row_put 44 = .ok (.putfield 25, 3) := by decide +kernel
theorem d_Row_put_47 : decode b_Row_put 47 = .ok (.return_, 1) := by decide +kernel
theorem d_Row_byteAt_0 : decode b_Row_byteAt 0 = .ok (.aload_n 0, 1) := by decide +kernel
theorem d_Row_byteAt_1 : decode b_Row_byteAt 1 = .ok (.iload_n 1, 1) := by decide +kernel
theorem d_Row_byteAt_2 : decode b_Row_byteAt 2 = .ok (.invokevirtual 29, 3) := by decide +kernel
theorem d_Row_byteAt_5 : decode b_Row_byteAt 5 = .ok (.ifCond .eq 12, 3) := by decide +kernel
theorem d_Row_byteAt_8 : decode b_Row_byteAt 8 = .ok (.aload_n 0, 1) := by decide +kernel
theorem d_Row_byteAt_9 : decode b_Row_byteAt 9 = .ok (.getfield 15, 3) := by decide +kernel
theorem d_Row_byteAt_12 : decode b_Row_byteAt 12 = .ok (.iload_n 1, 1) := by decide +kernel
theorem d_Row_byteAt_13 : decode b_Row_byteAt 13 = .ok (.iaload, 1) := by decide +kernel
theorem d_Row_byteAt_14 : decode b_Row_byteAt 14 = .ok (.goto 4, 3) := by decide +kernel
theorem d_Row_byteAt_17 : decode b_Row_byteAt 17 = .ok (.iconst (-1), 1) := by decide +kernel
theorem d_Row_byteAt_18 : decode b_Row_byteAt 18 = .ok (.ireturn, 1) := by decide +kernel
theorem d_Row_turn_0 : decode b_Row_turn 0 = .ok (.aload_n 0, 1) := by decide +kernel
theorem d_Row_turn_1 : decode b_Row_turn 1 = .ok (.iload_n 1, 1) := by decide +kernel
theorem d_Row_turn_2 : decode b_Row_turn 2 = .ok (.invokevirtual 29, 3) := by decide +kernel
theorem d_Row_turn_5 : decode b_Row_turn 5 = .ok (.ifCond .ne 5, 3) := by decide +kernel
theorem d_Row_turn_8 : decode b_Row_turn 8 = .ok (.iconst 0, 1) := by decide +kernel
theorem d_Row_turn_9 : decode b_Row_turn 9 = .ok (.ireturn, 1) := by decide +kernel
theorem d_Row_turn_10 : decode b_Row_turn 10 = .ok (.aload_n 0, 1) := by decide +kernel
theorem d_Row_turn_11 : decode b_Row_turn 11 = .ok (.getfield 15, 3) := by decide +kernel
theorem d_Row_turn_14 : decode b_Row_turn 14 = .ok (.iload_n 1, 1) := by decide +kernel
theorem d_Row_turn_15 : decode b_Row_turn 15 = .ok (.dup2, 1) := by decide +kernel
theorem d_Row_turn_16 : decode b_Row_turn 16 = .ok (.iaload, 1) := by decide +kernel
theorem d_Row_turn_17 : decode b_Row_turn 17 = .ok (.iload_n 2, 1) := by decide +kernel
theorem d_Row_turn_18 : decode b_Row_turn 18 = .ok (.ixor, 1) := by decide +kernel
theorem d_Row_turn_19 : decode b_Row_turn 19 = .ok (.iastore, 1) := by decide +kernel
theorem d_Row_turn_20 : decode b_Row_turn 20 = .ok (.iconst 1, 1) := by decide +kernel
theorem d_Row_turn_21 : decode b_Row_turn 21 = .ok (.ireturn, 1) := by decide +kernel
theorem d_Row_cutTo_0 : decode b_Row_cutTo 0 = .ok (.iload_n 1, 1) := by decide +kernel
theorem d_Row_cutTo_1 : decode b_Row_cutTo 1 = .ok (.ifCond .lt 21, 3) := by decide +kernel
theorem d_Row_cutTo_4 : decode b_Row_cutTo 4 = .ok (.iload_n 1, 1) := by decide +kernel
theorem d_Row_cutTo_5 : decode b_Row_cutTo 5 = .ok (.aload_n 0, 1) := by decide +kernel
theorem d_Row_cutTo_6 : decode b_Row_cutTo 6 = .ok (.getfield 21, 3) := by decide +kernel
theorem d_Row_cutTo_9 : decode b_Row_cutTo 9 = .ok (.if_icmp .gt 13, 3) := by decide +kernel
theorem d_Row_cutTo_12 : decode b_Row_cutTo 12 = .ok (.aload_n 0, 1) := by decide +kernel
theorem d_Row_cutTo_13 : decode b_Row_cutTo 13 = .ok (.iload_n 1, 1) := by decide +kernel
theorem d_Row_cutTo_14 : decode b_Row_cutTo 14 = .ok (.putfield 21, 3) := by decide +kernel
theorem d_Row_cutTo_17 : decode b_Row_cutTo 17 = .ok (.aload_n 0, 1) := by decide +kernel
theorem d_Row_cutTo_18 : decode b_Row_cutTo 18 = .ok (.iconst 0, 1) := by decide +kernel
theorem d_Row_cutTo_19 : decode b_Row_cutTo 19 = .ok (.putfield 25, 3) := by decide +kernel
theorem d_Row_cutTo_22 : decode b_Row_cutTo 22 = .ok (.return_, 1) := by decide +kernel
theorem d_Row_holds_0 : decode b_Row_holds 0 = .ok (.iload_n 1, 1) := by decide +kernel
theorem d_Row_holds_1 : decode b_Row_holds 1 = .ok (.ifCond .lt 24, 3) := by decide +kernel
theorem d_Row_holds_4 : decode b_Row_holds 4 = .ok (.iload_n 1, 1) := by decide +kernel
theorem d_Row_holds_5 : decode b_Row_holds 5 = .ok (.aload_n 0, 1) := by decide +kernel
theorem d_Row_holds_6 : decode b_Row_holds 6 = .ok (.getfield 21, 3) := by decide +kernel
theorem d_Row_holds_9 : decode b_Row_holds 9 = .ok (.if_icmp .ge 16, 3) := by decide +kernel
theorem d_Row_holds_12 : decode b_Row_holds 12 = .ok (.iload_n 1, 1) := by decide +kernel
theorem d_Row_holds_13 : decode b_Row_holds 13 = .ok (.aload_n 0, 1) := by decide +kernel
theorem d_Row_holds_14 : decode b_Row_holds 14 = .ok (.getfield 15, 3) := by decide +kernel
theorem d_Row_holds_17 : decode b_Row_holds 17 = .ok (.arraylength, 1) := by decide +kernel
theorem d_Row_holds_18 : decode b_Row_holds 18 = .ok (.if_icmp .ge 7, 3) := by decide +kernel
theorem d_Row_holds_21 : decode b_Row_holds 21 = .ok (.iconst 1, 1) := by decide +kernel
theorem d_Row_holds_22 : decode b_Row_holds 22 = .ok (.goto 4, 3) := by decide +kernel
theorem d_Row_holds_25 : decode b_Row_holds 25 = .ok (.iconst 0, 1) := by decide +kernel
theorem d_Row_holds_26 : decode b_Row_holds 26 = .ok (.ireturn, 1) := by decide +kernel
theorem d_Way_init_0 : decode b_Way_init 0 = .ok (.aload_n 0, 1) := by decide +kernel
theorem d_Way_init_1 : decode b_Way_init 1 = .ok (.invokespecial 3, 3) := by decide +kernel
theorem d_Way_init_4 : decode b_Way_init 4 = .ok (.aload_n 0, 1) := by decide +kernel
theorem d_Way_init_5 : decode b_Way_init 5 = .ok (.iload_n 1, 1) := by decide +kernel
theorem d_Way_init_6 : decode b_Way_init 6 = .ok (.putfield 9, 3) := by decide +kernel
theorem d_Way_init_9 : decode b_Way_init 9 = .ok (.aload_n 0, 1) := by decide +kernel
theorem d_Way_init_10 : decode b_Way_init 10 = .ok (.iload_n 2, 1) := by decide +kernel
theorem d_Way_init_11 : decode b_Way_init 11 = .ok (.putfield 15, 3) := by decide +kernel
theorem d_Way_init_14 : decode b_Way_init 14 = .ok (.aload_n 0, 1) := by decide +kernel
theorem d_Way_init_15 : decode b_Way_init 15 = .ok (.new 19, 3) := by decide +kernel
theorem d_Way_init_18 : decode b_Way_init 18 = .ok (.dup, 1) := by decide +kernel
theorem d_Way_init_19 : decode b_Way_init 19 = .ok (.sipush 400, 3) := by decide +kernel
theorem d_Way_init_22 : decode b_Way_init 22 = .ok (.invokespecial 21, 3) := by decide +kernel
theorem d_Way_init_25 : decode b_Way_init 25 = .ok (.putfield 24, 3) := by decide +kernel
theorem d_Way_init_28 : decode b_Way_init 28 = .ok (.aload_n 0, 1) := by decide +kernel
theorem d_Way_init_29 : decode b_Way_init 29 = .ok (.new 19, 3) := by decide +kernel
theorem d_Way_init_32 : decode b_Way_init 32 = .ok (.dup, 1) := by decide +kernel
theorem d_Way_init_33 : decode b_Way_init 33 = .ok (.sipush 400, 3) := by decide +kernel
theorem d_Way_init_36 : decode b_Way_init 36 = .ok (.invokespecial 21, 3) := by decide +kernel
theorem d_Way_init_39 : decode b_Way_init 39 = .ok (.putfield 28, 3) := by decide +kernel
theorem d_Way_init_42 : decode b_Way_init 42 = .ok (.aload_n 0, 1) := by decide +kernel
theorem d_Way_init_43 : decode b_Way_init 43 = .ok (.iconst 0, 1) := by decide +kernel
theorem d_Way_init_44 : decode b_Way_init 44 = .ok (.putfield 31, 3) := by decide +kernel
theorem d_Way_init_47 : decode b_Way_init 47 = .ok (.aload_n 0, 1) := by decide +kernel
theorem d_Way_init_48 : decode b_Way_init 48 = .ok (.iconst 0, 1) := by decide +kernel
theorem d_Way_init_49 : decode b_Way_init 49 = .ok (.putfield 34, 3) := by decide +kernel
theorem d_Way_init_52 : decode b_Way_init 52 = .ok (.aload_n 0, 1) := by decide +kernel
theorem d_Way_init_53 : decode b_Way_init 53 = .ok (.iconst 0, 1) := by decide +kernel
theorem d_Way_init_54 : decode b_Way_init 54 = .ok (.putfield 37, 3) := by decide +kernel
theorem d_Way_init_57 : decode b_Way_init 57 = .ok (.aload_n 0, 1) := by decide +kernel
theorem d_Way_init_58 : decode b_Way_init 58 = .ok (.iconst 4, 1) := by decide +kernel
theorem d_Way_init_59 : decode b_Way_init 59 = .ok (.newarray .int, 2) := by decide +kernel
theorem d_Way_init_61 : decode b_Way_init 61 = .ok (.putfield 40, 3) := by decide +kernel
theorem d_Way_init_64 : decode b_Way_init 64 = .ok (.return_, 1) := by decide +kernel
theorem d_Way_take_0 : decode b_Way_take 0 = .ok (.iload_n 1, 1) := by decide +kernel
theorem d_Way_take_1 : decode b_Way_take 1 = .ok (.aload_n 0, 1) := by decide +kernel
theorem d_Way_take_2 : decode b_Way_take 2 = .ok (.getfield 9, 3) := by decide +kernel
theorem d_Way_take_5 : decode b_Way_take 5 = .ok (.if_icmp .ne 9, 3) := by decide +kernel
theorem d_Way_take_8 : decode b_Way_take 8 = .ok (.aload_n 0, 1) := by decide +kernel
theorem d_Way_take_9 : decode b_Way_take 9 = .ok (.iload_n 2, 1) := by decide +kernel
theorem d_Way_take_10 : decode b_Way_take 10 = .ok (.invokevirtual 44, 3) := by decide +kernel
theorem d_Way_take_13 : decode b_Way_take 13 = .ok (.ireturn, 1) := by decide +kernel
theorem d_Way_take_14 : decode b_Way_take 14 = .ok (.aload_n 0, 1) := by decide +kernel
theorem d_Way_take_15 : decode b_Way_take 15 = .ok (.iconst 1, 1) := by decide +kernel
theorem d_Way_take_16 : decode b_Way_take 16 = .ok (.putfield 34, 3) := by decide +kernel
theorem d_Way_take_19 : decode b_Way_take 19 = .ok (.aload_n 0, 1) := by decide +kernel
theorem d_Way_take_20 : decode b_Way_take 20 = .ok (.getfield 31, 3) := by decide +kernel
theorem d_Way_take_23 : decode b_Way_take 23 = .ok (.ifCond .ne 8, 3) := by decide +kernel
theorem d_Way_take_26 : decode b_Way_take 26 = .ok (.aload_n 0, 1) := by decide +kernel
theorem d_Way_take_27 : decode b_Way_take 27 = .ok (.iload_n 1, 1) := by decide +kernel
theorem d_Way_take_28 : decode b_Way_take 28 = .ok (.invokevirtual 48, 3) := by decide +kernel
theorem d_Way_take_31 : decode b_Way_take 31 = .ok (.iconst 0, 1) := by decide +kernel
theorem d_Way_take_32 : decode b_Way_take 32 = .ok (.ireturn, 1) := by decide +kernel
theorem d_Way_keptSize_0 : decode b_Way_keptSize 0 = .ok (.aload_n 0, 1) := by decide +kernel
theorem d_Way_keptSize_1 : decode b_Way_keptSize 1 = .ok (.getfield 37, 3) := by decide +kernel
theorem d_Way_keptSize_4 : decode b_Way_keptSize 4 = .ok (.ifCond .eq 13, 3) := by decide +kernel
theorem d_Way_keptSize_7 : decode b_Way_keptSize 7 = .ok (.aload_n 0, 1) := by decide +kernel
theorem d_Way_keptSize_8 : decode b_Way_keptSize 8 = .ok (.getfield 28, 3) := by decide +kernel
theorem d_Way_keptSize_11 : decode b_Way_keptSize 11 = .ok (.getfield 51, 3) := by decide +kernel
theorem d_Way_keptSize_14 : decode b_Way_keptSize 14 = .ok (.goto 4, 3) := by decide +kernel
theorem d_Way_keptSize_17 : decode b_Way_keptSize 17 = .ok (.iconst (-1), 1) := by decide +kernel
theorem d_Way_keptSize_18 : decode b_Way_keptSize 18 = .ok (.ireturn, 1) := by decide +kernel
theorem d_Way_tally_0 : decode b_Way_tally 0 = .ok (.iload_n 1, 1) := by decide +kernel
theorem d_Way_tally_1 : decode b_Way_tally 1 = .ok (.iconst 1, 1) := by decide +kernel
theorem d_Way_tally_2 : decode b_Way_tally 2 = .ok (.if_icmp .lt 17, 3) := by decide +kernel
theorem d_Way_tally_5 : decode b_Way_tally 5 = .ok (.iload_n 1, 1) := by decide +kernel
theorem d_Way_tally_6 : decode b_Way_tally 6 = .ok (.iconst 3, 1) := by decide +kernel
theorem d_Way_tally_7 : decode b_Way_tally 7 = .ok (.if_icmp .gt 12, 3) := by decide +kernel
theorem d_Way_tally_10 : decode b_Way_tally 10 = .ok (.aload_n 0, 1) := by decide +kernel
theorem d_Way_tally_11 : decode b_Way_tally 11 = .ok (.getfield 40, 3) := by decide +kernel
theorem d_Way_tally_14 : decode b_Way_tally 14 = .ok (.iload_n 1, 1) := by decide +kernel
theorem d_Way_tally_15 : decode b_Way_tally 15 = .ok (.iaload, 1) := by decide +kernel
theorem d_Way_tally_16 : decode b_Way_tally 16 = .ok (.goto 4, 3) := by decide +kernel
theorem d_Way_tally_19 : decode b_Way_tally 19 = .ok (.iconst (-1), 1) := by decide +kernel
theorem d_Way_tally_20 : decode b_Way_tally 20 = .ok (.ireturn, 1) := by decide +kernel
theorem d_Way_finishChunk_0 : decode b_Way_finishChunk 0 = .ok (.aload_n 0, 1) := by decide +kernel
theorem d_Way_finishChunk_1 : decode b_Way_finishChunk 1 = .ok (.iload_n 1, 1) := by decide +kernel
theorem d_Way_finishChunk_2 : decode b_Way_finishChunk 2 = .ok (.invokevirtual 54, 3) := by decide +kernel
theorem d_Way_finishChunk_5 : decode b_Way_finishChunk 5 = .ok (.istore_n 2, 1) := by decide +kernel
theorem d_Way_finishChunk_6 : decode b_Way_finishChunk 6 = .ok (.iload_n 2, 1) := by decide +kernel
theorem d_Way_finishChunk_7 : decode b_Way_finishChunk 7 = .ok (.iconst 1, 1) := by decide +kernel
theorem d_Way_finishChunk_8 : decode b_Way_finishChunk 8 = .ok (.if_icmp .lt 18, 3) := by decide +kernel
theorem d_Way_finishChunk_11 : decode b_Way_finishChunk 11 = .ok (.iload_n 2, 1) := by decide +kernel
theorem d_Way_finishChunk_12 : decode b_Way_finishChunk 12 = .ok (.iconst 3, 1) := by decide +kernel
theorem d_Way_finishChunk_13 : decode b_Way_finishChunk 13 = .ok (.if_icmp .gt 13, 3) := by decide +kernel
theorem d_Way_finishChunk_16 : decode b_Way_finishChunk 16 = .ok (.aload_n 0, 1) := by decide +kernel
theorem d_Way_finishChunk_17 : decode b_Way_finishChunk 17 = .ok (.getfield 40, 3) := by decide +kernel
theorem d_Way_finishChunk_20 : decode b_Way_finishChunk 20 = .ok (.iload_n 2, 1) := by decide +kernel
theorem d_Way_finishChunk_21 : decode b_Way_finishChunk 21 = .ok (.dup2, 1) := by decide +kernel
theorem d_Way_finishChunk_22 : decode b_Way_finishChunk 22 = .ok (.iaload, 1) := by decide +kernel
theorem d_Way_finishChunk_23 : decode b_Way_finishChunk 23 = .ok (.iconst 1, 1) := by decide +kernel
theorem d_Way_finishChunk_24 : decode b_Way_finishChunk 24 = .ok (.iadd, 1) := by decide +kernel
theorem d_Way_finishChunk_25 : decode b_Way_finishChunk 25 = .ok (.iastore, 1) := by decide +kernel
theorem d_Way_finishChunk_26 : decode b_Way_finishChunk 26 = .ok (.iload_n 2, 1) := by decide +kernel
theorem d_Way_finishChunk_27 : decode b_Way_finishChunk 27 = .ok (.iconst 1, 1) := by decide +kernel
theorem d_Way_finishChunk_28 : decode b_Way_finishChunk 28 = .ok (.if_icmp .ne 7, 3) := by decide +kernel
theorem d_Way_finishChunk_31 : decode b_Way_finishChunk 31 = .ok (.aload_n 0, 1) := by decide +kernel
theorem d_Way_finishChunk_32 : decode b_Way_finishChunk 32 = .ok (.invokevirtual 57, 3) := by decide +kernel
theorem d_Way_finishChunk_35 : decode b_Way_finishChunk 35 = .ok (.aload_n 0, 1) := by decide +kernel
theorem d_Way_finishChunk_36 : decode b_Way_finishChunk 36 = .ok (.getfield 24, 3) := by decide +kernel
theorem d_Way_finishChunk_39 : decode b_Way_finishChunk 39 = .ok (.iconst 0, 1) := by decide +kernel
theorem d_Way_finishChunk_40 : decode b_Way_finishChunk 40 = .ok (.invokevirtual 60, 3) := by decide +kernel
theorem d_Way_finishChunk_43 : decode b_Way_finishChunk 43 = .ok (.aload_n 0, 1) := by decide +kernel
theorem d_Way_finishChunk_44 : decode b_Way_finishChunk 44 = .ok (.iconst 0, 1) := by decide +kernel
theorem d_Way_finishChunk_45 : decode b_Way_finishChunk 45 = .ok (.putfield 31, 3) := by decide +kernel
theorem d_Way_finishChunk_48 : decode b_Way_finishChunk 48 = .ok (.aload_n 0, 1) := by decide +kernel
theorem d_Way_finishChunk_49 : decode b_Way_finishChunk 49 = .ok (.iconst 0, 1) := by decide +kernel
theorem d_Way_finishChunk_50 : decode b_Way_finishChunk 50 = .ok (.putfield 34, 3) := by decide +kernel
theorem d_Way_finishChunk_53 : decode b_Way_finishChunk 53 = .ok (.aload_n 0, 1) := by decide +kernel
theorem d_Way_finishChunk_54 : decode b_Way_finishChunk 54 = .ok (.invokevirtual 63, 3) := by decide +kernel
theorem d_Way_finishChunk_57 : decode b_Way_finishChunk 57 = .ok (.iload_n 2, 1) := by decide +kernel
theorem d_Way_finishChunk_58 : decode b_Way_finishChunk 58 = .ok (.ireturn, 1) := by decide +kernel
theorem d_Way_judge_0 : decode b_Way_judge 0 = .ok (.aload_n 0, 1) := by decide +kernel
theorem d_Way_judge_1 : decode b_Way_judge 1 = .ok (.getfield 34, 3) := by decide +kernel
theorem d_Way_judge_4 : decode b_Way_judge 4 = .ok (.ifCond .ne 12, 3) := by decide +kernel
theorem d_Way_judge_7 : decode b_Way_judge 7 = .ok (.aload_n 0, 1) := by decide +kernel
theorem d_Way_judge_8 : decode b_Way_judge 8 = .ok (.getfield 15, 3) := by decide +kernel
theorem d_Way_judge_11 : decode b_Way_judge 11 = .ok (.ifCond .ne 5, 3) := by decide +kernel
theorem d_Way_judge_14 : decode b_Way_judge 14 = .ok (.iconst 0, 1) := by decide +kernel
theorem d_Way_judge_15 : decode b_Way_judge 15 = .ok (.ireturn, 1) := by decide +kernel
theorem d_Way_judge_16 : decode b_Way_judge 16 = .ok (.aload_n 0, 1) := by decide +kernel
theorem d_Way_judge_17 : decode b_Way_judge 17 = .ok (.getfield 31, 3) := by decide +kernel
theorem d_Way_judge_20 : decode b_Way_judge 20 = .ok (.ifCond .ne 10, 3) := by decide +kernel
theorem d_Way_judge_23 : decode b_Way_judge 23 = .ok (.aload_n 0, 1) := by decide +kernel
theorem d_Way_judge_24 : decode b_Way_judge 24 = .ok (.invokevirtual 66, 3) := by decide +kernel
theorem d_Way_judge_27 : decode b_Way_judge 27 = .ok (.ifCond .ne 5, 3) := by decide +kernel
theorem d_Way_judge_30 : decode b_Way_judge 30 = .ok (.iconst 2, 1) := by decide +kernel
theorem d_Way_judge_31 : decode b_Way_judge 31 = .ok (.ireturn, 1) := by decide +kernel
theorem d_Way_judge_32 : decode b_Way_judge 32 = .ok (.aload_n 0, 1) := by decide +kernel
theorem d_Way_judge_33 : decode b_Way_judge 33 = .ok (.getfield 24, 3) := by decide +kernel
theorem d_Way_judge_36 : decode b_Way_judge 36 = .ok (.getfield 70, 3) := by decide +kernel
theorem d_Way_judge_39 : decode b_Way_judge 39 = .ok (.ifCond .ne 14, 3) := by decide +kernel
theorem d_Way_judge_42 : decode b_Way_judge 42 = .ok (.aload_n 0, 1) := by decide +kernel
theorem d_Way_judge_43 : decode b_Way_judge 43 = .ok (.getfield 24, 3) := by decide +kernel
theorem d_Way_judge_46 : decode b_Way_judge 46 = .ok (.getfield 51, 3) := by decide +kernel
theorem d_Way_judge_49 : decode b_Way_judge 49 = .ok (.iload_n 1, 1) := by decide +kernel
theorem d_Way_judge_50 : decode b_Way_judge 50 = .ok (.if_icmp .le 7, 3) := by decide +kernel
theorem d_Way_judge_53 : decode b_Way_judge 53 = .ok (.iconst 3, 1) := by decide +kernel
theorem d_Way_judge_54 : decode b_Way_judge 54 = .ok (.goto 4, 3) := by decide +kernel
theorem d_Way_judge_57 : decode b_Way_judge 57 = .ok (.iconst 1, 1) := by decide +kernel
theorem d_Way_judge_58 : decode b_Way_judge 58 = .ok (.ireturn, 1) := by decide +kernel
theorem d_Way_keepPayload_0 : decode b_Way_keepPayload 0 = .ok (.aload_n 0, 1) := by decide +kernel
theorem d_Way_keepPayload_1 : decode b_Way_keepPayload 1 = .ok (.getfield 28, 3) := by decide +kernel
theorem d_Way_keepPayload_4 : decode b_Way_keepPayload 4 = .ok (.astore_n 1, 1) := by decide +kernel
theorem d_Way_keepPayload_5 : decode b_Way_keepPayload 5 = .ok (.aload_n 0, 1) := by decide +kernel
theorem d_Way_keepPayload_6 : decode b_Way_keepPayload 6 = .ok (.aload_n 0, 1) := by decide +kernel
theorem d_Way_keepPayload_7 : decode b_Way_keepPayload 7 = .ok (.getfield 24, 3) := by decide +kernel
theorem d_Way_keepPayload_10 : decode b_Way_keepPayload 10 = .ok (.putfield 28, 3) := by decide +kernel
theorem d_Way_keepPayload_13 : decode b_Way_keepPayload 13 = .ok (.aload_n 0, 1) := by decide +kernel
theorem d_Way_keepPayload_14 : decode b_Way_keepPayload 14 = .ok (.aload_n 1, 1) := by decide +kernel
theorem d_Way_keepPayload_15 : decode b_Way_keepPayload 15 = .ok (.putfield 24, 3) := by decide +kernel
theorem d_Way_keepPayload_18 : decode b_Way_keepPayload 18 = .ok (.aload_n 0, 1) := by decide +kernel
theorem d_Way_keepPayload_19 : decode b_Way_keepPayload 19 = .ok (.iconst 1, 1) := by decide +kernel
theorem d_Way_keepPayload_20 : decode b_Way_keepPayload 20 = .ok (.putfield 37, 3) := by decide +kernel
theorem d_Way_keepPayload_23 : decode b_Way_keepPayload 23 = .ok (.return_, 1) := by decide +kernel
