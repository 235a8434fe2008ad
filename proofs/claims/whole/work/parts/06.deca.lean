theorem dS_init_0 : decode cS_init 0 = .ok (.aload_n 0, 1) := by decide +kernel
theorem dS_init_1 : decode cS_init 1 = .ok (.invokespecial 1, 3) := by decide +kernel
theorem dS_init_4 : decode cS_init 4 = .ok (.aload_n 0, 1) := by decide +kernel
theorem dS_init_5 : decode cS_init 5 = .ok (.sipush 800, 3) := by decide +kernel
theorem dS_init_8 : decode cS_init 8 = .ok (.newarray .byte, 2) := by decide +kernel
theorem dS_init_10 : decode cS_init 10 = .ok (.putfield 9, 3) := by decide +kernel
theorem dS_init_13 : decode cS_init 13 = .ok (.aload_n 0, 1) := by decide +kernel
theorem dS_init_14 : decode cS_init 14 = .ok (.iconst 0, 1) := by decide +kernel
theorem dS_init_15 : decode cS_init 15 = .ok (.putfield 13, 3) := by decide +kernel
theorem dS_init_18 : decode cS_init 18 = .ok (.aload_n 0, 1) := by decide +kernel
theorem dS_init_19 : decode cS_init 19 = .ok (.sipush 816, 3) := by decide +kernel
theorem dS_init_22 : decode cS_init 22 = .ok (.newarray .byte, 2) := by decide +kernel
theorem dS_init_24 : decode cS_init 24 = .ok (.putfield 17, 3) := by decide +kernel
theorem dS_init_27 : decode cS_init 27 = .ok (.aload_n 0, 1) := by decide +kernel
theorem dS_init_28 : decode cS_init 28 = .ok (.iconst 0, 1) := by decide +kernel
theorem dS_init_29 : decode cS_init 29 = .ok (.putfield 20, 3) := by decide +kernel
theorem dS_init_32 : decode cS_init 32 = .ok (.aload_n 0, 1) := by decide +kernel
theorem dS_init_33 : decode cS_init 33 = .ok (.bipush 32, 2) := by decide +kernel
theorem dS_init_35 : decode cS_init 35 = .ok (.newarray .byte, 2) := by decide +kernel
theorem dS_init_37 : decode cS_init 37 = .ok (.putfield 23, 3) := by decide +kernel
theorem dS_init_40 : decode cS_init 40 = .ok (.aload_n 0, 1) := by decide +kernel
theorem dS_init_41 : decode cS_init 41 = .ok (.bipush 12, 2) := by decide +kernel
theorem dS_init_43 : decode cS_init 43 = .ok (.newarray .byte, 2) := by decide +kernel
theorem dS_init_45 : decode cS_init 45 = .ok (.putfield 26, 3) := by decide +kernel
theorem dS_init_48 : decode cS_init 48 = .ok (.aload_n 0, 1) := by decide +kernel
theorem dS_init_49 : decode cS_init 49 = .ok (.bipush 64, 2) := by decide +kernel
theorem dS_init_51 : decode cS_init 51 = .ok (.newarray .byte, 2) := by decide +kernel
theorem dS_init_53 : decode cS_init 53 = .ok (.putfield 29, 3) := by decide +kernel
theorem dS_init_56 : decode cS_init 56 = .ok (.aload_n 0, 1) := by decide +kernel
theorem dS_init_57 : decode cS_init 57 = .ok (.bipush 16, 2) := by decide +kernel
theorem dS_init_59 : decode cS_init 59 = .ok (.newarray .byte, 2) := by decide +kernel
theorem dS_init_61 : decode cS_init 61 = .ok (.putfield 32, 3) := by decide +kernel
theorem dS_init_64 : decode cS_init 64 = .ok (.aload_n 0, 1) := by decide +kernel
theorem dS_init_65 : decode cS_init 65 = .ok (.bipush 16, 2) := by decide +kernel
theorem dS_init_67 : decode cS_init 67 = .ok (.newarray .byte, 2) := by decide +kernel
theorem dS_init_69 : decode cS_init 69 = .ok (.putfield 35, 3) := by decide +kernel
theorem dS_init_72 : decode cS_init 72 = .ok (.aload_n 0, 1) := by decide +kernel
theorem dS_init_73 : decode cS_init 73 = .ok (.new 38, 3) := by decide +kernel
theorem dS_init_76 : decode cS_init 76 = .ok (.dup, 1) := by decide +kernel
theorem dS_init_77 : decode cS_init 77 = .ok (.invokespecial 40, 3) := by decide +kernel
theorem dS_init_80 : decode cS_init 80 = .ok (.putfield 41, 3) := by decide +kernel
theorem dS_init_83 : decode cS_init 83 = .ok (.aload_n 0, 1) := by decide +kernel
theorem dS_init_84 : decode cS_init 84 = .ok (.new 45, 3) := by decide +kernel
theorem dS_init_87 : decode cS_init 87 = .ok (.dup, 1) := by decide +kernel
theorem dS_init_88 : decode cS_init 88 = .ok (.invokespecial 47, 3) := by decide +kernel
theorem dS_init_91 : decode cS_init 91 = .ok (.putfield 48, 3) := by decide +kernel
theorem dS_init_94 : decode cS_init 94 = .ok (.aload_n 0, 1) := by decide +kernel
theorem dS_init_95 : decode cS_init 95 = .ok (.new 52, 3) := by decide +kernel
theorem dS_init_98 : decode cS_init 98 = .ok (.dup, 1) := by decide +kernel
theorem dS_init_99 : decode cS_init 99 = .ok (.invokespecial 54, 3) := by decide +kernel
theorem dS_init_102 : decode cS_init 102 = .ok (.putfield 55, 3) := by decide +kernel
theorem dS_init_105 : decode cS_init 105 = .ok (.return_, 1) := by decide +kernel
theorem dS_feed_0 : decode cS_feed 0 = .ok (.aload_n 0, 1) := by decide +kernel
theorem dS_feed_1 : decode cS_feed 1 = .ok (.getfield 13, 3) := by decide +kernel
theorem dS_feed_4 : decode cS_feed 4 = .ok (.sipush 780, 3) := by decide +kernel
theorem dS_feed_7 : decode cS_feed 7 = .ok (.if_icmp .le 6, 3) := by decide +kernel
theorem dS_feed_10 : decode cS_feed 10 = .ok (.bipush (-3), 2) := by decide +kernel
theorem dS_feed_12 : decode cS_feed 12 = .ok (.ireturn, 1) := by decide +kernel
theorem dS_feed_13 : decode cS_feed 13 = .ok (.aload_n 0, 1) := by decide +kernel
theorem dS_feed_14 : decode cS_feed 14 = .ok (.getfield 9, 3) := by decide +kernel
theorem dS_feed_17 : decode cS_feed 17 = .ok (.aload_n 0, 1) := by decide +kernel
theorem dS_feed_18 : decode cS_feed 18 = .ok (.getfield 13, 3) := by decide +kernel
theorem dS_feed_21 : decode cS_feed 21 = .ok (.iload_n 1, 1) := by decide +kernel
theorem dS_feed_22 : decode cS_feed 22 = .ok (.invokestatic 59, 3) := by decide +kernel
theorem dS_feed_25 : decode cS_feed 25 = .ok (.aload_n 0, 1) := by decide +kernel
theorem dS_feed_26 : decode cS_feed 26 = .ok (.getfield 9, 3) := by decide +kernel
theorem dS_feed_29 : decode cS_feed 29 = .ok (.aload_n 0, 1) := by decide +kernel
theorem dS_feed_30 : decode cS_feed 30 = .ok (.getfield 13, 3) := by decide +kernel
theorem dS_feed_33 : decode cS_feed 33 = .ok (.iconst 4, 1) := by decide +kernel
theorem dS_feed_34 : decode cS_feed 34 = .ok (.iadd, 1) := by decide +kernel
theorem dS_feed_35 : decode cS_feed 35 = .ok (.iload_n 2, 1) := by decide +kernel
theorem dS_feed_36 : decode cS_feed 36 = .ok (.invokestatic 59, 3) := by decide +kernel
theorem dS_feed_39 : decode cS_feed 39 = .ok (.aload_n 0, 1) := by decide +kernel
theorem dS_feed_40 : decode cS_feed 40 = .ok (.getfield 9, 3) := by decide +kernel
theorem dS_feed_43 : decode cS_feed 43 = .ok (.aload_n 0, 1) := by decide +kernel
theorem dS_feed_44 : decode cS_feed 44 = .ok (.getfield 13, 3) := by decide +kernel
theorem dS_feed_47 : decode cS_feed 47 = .ok (.bipush 8, 2) := by decide +kernel
theorem dS_feed_49 : decode cS_feed 49 = .ok (.iadd, 1) := by decide +kernel
theorem dS_feed_50 : decode cS_feed 50 = .ok (.iload_n 3, 1) := by decide +kernel
theorem dS_feed_51 : decode cS_feed 51 = .ok (.invokestatic 59, 3) := by decide +kernel
theorem dS_feed_54 : decode cS_feed 54 = .ok (.aload_n 0, 1) := by decide +kernel
theorem dS_feed_55 : decode cS_feed 55 = .ok (.getfield 9, 3) := by decide +kernel
theorem dS_feed_58 : decode cS_feed 58 = .ok (.aload_n 0, 1) := by decide +kernel
theorem dS_feed_59 : decode cS_feed 59 = .ok (.getfield 13, 3) := by decide +kernel
theorem dS_feed_62 : decode cS_feed 62 = .ok (.bipush 12, 2) := by decide +kernel
theorem dS_feed_64 : decode cS_feed 64 = .ok (.iadd, 1) := by decide +kernel
theorem dS_feed_65 : decode cS_feed 65 = .ok (.iload 4, 2) := by decide +kernel
theorem dS_feed_67 : decode cS_feed 67 = .ok (.invokestatic 59, 3) := by decide +kernel
theorem dS_feed_70 : decode cS_feed 70 = .ok (.aload_n 0, 1) := by decide +kernel
theorem dS_feed_71 : decode cS_feed 71 = .ok (.getfield 9, 3) := by decide +kernel
theorem dS_feed_74 : decode cS_feed 74 = .ok (.aload_n 0, 1) := by decide +kernel
theorem dS_feed_75 : decode cS_feed 75 = .ok (.getfield 13, 3) := by decide +kernel
theorem dS_feed_78 : decode cS_feed 78 = .ok (.bipush 16, 2) := by decide +kernel
theorem dS_feed_80 : decode cS_feed 80 = .ok (.iadd, 1) := by decide +kernel
theorem dS_feed_81 : decode cS_feed 81 = .ok (.iload 5, 2) := by decide +kernel
theorem dS_feed_83 : decode cS_feed 83 = .ok (.invokestatic 59, 3) := by decide +kernel
theorem dS_feed_86 : decode cS_feed 86 = .ok (.aload_n 0, 1) := by decide +kernel
theorem dS_feed_87 : decode cS_feed 87 = .ok (.dup, 1) := by decide +kernel
theorem dS_feed_88 : decode cS_feed 88 = .ok (.getfield 13, 3) := by decide +kernel
theorem dS_feed_91 : decode cS_feed 91 = .ok (.bipush 20, 2) := by decide +kernel
theorem dS_feed_93 : decode cS_feed 93 = .ok (.iadd, 1) := by decide +kernel
theorem dS_feed_94 : decode cS_feed 94 = .ok (.putfield 13, 3) := by decide +kernel
theorem dS_feed_97 : decode cS_feed 97 = .ok (.aload_n 0, 1) := by decide +kernel
theorem dS_feed_98 : decode cS_feed 98 = .ok (.getfield 13, 3) := by decide +kernel
theorem dS_feed_101 : decode cS_feed 101 = .ok (.ireturn, 1) := by decide +kernel
theorem dS_end_0 : decode cS_end 0 = .ok (.aload_n 0, 1) := by decide +kernel
theorem dS_end_1 : decode cS_end 1 = .ok (.iload_n 1, 1) := by decide +kernel
theorem dS_end_2 : decode cS_end 2 = .ok (.invokevirtual 63, 3) := by decide +kernel
theorem dS_end_5 : decode cS_end 5 = .ok (.ifCond .ne 5, 3) := by decide +kernel
theorem dS_end_8 : decode cS_end 8 = .ok (.iconst (-1), 1) := by decide +kernel
theorem dS_end_9 : decode cS_end 9 = .ok (.ireturn, 1) := by decide +kernel
theorem dS_end_10 : decode cS_end 10 = .ok (.aload_n 0, 1) := by decide +kernel
theorem dS_end_11 : decode cS_end 11 = .ok (.iload_n 1, 1) := by decide +kernel
theorem dS_end_12 : decode cS_end 12 = .ok (.putfield 13, 3) := by decide +kernel
theorem dS_end_15 : decode cS_end 15 = .ok (.iload_n 1, 1) := by decide +kernel
theorem dS_end_16 : decode cS_end 16 = .ok (.ireturn, 1) := by decide +kernel
theorem dS_take_0 : decode cS_take 0 = .ok (.aload_n 0, 1) := by decide +kernel
theorem dS_take_1 : decode cS_take 1 = .ok (.iload_n 1, 1) := by decide +kernel
theorem dS_take_2 : decode cS_take 2 = .ok (.invokevirtual 63, 3) := by decide +kernel
theorem dS_take_5 : decode cS_take 5 = .ok (.ifCond .ne 5, 3) := by decide +kernel
theorem dS_take_8 : decode cS_take 8 = .ok (.iconst (-1), 1) := by decide +kernel
theorem dS_take_9 : decode cS_take 9 = .ok (.ireturn, 1) := by decide +kernel
theorem dS_take_10 : decode cS_take 10 = .ok (.iload_n 1, 1) := by decide +kernel
theorem dS_take_11 : decode cS_take 11 = .ok (.aload_n 0, 1) := by decide +kernel
theorem dS_take_12 : decode cS_take 12 = .ok (.getfield 20, 3) := by decide +kernel
theorem dS_take_15 : decode cS_take 15 = .ok (.iadd, 1) := by decide +kernel
theorem dS_take_16 : decode cS_take 16 = .ok (.sipush 800, 3) := by decide +kernel
theorem dS_take_19 : decode cS_take 19 = .ok (.if_icmp .le 6, 3) := by decide +kernel
theorem dS_take_22 : decode cS_take 22 = .ok (.bipush (-3), 2) := by decide +kernel
theorem dS_take_24 : decode cS_take 24 = .ok (.ireturn, 1) := by decide +kernel
theorem dS_take_25 : decode cS_take 25 = .ok (.aload_n 0, 1) := by decide +kernel
theorem dS_take_26 : decode cS_take 26 = .ok (.getfield 17, 3) := by decide +kernel
theorem dS_take_29 : decode cS_take 29 = .ok (.iconst 0, 1) := by decide +kernel
theorem dS_take_30 : decode cS_take 30 = .ok (.aload_n 0, 1) := by decide +kernel
theorem dS_take_31 : decode cS_take 31 = .ok (.getfield 9, 3) := by decide +kernel
theorem dS_take_34 : decode cS_take 34 = .ok (.iload_n 1, 1) := by decide +kernel
theorem dS_take_35 : decode cS_take 35 = .ok (.aload_n 0, 1) := by decide +kernel
theorem dS_take_36 : decode cS_take 36 = .ok (.getfield 20, 3) := by decide +kernel
theorem dS_take_39 : decode cS_take 39 = .ok (.invokestatic 67, 3) := by decide +kernel
theorem dS_take_42 : decode cS_take 42 = .ok (.aload_n 0, 1) := by decide +kernel
theorem dS_take_43 : decode cS_take 43 = .ok (.iload_n 1, 1) := by decide +kernel
theorem dS_take_44 : decode cS_take 44 = .ok (.aload_n 0, 1) := by decide +kernel
theorem dS_take_45 : decode cS_take 45 = .ok (.getfield 20, 3) := by decide +kernel
theorem dS_take_48 : decode cS_take 48 = .ok (.iadd, 1) := by decide +kernel
theorem dS_take_49 : decode cS_take 49 = .ok (.putfield 13, 3) := by decide +kernel
theorem dS_take_52 : decode cS_take 52 = .ok (.aload_n 0, 1) := by decide +kernel
theorem dS_take_53 : decode cS_take 53 = .ok (.getfield 13, 3) := by decide +kernel
theorem dS_take_56 : decode cS_take 56 = .ok (.ireturn, 1) := by decide +kernel
theorem dS_key_0 : decode cS_key 0 = .ok (.aload_n 0, 1) := by decide +kernel
theorem dS_key_1 : decode cS_key 1 = .ok (.getfield 13, 3) := by decide +kernel
theorem dS_key_4 : decode cS_key 4 = .ok (.bipush 32, 2) := by decide +kernel
theorem dS_key_6 : decode cS_key 6 = .ok (.if_icmp .ne 7, 3) := by decide +kernel
theorem dS_key_9 : decode cS_key 9 = .ok (.iconst 1, 1) := by decide +kernel
theorem dS_key_10 : decode cS_key 10 = .ok (.goto 4, 3) := by decide +kernel
theorem dS_key_13 : decode cS_key 13 = .ok (.iconst 0, 1) := by decide +kernel
theorem dS_key_14 : decode cS_key 14 = .ok (.istore_n 1, 1) := by decide +kernel
theorem dS_key_15 : decode cS_key 15 = .ok (.iload_n 1, 1) := by decide +kernel
theorem dS_key_16 : decode cS_key 16 = .ok (.ifCond .eq 18, 3) := by decide +kernel
theorem dS_key_19 : decode cS_key 19 = .ok (.aload_n 0, 1) := by decide +kernel
theorem dS_key_20 : decode cS_key 20 = .ok (.getfield 9, 3) := by decide +kernel
theorem dS_key_23 : decode cS_key 23 = .ok (.iconst 0, 1) := by decide +kernel
theorem dS_key_24 : decode cS_key 24 = .ok (.aload_n 0, 1) := by decide +kernel
theorem dS_key_25 : decode cS_key 25 = .ok (.getfield 23, 3) := by decide +kernel
theorem dS_key_28 : decode cS_key 28 = .ok (.iconst 0, 1) := by decide +kernel
theorem dS_key_29 : decode cS_key 29 = .ok (.bipush 32, 2) := by decide +kernel
theorem dS_key_31 : decode cS_key 31 = .ok (.invokestatic 67, 3) := by decide +kernel
theorem dS_key_34 : decode cS_key 34 = .ok (.aload_n 0, 1) := by decide +kernel
theorem dS_key_35 : decode cS_key 35 = .ok (.iconst 0, 1) := by decide +kernel
theorem dS_key_36 : decode cS_key 36 = .ok (.putfield 13, 3) := by decide +kernel
theorem dS_key_39 : decode cS_key 39 = .ok (.iload_n 1, 1) := by decide +kernel
theorem dS_key_40 : decode cS_key 40 = .ok (.ifCond .eq 7, 3) := by decide +kernel
theorem dS_key_43 : decode cS_key 43 = .ok (.iconst 0, 1) := by decide +kernel
theorem dS_key_44 : decode cS_key 44 = .ok (.goto 4, 3) := by decide +kernel
theorem dS_key_47 : decode cS_key 47 = .ok (.iconst (-1), 1) := by decide +kernel
theorem dS_key_48 : decode cS_key 48 = .ok (.ireturn, 1) := by decide +kernel
theorem dS_nonce_0 : decode cS_nonce 0 = .ok (.aload_n 0, 1) := by decide +kernel
theorem dS_nonce_1 : decode cS_nonce 1 = .ok (.getfield 26, 3) := by decide +kernel
theorem dS_nonce_4 : decode cS_nonce 4 = .ok (.iconst 0, 1) := by decide +kernel
theorem dS_nonce_5 : decode cS_nonce 5 = .ok (.iload_n 1, 1) := by decide +kernel
theorem dS_nonce_6 : decode cS_nonce 6 = .ok (.invokestatic 59, 3) := by decide +kernel
theorem dS_nonce_9 : decode cS_nonce 9 = .ok (.aload_n 0, 1) := by decide +kernel
theorem dS_nonce_10 : decode cS_nonce 10 = .ok (.getfield 26, 3) := by decide +kernel
theorem dS_nonce_13 : decode cS_nonce 13 = .ok (.iconst 4, 1) := by decide +kernel
theorem dS_nonce_14 : decode cS_nonce 14 = .ok (.lload_n 2, 1) := by decide +kernel
theorem dS_nonce_15 : decode cS_nonce 15 = .ok (.bipush 32, 2) := by decide +kernel
theorem dS_nonce_17 : decode cS_nonce 17 = .ok (.lushr, 1) := by decide +kernel
theorem dS_nonce_18 : decode cS_nonce 18 = .ok (.l2i, 1) := by decide +kernel
theorem dS_nonce_19 : decode cS_nonce 19 = .ok (.invokestatic 59, 3) := by decide +kernel
theorem dS_nonce_22 : decode cS_nonce 22 = .ok (.aload_n 0, 1) := by decide +kernel
theorem dS_nonce_23 : decode cS_nonce 23 = .ok (.getfield 26, 3) := by decide +kernel
theorem dS_nonce_26 : decode cS_nonce 26 = .ok (.bipush 8, 2) := by decide +kernel
theorem dS_nonce_28 : decode cS_nonce 28 = .ok (.lload_n 2, 1) := by decide +kernel
theorem dS_nonce_29 : decode cS_nonce 29 = .ok (.l2i, 1) := by decide +kernel
theorem dS_nonce_30 : decode cS_nonce 30 = .ok (.invokestatic 59, 3) := by decide +kernel
theorem dS_nonce_33 : decode cS_nonce 33 = .ok (.return_, 1) := by decide +kernel
theorem dS_stream_0 : decode cS_stream 0 = .ok (.aload_n 0, 1) := by decide +kernel
theorem dS_stream_1 : decode cS_stream 1 = .ok (.getfield 41, 3) := by decide +kernel
theorem dS_stream_4 : decode cS_stream 4 = .ok (.aload_n 0, 1) := by decide +kernel
theorem dS_stream_5 : decode cS_stream 5 = .ok (.getfield 17, 3) := by decide +kernel
theorem dS_stream_8 : decode cS_stream 8 = .ok (.aload_n 0, 1) := by decide +kernel
theorem dS_stream_9 : decode cS_stream 9 = .ok (.getfield 23, 3) := by decide +kernel
theorem dS_stream_12 : decode cS_stream 12 = .ok (.aload_n 0, 1) := by decide +kernel
theorem dS_stream_13 : decode cS_stream 13 = .ok (.getfield 26, 3) := by decide +kernel
theorem dS_stream_16 : decode cS_stream 16 = .ok (.iload_n 1, 1) := by decide +kernel
theorem dS_stream_17 : decode cS_stream 17 = .ok (.invokevirtual 73, 3) := by decide +kernel
theorem dS_stream_20 : decode cS_stream 20 = .ok (.aload_n 0, 1) := by decide +kernel
theorem dS_stream_21 : decode cS_stream 21 = .ok (.bipush 64, 2) := by decide +kernel
theorem dS_stream_23 : decode cS_stream 23 = .ok (.putfield 20, 3) := by decide +kernel
theorem dS_stream_26 : decode cS_stream 26 = .ok (.aload_n 0, 1) := by decide +kernel
theorem dS_stream_27 : decode cS_stream 27 = .ok (.getfield 20, 3) := by decide +kernel
theorem dS_stream_30 : decode cS_stream 30 = .ok (.ireturn, 1) := by decide +kernel
theorem dS_sum_0 : decode cS_sum 0 = .ok (.aload_n 0, 1) := by decide +kernel
theorem dS_sum_1 : decode cS_sum 1 = .ok (.getfield 48, 3) := by decide +kernel
theorem dS_sum_4 : decode cS_sum 4 = .ok (.aload_n 0, 1) := by decide +kernel
theorem dS_sum_5 : decode cS_sum 5 = .ok (.getfield 23, 3) := by decide +kernel
theorem dS_sum_8 : decode cS_sum 8 = .ok (.invokevirtual 77, 3) := by decide +kernel
theorem dS_sum_11 : decode cS_sum 11 = .ok (.aload_n 0, 1) := by decide +kernel
theorem dS_sum_12 : decode cS_sum 12 = .ok (.getfield 48, 3) := by decide +kernel
theorem dS_sum_15 : decode cS_sum 15 = .ok (.aload_n 0, 1) := by decide +kernel
theorem dS_sum_16 : decode cS_sum 16 = .ok (.getfield 9, 3) := by decide +kernel
theorem dS_sum_19 : decode cS_sum 19 = .ok (.iconst 0, 1) := by decide +kernel
theorem dS_sum_20 : decode cS_sum 20 = .ok (.aload_n 0, 1) := by decide +kernel
theorem dS_sum_21 : decode cS_sum 21 = .ok (.getfield 13, 3) := by decide +kernel
theorem dS_sum_24 : decode cS_sum 24 = .ok (.invokevirtual 81, 3) := by decide +kernel
theorem dS_sum_27 : decode cS_sum 27 = .ok (.aload_n 0, 1) := by decide +kernel
theorem dS_sum_28 : decode cS_sum 28 = .ok (.getfield 48, 3) := by decide +kernel
theorem dS_sum_31 : decode cS_sum 31 = .ok (.aload_n 0, 1) := by decide +kernel
theorem dS_sum_32 : decode cS_sum 32 = .ok (.getfield 17, 3) := by decide +kernel
theorem dS_sum_35 : decode cS_sum 35 = .ok (.iconst 0, 1) := by decide +kernel
theorem dS_sum_36 : decode cS_sum 36 = .ok (.invokevirtual 84, 3) := by decide +kernel
theorem dS_sum_39 : decode cS_sum 39 = .ok (.aload_n 0, 1) := by decide +kernel
theorem dS_sum_40 : decode cS_sum 40 = .ok (.bipush 16, 2) := by decide +kernel
theorem dS_sum_42 : decode cS_sum 42 = .ok (.putfield 20, 3) := by decide +kernel
theorem dS_sum_45 : decode cS_sum 45 = .ok (.aload_n 0, 1) := by decide +kernel
theorem dS_sum_46 : decode cS_sum 46 = .ok (.iconst 0, 1) := by decide +kernel
theorem dS_sum_47 : decode cS_sum 47 = .ok (.putfield 13, 3) := by decide +kernel
theorem dS_sum_50 : decode cS_sum 50 = .ok (.aload_n 0, 1) := by decide +kernel
theorem dS_sum_51 : decode cS_sum 51 = .ok (.getfield 20, 3) := by decide +kernel
theorem dS_sum_54 : decode cS_sum 54 = .ok (.ireturn, 1) := by decide +kernel
theorem dS_seal_0 : decode cS_seal 0 = .ok (.aload_n 0, 1) := by decide +kernel
theorem dS_seal_1 : decode cS_seal 1 = .ok (.iload_n 1, 1) := by decide +kernel
theorem dS_seal_2 : decode cS_seal 2 = .ok (.invokevirtual 63, 3) := by decide +kernel
theorem dS_seal_5 : decode cS_seal 5 = .ok (.ifCond .ne 5, 3) := by decide +kernel
theorem dS_seal_8 : decode cS_seal 8 = .ok (.iconst (-1), 1) := by decide +kernel
theorem dS_seal_9 : decode cS_seal 9 = .ok (.ireturn, 1) := by decide +kernel
theorem dS_seal_10 : decode cS_seal 10 = .ok (.aload_n 0, 1) := by decide +kernel
theorem dS_seal_11 : decode cS_seal 11 = .ok (.getfield 13, 3) := by decide +kernel
theorem dS_seal_14 : decode cS_seal 14 = .ok (.iload_n 1, 1) := by decide +kernel
theorem dS_seal_15 : decode cS_seal 15 = .ok (.isub, 1) := by decide +kernel
theorem dS_seal_16 : decode cS_seal 16 = .ok (.istore_n 2, 1) := by decide +kernel
theorem dS_seal_17 : decode cS_seal 17 = .ok (.aload_n 0, 1) := by decide +kernel
theorem dS_seal_18 : decode cS_seal 18 = .ok (.iload_n 1, 1) := by decide +kernel
theorem dS_seal_19 : decode cS_seal 19 = .ok (.iload_n 2, 1) := by decide +kernel
theorem dS_seal_20 : decode cS_seal 20 = .ok (.invokevirtual 88, 3) := by decide +kernel
theorem dS_seal_23 : decode cS_seal 23 = .ok (.aload_n 0, 1) := by decide +kernel
theorem dS_seal_24 : decode cS_seal 24 = .ok (.iload_n 1, 1) := by decide +kernel
theorem dS_seal_25 : decode cS_seal 25 = .ok (.aload_n 0, 1) := by decide +kernel
theorem dS_seal_26 : decode cS_seal 26 = .ok (.getfield 17, 3) := by decide +kernel
theorem dS_seal_29 : decode cS_seal 29 = .ok (.iconst 0, 1) := by decide +kernel
theorem dS_seal_30 : decode cS_seal 30 = .ok (.iload_n 2, 1) := by decide +kernel
theorem dS_seal_31 : decode cS_seal 31 = .ok (.invokevirtual 92, 3) := by decide +kernel
theorem dS_seal_34 : decode cS_seal 34 = .ok (.aload_n 0, 1) := by decide +kernel
theorem dS_seal_35 : decode cS_seal 35 = .ok (.getfield 35, 3) := by decide +kernel
theorem dS_seal_38 : decode cS_seal 38 = .ok (.iconst 0, 1) := by decide +kernel
theorem dS_seal_39 : decode cS_seal 39 = .ok (.aload_n 0, 1) := by decide +kernel
theorem dS_seal_40 : decode cS_seal 40 = .ok (.getfield 17, 3) := by decide +kernel
theorem dS_seal_43 : decode cS_seal 43 = .ok (.iload_n 2, 1) := by decide +kernel
theorem dS_seal_44 : decode cS_seal 44 = .ok (.bipush 16, 2) := by decide +kernel
theorem dS_seal_46 : decode cS_seal 46 = .ok (.invokestatic 67, 3) := by decide +kernel
theorem dS_seal_49 : decode cS_seal 49 = .ok (.aload_n 0, 1) := by decide +kernel
theorem dS_seal_50 : decode cS_seal 50 = .ok (.iload_n 2, 1) := by decide +kernel
theorem dS_seal_51 : decode cS_seal 51 = .ok (.bipush 16, 2) := by decide +kernel
theorem dS_seal_53 : decode cS_seal 53 = .ok (.iadd, 1) := by decide +kernel
theorem dS_seal_54 : decode cS_seal 54 = .ok (.putfield 20, 3) := by decide +kernel
theorem dS_seal_57 : decode cS_seal 57 = .ok (.aload_n 0, 1) := by decide +kernel
theorem dS_seal_58 : decode cS_seal 58 = .ok (.iconst 0, 1) := by decide +kernel
theorem dS_seal_59 : decode cS_seal 59 = .ok (.putfield 13, 3) := by decide +kernel
theorem dS_seal_62 : decode cS_seal 62 = .ok (.aload_n 0, 1) := by decide +kernel
theorem dS_seal_63 : decode cS_seal 63 = .ok (.getfield 20, 3) := by decide +kernel
theorem dS_seal_66 : decode cS_seal 66 = .ok (.ireturn, 1) := by decide +kernel
theorem dS_open_0 : decode cS_open 0 = .ok (.iload_n 1, 1) := by decide +kernel
theorem dS_open_1 : decode cS_open 1 = .ok (.ifCond .lt 14, 3) := by decide +kernel
theorem dS_open_4 : decode cS_open 4 = .ok (.iload_n 1, 1) := by decide +kernel
theorem dS_open_5 : decode cS_open 5 = .ok (.aload_n 0, 1) := by decide +kernel
theorem dS_open_6 : decode cS_open 6 = .ok (.getfield 13, 3) := by decide +kernel
theorem dS_open_9 : decode cS_open 9 = .ok (.bipush 16, 2) := by decide +kernel
theorem dS_open_11 : decode cS_open 11 = .ok (.isub, 1) := by decide +kernel
theorem dS_open_12 : decode cS_open 12 = .ok (.if_icmp .le 5, 3) := by decide +kernel
theorem dS_open_15 : decode cS_open 15 = .ok (.iconst (-1), 1) := by decide +kernel
theorem dS_open_16 : decode cS_open 16 = .ok (.ireturn, 1) := by decide +kernel
theorem dS_open_17 : decode cS_open 17 = .ok (.aload_n 0, 1) := by decide +kernel
theorem dS_open_18 : decode cS_open 18 = .ok (.getfield 13, 3) := by decide +kernel
theorem dS_open_21 : decode cS_open 21 = .ok (.bipush 16, 2) := by decide +kernel
theorem dS_open_23 : decode cS_open 23 = .ok (.isub, 1) := by decide +kernel
theorem dS_open_24 : decode cS_open 24 = .ok (.iload_n 1, 1) := by decide +kernel
theorem dS_open_25 : decode cS_open 25 = .ok (.isub, 1) := by decide +kernel
theorem dS_open_26 : decode cS_open 26 = .ok (.istore_n 2, 1) := by decide +kernel
theorem dS_open_27 : decode cS_open 27 = .ok (.aload_n 0, 1) := by decide +kernel
theorem dS_open_28 : decode cS_open 28 = .ok (.iload_n 1, 1) := by decide +kernel
theorem dS_open_29 : decode cS_open 29 = .ok (.aload_n 0, 1) := by decide +kernel
theorem dS_open_30 : decode cS_open 30 = .ok (.getfield 9, 3) := by decide +kernel
theorem dS_open_33 : decode cS_open 33 = .ok (.iload_n 1, 1) := by decide +kernel
theorem dS_open_34 : decode cS_open 34 = .ok (.iload_n 2, 1) := by decide +kernel
theorem dS_open_35 : decode cS_open 35 = .ok (.invokevirtual 92, 3) := by decide +kernel
theorem dS_open_38 : decode cS_open 38 = .ok (.aload_n 0, 1) := by decide +kernel
theorem dS_open_39 : decode cS_open 39 = .ok (.iconst 0, 1) := by decide +kernel
theorem dS_open_40 : decode cS_open 40 = .ok (.putfield 13, 3) := by decide +kernel
theorem dS_open_43 : decode cS_open 43 = .ok (.aload_n 0, 1) := by decide +kernel
theorem dS_open_44 : decode cS_open 44 = .ok (.iload_n 1, 1) := by decide +kernel
theorem dS_open_45 : decode cS_open 45 = .ok (.iload_n 2, 1) := by decide +kernel
theorem dS_open_46 : decode cS_open 46 = .ok (.iadd, 1) := by decide +kernel
theorem dS_open_47 : decode cS_open 47 = .ok (.invokevirtual 96, 3) := by decide +kernel
theorem dS_open_50 : decode cS_open 50 = .ok (.ifCond .ne 6, 3) := by decide +kernel
theorem dS_open_53 : decode cS_open 53 = .ok (.bipush (-2), 2) := by decide +kernel
theorem dS_open_55 : decode cS_open 55 = .ok (.ireturn, 1) := by decide +kernel
theorem dS_open_56 : decode cS_open 56 = .ok (.aload_n 0, 1) := by decide +kernel
theorem dS_open_57 : decode cS_open 57 = .ok (.iload_n 1, 1) := by decide +kernel
theorem dS_open_58 : decode cS_open 58 = .ok (.iload_n 2, 1) := by decide +kernel
theorem dS_open_59 : decode cS_open 59 = .ok (.invokevirtual 88, 3) := by decide +kernel
theorem dS_open_62 : decode cS_open 62 = .ok (.aload_n 0, 1) := by decide +kernel
theorem dS_open_63 : decode cS_open 63 = .ok (.iload_n 2, 1) := by decide +kernel
theorem dS_open_64 : decode cS_open 64 = .ok (.putfield 20, 3) := by decide +kernel
theorem dS_open_67 : decode cS_open 67 = .ok (.aload_n 0, 1) := by decide +kernel
theorem dS_open_68 : decode cS_open 68 = .ok (.getfield 20, 3) := by decide +kernel
theorem dS_open_71 : decode cS_open 71 = .ok (.ireturn, 1) := by decide +kernel
theorem dS_digest_0 : decode cS_digest 0 = .ok (.aload_n 0, 1) := by decide +kernel
theorem dS_digest_1 : decode cS_digest 1 = .ok (.getfield 55, 3) := by decide +kernel
theorem dS_digest_4 : decode cS_digest 4 = .ok (.invokevirtual 99, 3) := by decide +kernel
theorem dS_digest_7 : decode cS_digest 7 = .ok (.aload_n 0, 1) := by decide +kernel
theorem dS_digest_8 : decode cS_digest 8 = .ok (.getfield 55, 3) := by decide +kernel
theorem dS_digest_11 : decode cS_digest 11 = .ok (.aload_n 0, 1) := by decide +kernel
theorem dS_digest_12 : decode cS_digest 12 = .ok (.getfield 9, 3) := by decide +kernel
theorem dS_digest_15 : decode cS_digest 15 = .ok (.aload_n 0, 1) := by decide +kernel
theorem dS_digest_16 : decode cS_digest 16 = .ok (.getfield 13, 3) := by decide +kernel
theorem dS_digest_19 : decode cS_digest 19 = .ok (.invokevirtual 101, 3) := by decide +kernel
theorem dS_digest_22 : decode cS_digest 22 = .ok (.aload_n 0, 1) := by decide +kernel
theorem dS_digest_23 : decode cS_digest 23 = .ok (.getfield 55, 3) := by decide +kernel
theorem dS_digest_26 : decode cS_digest 26 = .ok (.aload_n 0, 1) := by decide +kernel
theorem dS_digest_27 : decode cS_digest 27 = .ok (.getfield 17, 3) := by decide +kernel
theorem dS_digest_30 : decode cS_digest 30 = .ok (.invokevirtual 103, 3) := by decide +kernel
theorem dS_digest_33 : decode cS_digest 33 = .ok (.aload_n 0, 1) := by decide +kernel
theorem dS_digest_34 : decode cS_digest 34 = .ok (.bipush 32, 2) := by decide +kernel
theorem dS_digest_36 : decode cS_digest 36 = .ok (.putfield 20, 3) := by decide +kernel
theorem dS_digest_39 : decode cS_digest 39 = .ok (.aload_n 0, 1) := by decide +kernel
theorem dS_digest_40 : decode cS_digest 40 = .ok (.iconst 0, 1) := by decide +kernel
theorem dS_digest_41 : decode cS_digest 41 = .ok (.putfield 13, 3) := by decide +kernel
theorem dS_digest_44 : decode cS_digest 44 = .ok (.aload_n 0, 1) := by decide +kernel
theorem dS_digest_45 : decode cS_digest 45 = .ok (.getfield 20, 3) := by decide +kernel
theorem dS_digest_48 : decode cS_digest 48 = .ok (.ireturn, 1) := by decide +kernel
theorem dS_mac_0 : decode cS_mac 0 = .ok (.aload_n 0, 1) := by decide +kernel
theorem dS_mac_1 : decode cS_mac 1 = .ok (.getfield 55, 3) := by decide +kernel
theorem dS_mac_4 : decode cS_mac 4 = .ok (.invokevirtual 99, 3) := by decide +kernel
theorem dS_mac_7 : decode cS_mac 7 = .ok (.aload_n 0, 1) := by decide +kernel
theorem dS_mac_8 : decode cS_mac 8 = .ok (.getfield 55, 3) := by decide +kernel
theorem dS_mac_11 : decode cS_mac 11 = .ok (.aload_n 0, 1) := by decide +kernel
theorem dS_mac_12 : decode cS_mac 12 = .ok (.getfield 23, 3) := by decide +kernel
theorem dS_mac_15 : decode cS_mac 15 = .ok (.bipush 54, 2) := by decide +kernel
theorem dS_mac_17 : decode cS_mac 17 = .ok (.invokevirtual 105, 3) := by decide +kernel
theorem dS_mac_20 : decode cS_mac 20 = .ok (.aload_n 0, 1) := by decide +kernel
theorem dS_mac_21 : decode cS_mac 21 = .ok (.getfield 55, 3) := by decide +kernel
theorem dS_mac_24 : decode cS_mac 24 = .ok (.aload_n 0, 1) := by decide +kernel
theorem dS_mac_25 : decode cS_mac 25 = .ok (.getfield 9, 3) := by decide +kernel
theorem dS_mac_28 : decode cS_mac 28 = .ok (.aload_n 0, 1) := by decide +kernel
theorem dS_mac_29 : decode cS_mac 29 = .ok (.getfield 13, 3) := by decide +kernel
theorem dS_mac_32 : decode cS_mac 32 = .ok (.invokevirtual 101, 3) := by decide +kernel
theorem dS_mac_35 : decode cS_mac 35 = .ok (.aload_n 0, 1) := by decide +kernel
theorem dS_mac_36 : decode cS_mac 36 = .ok (.getfield 55, 3) := by decide +kernel
theorem dS_mac_39 : decode cS_mac 39 = .ok (.aload_n 0, 1) := by decide +kernel
theorem dS_mac_40 : decode cS_mac 40 = .ok (.getfield 17, 3) := by decide +kernel
theorem dS_mac_43 : decode cS_mac 43 = .ok (.invokevirtual 103, 3) := by decide +kernel
theorem dS_mac_46 : decode cS_mac 46 = .ok (.aload_n 0, 1) := by decide +kernel
theorem dS_mac_47 : decode cS_mac 47 = .ok (.getfield 55, 3) := by decide +kernel
theorem dS_mac_50 : decode cS_mac 50 = .ok (.invokevirtual 99, 3) := by decide +kernel
theorem dS_mac_53 : decode cS_mac 53 = .ok (.aload_n 0, 1) := by decide +kernel
theorem dS_mac_54 : decode cS_mac 54 = .ok (.getfield 55, 3) := by decide +kernel
theorem dS_mac_57 : decode cS_mac 57 = .ok (.aload_n 0, 1) := by decide +kernel
theorem dS_mac_58 : decode cS_mac 58 = .ok (.getfield 23, 3) := by decide +kernel
theorem dS_mac_61 : decode cS_mac 61 = .ok (.bipush 92, 2) := by decide +kernel
theorem dS_mac_63 : decode cS_mac 63 = .ok (.invokevirtual 105, 3) := by decide +kernel
theorem dS_mac_66 : decode cS_mac 66 = .ok (.aload_n 0, 1) := by decide +kernel
theorem dS_mac_67 : decode cS_mac 67 = .ok (.getfield 55, 3) := by decide +kernel
theorem dS_mac_70 : decode cS_mac 70 = .ok (.aload_n 0, 1) := by decide +kernel
theorem dS_mac_71 : decode cS_mac 71 = .ok (.getfield 17, 3) := by decide +kernel
theorem dS_mac_74 : decode cS_mac 74 = .ok (.bipush 32, 2) := by decide +kernel
theorem dS_mac_76 : decode cS_mac 76 = .ok (.invokevirtual 101, 3) := by decide +kernel
theorem dS_mac_79 : decode cS_mac 79 = .ok (.aload_n 0, 1) := by decide +kernel
theorem dS_mac_80 : decode cS_mac 80 = .ok (.getfield 55, 3) := by decide +kernel
theorem dS_mac_83 : decode cS_mac 83 = .ok (.aload_n 0, 1) := by decide +kernel
theorem dS_mac_84 : decode cS_mac 84 = .ok (.getfield 17, 3) := by decide +kernel
theorem dS_mac_87 : decode cS_mac 87 = .ok (.invokevirtual 103, 3) := by decide +kernel
theorem dS_mac_90 : decode cS_mac 90 = .ok (.aload_n 0, 1) := by decide +kernel
theorem dS_mac_91 : decode cS_mac 91 = .ok (.bipush 32, 2) := by decide +kernel
theorem dS_mac_93 : decode cS_mac 93 = .ok (.putfield 20, 3) := by decide +kernel
theorem dS_mac_96 : decode cS_mac 96 = .ok (.aload_n 0, 1) := by decide +kernel
theorem dS_mac_97 : decode cS_mac 97 = .ok (.iconst 0, 1) := by decide +kernel
theorem dS_mac_98 : decode cS_mac 98 = .ok (.putfield 13, 3) := by decide +kernel
theorem dS_mac_101 : decode cS_mac 101 = .ok (.aload_n 0, 1) := by decide +kernel
theorem dS_mac_102 : decode cS_mac 102 = .ok (.getfield 20, 3) := by decide +kernel
theorem dS_mac_105 : decode cS_mac 105 = .ok (.ireturn, 1) := by decide +kernel
theorem dS_octet_0 : decode cS_octet 0 = .ok (.iload_n 1, 1) := by decide +kernel
theorem dS_octet_1 : decode cS_octet 1 = .ok (.iconst (-1), 1) := by decide +kernel
theorem dS_octet_2 : decode cS_octet 2 = .ok (.if_icmp .ne 8, 3) := by decide +kernel
theorem dS_octet_5 : decode cS_octet 5 = .ok (.aload_n 0, 1) := by decide +kernel
theorem dS_octet_6 : decode cS_octet 6 = .ok (.getfield 20, 3) := by decide +kernel
theorem dS_octet_9 : decode cS_octet 9 = .ok (.ireturn, 1) := by decide +kernel
theorem dS_octet_10 : decode cS_octet 10 = .ok (.iload_n 1, 1) := by decide +kernel
theorem dS_octet_11 : decode cS_octet 11 = .ok (.ifCond .lt 11, 3) := by decide +kernel
theorem dS_octet_14 : decode cS_octet 14 = .ok (.iload_n 1, 1) := by decide +kernel
theorem dS_octet_15 : decode cS_octet 15 = .ok (.aload_n 0, 1) := by decide +kernel
theorem dS_octet_16 : decode cS_octet 16 = .ok (.getfield 20, 3) := by decide +kernel
theorem dS_octet_19 : decode cS_octet 19 = .ok (.if_icmp .lt 6, 3) := by decide +kernel
theorem dS_octet_22 : decode cS_octet 22 = .ok (.bipush (-2), 2) := by decide +kernel
theorem dS_octet_24 : decode cS_octet 24 = .ok (.ireturn, 1) := by decide +kernel
theorem dS_octet_25 : decode cS_octet 25 = .ok (.aload_n 0, 1) := by decide +kernel
theorem dS_octet_26 : decode cS_octet 26 = .ok (.getfield 17, 3) := by decide +kernel
theorem dS_octet_29 : decode cS_octet 29 = .ok (.iload_n 1, 1) := by decide +kernel
theorem dS_octet_30 : decode cS_octet 30 = .ok (.baload, 1) := by decide +kernel
theorem dS_octet_31 : decode cS_octet 31 = .ok (.sipush 255, 3) := by decide +kernel
theorem dS_octet_34 : decode cS_octet 34 = .ok (.iand, 1) := by decide +kernel
theorem dS_octet_35 : decode cS_octet 35 = .ok (.ireturn, 1) := by decide +kernel
theorem dS_tapeReaches_0 : decode cS_tapeReaches 0 = .ok (.iload_n 1, 1) := by decide +kernel
theorem dS_tapeReaches_1 : decode cS_tapeReaches 1 = .ok (.ifCond .lt 15, 3) := by decide +kernel
theorem dS_tapeReaches_4 : decode cS_tapeReaches 4 = .ok (.iload_n 1, 1) := by decide +kernel
theorem dS_tapeReaches_5 : decode cS_tapeReaches 5 = .ok (.aload_n 0, 1) := by decide +kernel
theorem dS_tapeReaches_6 : decode cS_tapeReaches 6 = .ok (.getfield 13, 3) := by decide +kernel
theorem dS_tapeReaches_9 : decode cS_tapeReaches 9 = .ok (.if_icmp .gt 7, 3) := by decide +kernel
theorem dS_tapeReaches_12 : decode cS_tapeReaches 12 = .ok (.iconst 1, 1) := by decide +kernel
theorem dS_tapeReaches_13 : decode cS_tapeReaches 13 = .ok (.goto 4, 3) := by decide +kernel
theorem dS_tapeReaches_16 : decode cS_tapeReaches 16 = .ok (.iconst 0, 1) := by decide +kernel
theorem dS_tapeReaches_17 : decode cS_tapeReaches 17 = .ok (.ireturn, 1) := by decide +kernel
theorem dS_streamTapeToOut_0 : decode cS_streamTapeToOut 0 = .ok (.iconst 1, 1) := by decide +kernel
theorem dS_streamTapeToOut_1 : decode cS_streamTapeToOut 1 = .ok (.istore_n 3, 1) := by decide +kernel
theorem dS_streamTapeToOut_2 : decode cS_streamTapeToOut 2 = .ok (.iconst 0, 1) := by decide +kernel
theorem dS_streamTapeToOut_3 : decode cS_streamTapeToOut 3 = .ok (.istore 4, 2) := by decide +kernel
theorem dS_streamTapeToOut_5 : decode cS_streamTapeToOut 5 = .ok (.iload 4, 2) := by decide +kernel
theorem dS_streamTapeToOut_7 : decode cS_streamTapeToOut 7 = .ok (.iload_n 2, 1) := by decide +kernel
theorem dS_streamTapeToOut_8 : decode cS_streamTapeToOut 8 = .ok (.if_icmp .ge 90, 3) := by decide +kernel
theorem dS_streamTapeToOut_11 : decode cS_streamTapeToOut 11 = .ok (.aload_n 0, 1) := by decide +kernel
theorem dS_streamTapeToOut_12 : decode cS_streamTapeToOut 12 = .ok (.getfield 41, 3) := by decide +kernel
theorem dS_streamTapeToOut_15 : decode cS_streamTapeToOut 15 = .ok (.aload_n 0, 1) := by decide +kernel
theorem dS_streamTapeToOut_16 : decode cS_streamTapeToOut 16 = .ok (.getfield 29, 3) := by decide +kernel
theorem dS_streamTapeToOut_19 : decode cS_streamTapeToOut 19 = .ok (.aload_n 0, 1) := by decide +kernel
theorem dS_streamTapeToOut_20 : decode cS_streamTapeToOut 20 = .ok (.getfield 23, 3) := by decide +kernel
theorem dS_streamTapeToOut_23 : decode cS_streamTapeToOut 23 = .ok (.aload_n 0, 1) := by decide +kernel
theorem dS_streamTapeToOut_24 : decode cS_streamTapeToOut 24 = .ok (.getfield 26, 3) := by decide +kernel
theorem dS_streamTapeToOut_27 : decode cS_streamTapeToOut 27 = .ok (.iload_n 3, 1) := by decide +kernel
theorem dS_streamTapeToOut_28 : decode cS_streamTapeToOut 28 = .ok (.invokevirtual 73, 3) := by decide +kernel
theorem dS_streamTapeToOut_31 : decode cS_streamTapeToOut 31 = .ok (.bipush 64, 2) := by decide +kernel
theorem dS_streamTapeToOut_33 : decode cS_streamTapeToOut 33 = .ok (.iload_n 2, 1) := by decide +kernel
theorem dS_streamTapeToOut_34 : decode cS_streamTapeToOut 34 = .ok (.iload 4, 2) := by decide +kernel
theorem dS_streamTapeToOut_36 : decode cS_streamTapeToOut 36 = .ok (.isub, 1) := by decide +kernel
theorem dS_streamTapeToOut_37 : decode cS_streamTapeToOut 37 = .ok (.invokestatic 108, 3) := by decide +kernel
theorem dS_streamTapeToOut_40 : decode cS_streamTapeToOut 40 = .ok (.istore 5, 2) := by decide +kernel
theorem dS_streamTapeToOut_42 : decode cS_streamTapeToOut 42 = .ok (.iconst 0, 1) := by decide +kernel
theorem dS_streamTapeToOut_43 : decode cS_streamTapeToOut 43 = .ok (.istore 6, 2) := by decide +kernel
theorem dS_streamTapeToOut_45 : decode cS_streamTapeToOut 45 = .ok (.iload 6, 2) := by decide +kernel
theorem dS_streamTapeToOut_47 : decode cS_streamTapeToOut 47 = .ok (.iload 5, 2) := by decide +kernel
theorem dS_streamTapeToOut_49 : decode cS_streamTapeToOut 49 = .ok (.if_icmp .ge 40, 3) := by decide +kernel
theorem dS_streamTapeToOut_52 : decode cS_streamTapeToOut 52 = .ok (.aload_n 0, 1) := by decide +kernel
theorem dS_streamTapeToOut_53 : decode cS_streamTapeToOut 53 = .ok (.getfield 17, 3) := by decide +kernel
theorem dS_streamTapeToOut_56 : decode cS_streamTapeToOut 56 = .ok (.iload 4, 2) := by decide +kernel
theorem dS_streamTapeToOut_58 : decode cS_streamTapeToOut 58 = .ok (.iload 6, 2) := by decide +kernel
theorem dS_streamTapeToOut_60 : decode cS_streamTapeToOut 60 = .ok (.iadd, 1) := by decide +kernel
theorem dS_streamTapeToOut_61 : decode cS_streamTapeToOut 61 = .ok (.aload_n 0, 1) := by decide +kernel
theorem dS_streamTapeToOut_62 : decode cS_streamTapeToOut 62 = .ok (.getfield 9, 3) := by decide +kernel
theorem dS_streamTapeToOut_65 : decode cS_streamTapeToOut 65 = .ok (.iload_n 1, 1) := by decide +kernel
theorem dS_streamTapeToOut_66 : decode cS_streamTapeToOut 66 = .ok (.iload 4, 2) := by decide +kernel
theorem dS_streamTapeToOut_68 : decode cS_streamTapeToOut 68 = .ok (.iadd, 1) := by decide +kernel
theorem dS_streamTapeToOut_69 : decode cS_streamTapeToOut 69 = .ok (.iload 6, 2) := by decide +kernel
theorem dS_streamTapeToOut_71 : decode cS_streamTapeToOut 71 = .ok (.iadd, 1) := by decide +kernel
theorem dS_streamTapeToOut_72 : decode cS_streamTapeToOut 72 = .ok (.baload, 1) := by decide +kernel
theorem dS_streamTapeToOut_73 : decode cS_streamTapeToOut 73 = .ok (.aload_n 0, 1) := by decide +kernel
theorem dS_streamTapeToOut_74 : decode cS_streamTapeToOut 74 = .ok (.getfield 29, 3) := by decide +kernel
theorem dS_streamTapeToOut_77 : decode cS_streamTapeToOut 77 = .ok (.iload 6, 2) := by decide +kernel
theorem dS_streamTapeToOut_79 : decode cS_streamTapeToOut 79 = .ok (.baload, 1) := by decide +kernel
theorem dS_streamTapeToOut_80 : decode cS_streamTapeToOut 80 = .ok (.ixor, 1) := by decide +kernel
theorem dS_streamTapeToOut_81 : decode cS_streamTapeToOut 81 = .ok (.i2b, 1) := by decide +kernel
theorem dS_streamTapeToOut_82 : decode cS_streamTapeToOut 82 = .ok (.bastore, 1) := by decide +kernel
theorem dS_streamTapeToOut_83 : decode cS_streamTapeToOut 83 = .ok (.iinc 6 1, 3) := by decide +kernel
theorem dS_streamTapeToOut_86 : decode cS_streamTapeToOut 86 = .ok (.goto (-41), 3) := by decide +kernel
theorem dS_streamTapeToOut_89 : decode cS_streamTapeToOut 89 = .ok (.iinc 3 1, 3) := by decide +kernel
theorem dS_streamTapeToOut_92 : decode cS_streamTapeToOut 92 = .ok (.iinc 4 64, 3) := by decide +kernel
theorem dS_streamTapeToOut_95 : decode cS_streamTapeToOut 95 = .ok (.goto (-90), 3) := by decide +kernel
theorem dS_streamTapeToOut_98 : decode cS_streamTapeToOut 98 = .ok (.return_, 1) := by decide +kernel
theorem dS_sumSealed_0 : decode cS_sumSealed 0 = .ok (.aload_n 0, 1) := by decide +kernel
theorem dS_sumSealed_1 : decode cS_sumSealed 1 = .ok (.getfield 41, 3) := by decide +kernel
theorem dS_sumSealed_4 : decode cS_sumSealed 4 = .ok (.aload_n 0, 1) := by decide +kernel
theorem dS_sumSealed_5 : decode cS_sumSealed 5 = .ok (.getfield 29, 3) := by decide +kernel
theorem dS_sumSealed_8 : decode cS_sumSealed 8 = .ok (.aload_n 0, 1) := by decide +kernel
theorem dS_sumSealed_9 : decode cS_sumSealed 9 = .ok (.getfield 23, 3) := by decide +kernel
theorem dS_sumSealed_12 : decode cS_sumSealed 12 = .ok (.aload_n 0, 1) := by decide +kernel
theorem dS_sumSealed_13 : decode cS_sumSealed 13 = .ok (.getfield 26, 3) := by decide +kernel
theorem dS_sumSealed_16 : decode cS_sumSealed 16 = .ok (.iconst 0, 1) := by decide +kernel
theorem dS_sumSealed_17 : decode cS_sumSealed 17 = .ok (.invokevirtual 73, 3) := by decide +kernel
theorem dS_sumSealed_20 : decode cS_sumSealed 20 = .ok (.aload_n 0, 1) := by decide +kernel
theorem dS_sumSealed_21 : decode cS_sumSealed 21 = .ok (.getfield 48, 3) := by decide +kernel
theorem dS_sumSealed_24 : decode cS_sumSealed 24 = .ok (.aload_n 0, 1) := by decide +kernel
theorem dS_sumSealed_25 : decode cS_sumSealed 25 = .ok (.getfield 29, 3) := by decide +kernel
theorem dS_sumSealed_28 : decode cS_sumSealed 28 = .ok (.invokevirtual 77, 3) := by decide +kernel
theorem dS_sumSealed_31 : decode cS_sumSealed 31 = .ok (.aload_n 0, 1) := by decide +kernel
theorem dS_sumSealed_32 : decode cS_sumSealed 32 = .ok (.getfield 48, 3) := by decide +kernel
theorem dS_sumSealed_35 : decode cS_sumSealed 35 = .ok (.aload_n 0, 1) := by decide +kernel
theorem dS_sumSealed_36 : decode cS_sumSealed 36 = .ok (.getfield 9, 3) := by decide +kernel
theorem dS_sumSealed_39 : decode cS_sumSealed 39 = .ok (.iconst 0, 1) := by decide +kernel
theorem dS_sumSealed_40 : decode cS_sumSealed 40 = .ok (.iload_n 1, 1) := by decide +kernel
theorem dS_sumSealed_41 : decode cS_sumSealed 41 = .ok (.invokevirtual 114, 3) := by decide +kernel
theorem dS_sumSealed_44 : decode cS_sumSealed 44 = .ok (.aload_n 0, 1) := by decide +kernel
theorem dS_sumSealed_45 : decode cS_sumSealed 45 = .ok (.getfield 48, 3) := by decide +kernel
theorem dS_sumSealed_48 : decode cS_sumSealed 48 = .ok (.aload_n 2, 1) := by decide +kernel
theorem dS_sumSealed_49 : decode cS_sumSealed 49 = .ok (.iload_n 3, 1) := by decide +kernel
theorem dS_sumSealed_50 : decode cS_sumSealed 50 = .ok (.iload 4, 2) := by decide +kernel
theorem dS_sumSealed_52 : decode cS_sumSealed 52 = .ok (.invokevirtual 114, 3) := by decide +kernel
theorem dS_sumSealed_55 : decode cS_sumSealed 55 = .ok (.aload_n 0, 1) := by decide +kernel
theorem dS_sumSealed_56 : decode cS_sumSealed 56 = .ok (.getfield 32, 3) := by decide +kernel
theorem dS_sumSealed_59 : decode cS_sumSealed 59 = .ok (.iconst 0, 1) := by decide +kernel
theorem dS_sumSealed_60 : decode cS_sumSealed 60 = .ok (.iload_n 1, 1) := by decide +kernel
theorem dS_sumSealed_61 : decode cS_sumSealed 61 = .ok (.invokestatic 117, 3) := by decide +kernel
theorem dS_sumSealed_64 : decode cS_sumSealed 64 = .ok (.aload_n 0, 1) := by decide +kernel
theorem dS_sumSealed_65 : decode cS_sumSealed 65 = .ok (.getfield 32, 3) := by decide +kernel
theorem dS_sumSealed_68 : decode cS_sumSealed 68 = .ok (.bipush 8, 2) := by decide +kernel
theorem dS_sumSealed_70 : decode cS_sumSealed 70 = .ok (.iload 4, 2) := by decide +kernel
theorem dS_sumSealed_72 : decode cS_sumSealed 72 = .ok (.invokestatic 117, 3) := by decide +kernel
theorem dS_sumSealed_75 : decode cS_sumSealed 75 = .ok (.aload_n 0, 1) := by decide +kernel
theorem dS_sumSealed_76 : decode cS_sumSealed 76 = .ok (.getfield 48, 3) := by decide +kernel
theorem dS_sumSealed_79 : decode cS_sumSealed 79 = .ok (.aload_n 0, 1) := by decide +kernel
theorem dS_sumSealed_80 : decode cS_sumSealed 80 = .ok (.getfield 32, 3) := by decide +kernel
theorem dS_sumSealed_83 : decode cS_sumSealed 83 = .ok (.iconst 0, 1) := by decide +kernel
theorem dS_sumSealed_84 : decode cS_sumSealed 84 = .ok (.bipush 16, 2) := by decide +kernel
theorem dS_sumSealed_86 : decode cS_sumSealed 86 = .ok (.invokevirtual 81, 3) := by decide +kernel
theorem dS_sumSealed_89 : decode cS_sumSealed 89 = .ok (.aload_n 0, 1) := by decide +kernel
theorem dS_sumSealed_90 : decode cS_sumSealed 90 = .ok (.getfield 48, 3) := by decide +kernel
theorem dS_sumSealed_93 : decode cS_sumSealed 93 = .ok (.aload_n 0, 1) := by decide +kernel
theorem dS_sumSealed_94 : decode cS_sumSealed 94 = .ok (.getfield 35, 3) := by decide +kernel
theorem dS_sumSealed_97 : decode cS_sumSealed 97 = .ok (.iconst 0, 1) := by decide +kernel
theorem dS_sumSealed_98 : decode cS_sumSealed 98 = .ok (.invokevirtual 84, 3) := by decide +kernel
theorem dS_sumSealed_101 : decode cS_sumSealed 101 = .ok (.return_, 1) := by decide +kernel
theorem dS_sumStandsAt_0 : decode cS_sumStandsAt 0 = .ok (.iconst 0, 1) := by decide +kernel
theorem dS_sumStandsAt_1 : decode cS_sumStandsAt 1 = .ok (.istore_n 2, 1) := by decide +kernel
theorem dS_sumStandsAt_2 : decode cS_sumStandsAt 2 = .ok (.iconst 0, 1) := by decide +kernel
theorem dS_sumStandsAt_3 : decode cS_sumStandsAt 3 = .ok (.istore_n 3, 1) := by decide +kernel
theorem dS_sumStandsAt_4 : decode cS_sumStandsAt 4 = .ok (.iload_n 3, 1) := by decide +kernel
theorem dS_sumStandsAt_5 : decode cS_sumStandsAt 5 = .ok (.bipush 16, 2) := by decide +kernel
theorem dS_sumStandsAt_7 : decode cS_sumStandsAt 7 = .ok (.if_icmp .ge 27, 3) := by decide +kernel
theorem dS_sumStandsAt_10 : decode cS_sumStandsAt 10 = .ok (.iload_n 2, 1) := by decide +kernel
theorem dS_sumStandsAt_11 : decode cS_sumStandsAt 11 = .ok (.aload_n 0, 1) := by decide +kernel
theorem dS_sumStandsAt_12 : decode cS_sumStandsAt 12 = .ok (.getfield 35, 3) := by decide +kernel
theorem dS_sumStandsAt_15 : decode cS_sumStandsAt 15 = .ok (.iload_n 3, 1) := by decide +kernel
theorem dS_sumStandsAt_16 : decode cS_sumStandsAt 16 = .ok (.baload, 1) := by decide +kernel
theorem dS_sumStandsAt_17 : decode cS_sumStandsAt 17 = .ok (.aload_n 0, 1) := by decide +kernel
theorem dS_sumStandsAt_18 : decode cS_sumStandsAt 18 = .ok (.getfield 9, 3) := by decide +kernel
theorem dS_sumStandsAt_21 : decode cS_sumStandsAt 21 = .ok (.iload_n 1, 1) := by decide +kernel
theorem dS_sumStandsAt_22 : decode cS_sumStandsAt 22 = .ok (.iload_n 3, 1) := by decide +kernel
theorem dS_sumStandsAt_23 : decode cS_sumStandsAt 23 = .ok (.iadd, 1) := by decide +kernel
theorem dS_sumStandsAt_24 : decode cS_sumStandsAt 24 = .ok (.baload, 1) := by decide +kernel
theorem dS_sumStandsAt_25 : decode cS_sumStandsAt 25 = .ok (.ixor, 1) := by decide +kernel
theorem dS_sumStandsAt_26 : decode cS_sumStandsAt 26 = .ok (.ior, 1) := by decide +kernel
theorem dS_sumStandsAt_27 : decode cS_sumStandsAt 27 = .ok (.istore_n 2, 1) := by decide +kernel
theorem dS_sumStandsAt_28 : decode cS_sumStandsAt 28 = .ok (.iinc 3 1, 3) := by decide +kernel
theorem dS_sumStandsAt_31 : decode cS_sumStandsAt 31 = .ok (.goto (-27), 3) := by decide +kernel
theorem dS_sumStandsAt_34 : decode cS_sumStandsAt 34 = .ok (.iload_n 2, 1) := by decide +kernel
theorem dS_sumStandsAt_35 : decode cS_sumStandsAt 35 = .ok (.ifCond .ne 7, 3) := by decide +kernel
theorem dS_sumStandsAt_38 : decode cS_sumStandsAt 38 = .ok (.iconst 1, 1) := by decide +kernel
theorem dS_sumStandsAt_39 : decode cS_sumStandsAt 39 = .ok (.goto 4, 3) := by decide +kernel
theorem dS_sumStandsAt_42 : decode cS_sumStandsAt 42 = .ok (.iconst 0, 1) := by decide +kernel
theorem dS_sumStandsAt_43 : decode cS_sumStandsAt 43 = .ok (.ireturn, 1) := by decide +kernel
theorem dS_writeHighestFirst_0 : decode cS_writeHighestFirst 0 = .ok (.aload_n 0, 1) := by decide +kernel
theorem dS_writeHighestFirst_1 : decode cS_writeHighestFirst 1 = .ok (.iload_n 1, 1) := by decide +kernel
theorem dS_writeHighestFirst_2 : decode cS_writeHighestFirst 2 = .ok (.iload_n 2, 1) := by decide +kernel
theorem dS_writeHighestFirst_3 : decode cS_writeHighestFirst 3 = .ok (.bipush 24, 2) := by decide +kernel
theorem dS_writeHighestFirst_5 : decode cS_writeHighestFirst 5 = .ok (.iushr, 1) := by decide +kernel
theorem dS_writeHighestFirst_6 : decode cS_writeHighestFirst 6 = .ok (.i2b, 1) := by decide +kernel
theorem dS_writeHighestFirst_7 : decode cS_writeHighestFirst 7 = .ok (.bastore, 1) := by decide +kernel
theorem dS_writeHighestFirst_8 : decode cS_writeHighestFirst 8 = .ok (.aload_n 0, 1) := by decide +kernel
theorem dS_writeHighestFirst_9 : decode cS_writeHighestFirst 9 = .ok (.iload_n 1, 1) := by decide +kernel
theorem dS_writeHighestFirst_10 : decode cS_writeHighestFirst 10 = .ok (.iconst 1, 1) := by decide +kernel
theorem dS_writeHighestFirst_11 : decode cS_writeHighestFirst 11 = .ok (.iadd, 1) := by decide +kernel
theorem dS_writeHighestFirst_12 : decode cS_writeHighestFirst 12 = .ok (.iload_n 2, 1) := by decide +kernel
theorem dS_writeHighestFirst_13 : decode cS_writeHighestFirst 13 = .ok (.bipush 16, 2) := by decide +kernel
theorem dS_writeHighestFirst_15 : decode cS_writeHighestFirst 15 = .ok (.iushr, 1) := by decide +kernel
theorem dS_writeHighestFirst_16 : decode cS_writeHighestFirst 16 = .ok (.i2b, 1) := by decide +kernel
theorem dS_writeHighestFirst_17 : decode cS_writeHighestFirst 17 = .ok (.bastore, 1) := by decide +kernel
theorem dS_writeHighestFirst_18 : decode cS_writeHighestFirst 18 = .ok (.aload_n 0, 1) := by decide +kernel
theorem dS_writeHighestFirst_19 : decode cS_writeHighestFirst 19 = .ok (.iload_n 1, 1) := by decide +kernel
theorem dS_writeHighestFirst_20 : decode cS_writeHighestFirst 20 = .ok (.iconst 2, 1) := by decide +kernel
theorem dS_writeHighestFirst_21 : decode cS_writeHighestFirst 21 = .ok (.iadd, 1) := by decide +kernel
theorem dS_writeHighestFirst_22 : decode cS_writeHighestFirst 22 = .ok (.iload_n 2, 1) := by decide +kernel
theorem dS_writeHighestFirst_23 : decode cS_writeHighestFirst 23 = .ok (.bipush 8, 2) := by decide +kernel
theorem dS_writeHighestFirst_25 : decode cS_writeHighestFirst 25 = .ok (.iushr, 1) := by decide +kernel
theorem dS_writeHighestFirst_26 : decode cS_writeHighestFirst 26 = .ok (.i2b, 1) := by decide +kernel
theorem dS_writeHighestFirst_27 : decode cS_writeHighestFirst 27 = .ok (.bastore, 1) := by decide +kernel
theorem dS_writeHighestFirst_28 : decode cS_writeHighestFirst 28 = .ok (.aload_n 0, 1) := by decide +kernel
theorem dS_writeHighestFirst_29 : decode cS_writeHighestFirst 29 = .ok (.iload_n 1, 1) := by decide +kernel
theorem dS_writeHighestFirst_30 : decode cS_writeHighestFirst 30 = .ok (.iconst 3, 1) := by decide +kernel
theorem dS_writeHighestFirst_31 : decode cS_writeHighestFirst 31 = .ok (.iadd, 1) := by decide +kernel
theorem dS_writeHighestFirst_32 : decode cS_writeHighestFirst 32 = .ok (.iload_n 2, 1) := by decide +kernel
theorem dS_writeHighestFirst_33 : decode cS_writeHighestFirst 33 = .ok (.i2b, 1) := by decide +kernel
theorem dS_writeHighestFirst_34 : decode cS_writeHighestFirst 34 = .ok (.bastore, 1) := by decide +kernel
theorem dS_writeHighestFirst_35 : decode cS_writeHighestFirst 35 = .ok (.return_, 1) := by decide +kernel
theorem dS_writeLowestFirst_0 : decode cS_writeLowestFirst 0 = .ok (.aload_n 0, 1) := by decide +kernel
theorem dS_writeLowestFirst_1 : decode cS_writeLowestFirst 1 = .ok (.iload_n 1, 1) := by decide +kernel
theorem dS_writeLowestFirst_2 : decode cS_writeLowestFirst 2 = .ok (.iload_n 2, 1) := by decide +kernel
theorem dS_writeLowestFirst_3 : decode cS_writeLowestFirst 3 = .ok (.i2b, 1) := by decide +kernel
theorem dS_writeLowestFirst_4 : decode cS_writeLowestFirst 4 = .ok (.bastore, 1) := by decide +kernel
theorem dS_writeLowestFirst_5 : decode cS_writeLowestFirst 5 = .ok (.aload_n 0, 1) := by decide +kernel
theorem dS_writeLowestFirst_6 : decode cS_writeLowestFirst 6 = .ok (.iload_n 1, 1) := by decide +kernel
theorem dS_writeLowestFirst_7 : decode cS_writeLowestFirst 7 = .ok (.iconst 1, 1) := by decide +kernel
theorem dS_writeLowestFirst_8 : decode cS_writeLowestFirst 8 = .ok (.iadd, 1) := by decide +kernel
theorem dS_writeLowestFirst_9 : decode cS_writeLowestFirst 9 = .ok (.iload_n 2, 1) := by decide +kernel
theorem dS_writeLowestFirst_10 : decode cS_writeLowestFirst 10 = .ok (.bipush 8, 2) := by decide +kernel
theorem dS_writeLowestFirst_12 : decode cS_writeLowestFirst 12 = .ok (.iushr, 1) := by decide +kernel
theorem dS_writeLowestFirst_13 : decode cS_writeLowestFirst 13 = .ok (.i2b, 1) := by decide +kernel
theorem dS_writeLowestFirst_14 : decode cS_writeLowestFirst 14 = .ok (.bastore, 1) := by decide +kernel
theorem dS_writeLowestFirst_15 : decode cS_writeLowestFirst 15 = .ok (.aload_n 0, 1) := by decide +kernel
theorem dS_writeLowestFirst_16 : decode cS_writeLowestFirst 16 = .ok (.iload_n 1, 1) := by decide +kernel
theorem dS_writeLowestFirst_17 : decode cS_writeLowestFirst 17 = .ok (.iconst 2, 1) := by decide +kernel
theorem dS_writeLowestFirst_18 : decode cS_writeLowestFirst 18 = .ok (.iadd, 1) := by decide +kernel
theorem dS_writeLowestFirst_19 : decode cS_writeLowestFirst 19 = .ok (.iload_n 2, 1) := by decide +kernel
theorem dS_writeLowestFirst_20 : decode cS_writeLowestFirst 20 = .ok (.bipush 16, 2) := by decide +kernel
theorem dS_writeLowestFirst_22 : decode cS_writeLowestFirst 22 = .ok (.iushr, 1) := by decide +kernel
theorem dS_writeLowestFirst_23 : decode cS_writeLowestFirst 23 = .ok (.i2b, 1) := by decide +kernel
theorem dS_writeLowestFirst_24 : decode cS_writeLowestFirst 24 = .ok (.bastore, 1) := by decide +kernel
theorem dS_writeLowestFirst_25 : decode cS_writeLowestFirst 25 = .ok (.aload_n 0, 1) := by decide +kernel
theorem dS_writeLowestFirst_26 : decode cS_writeLowestFirst 26 = .ok (.iload_n 1, 1) := by decide +kernel
theorem dS_writeLowestFirst_27 : decode cS_writeLowestFirst 27 = .ok (.iconst 3, 1) := by decide +kernel
theorem dS_writeLowestFirst_28 : decode cS_writeLowestFirst 28 = .ok (.iadd, 1) := by decide +kernel
theorem dS_writeLowestFirst_29 : decode cS_writeLowestFirst 29 = .ok (.iload_n 2, 1) := by decide +kernel
theorem dS_writeLowestFirst_30 : decode cS_writeLowestFirst 30 = .ok (.bipush 24, 2) := by decide +kernel
theorem dS_writeLowestFirst_32 : decode cS_writeLowestFirst 32 = .ok (.iushr, 1) := by decide +kernel
theorem dS_writeLowestFirst_33 : decode cS_writeLowestFirst 33 = .ok (.i2b, 1) := by decide +kernel
theorem dS_writeLowestFirst_34 : decode cS_writeLowestFirst 34 = .ok (.bastore, 1) := by decide +kernel
theorem dS_writeLowestFirst_35 : decode cS_writeLowestFirst 35 = .ok (.return_, 1) := by decide +kernel
theorem dS_readHighestFirst_0 : decode cS_readHighestFirst 0 = .ok (.aload_n 0, 1) := by decide +kernel
theorem dS_readHighestFirst_1 : decode cS_readHighestFirst 1 = .ok (.iload_n 1, 1) := by decide +kernel
theorem dS_readHighestFirst_2 : decode cS_readHighestFirst 2 = .ok (.baload, 1) := by decide +kernel
theorem dS_readHighestFirst_3 : decode cS_readHighestFirst 3 = .ok (.sipush 255, 3) := by decide +kernel
theorem dS_readHighestFirst_6 : decode cS_readHighestFirst 6 = .ok (.iand, 1) := by decide +kernel
theorem dS_readHighestFirst_7 : decode cS_readHighestFirst 7 = .ok (.bipush 24, 2) := by decide +kernel
theorem dS_readHighestFirst_9 : decode cS_readHighestFirst 9 = .ok (.ishl, 1) := by decide +kernel
theorem dS_readHighestFirst_10 : decode cS_readHighestFirst 10 = .ok (.aload_n 0, 1) := by decide +kernel
theorem dS_readHighestFirst_11 : decode cS_readHighestFirst 11 = .ok (.iload_n 1, 1) := by decide +kernel
theorem dS_readHighestFirst_12 : decode cS_readHighestFirst 12 = .ok (.iconst 1, 1) := by decide +kernel
theorem dS_readHighestFirst_13 : decode cS_readHighestFirst 13 = .ok (.iadd, 1) := by decide +kernel
theorem dS_readHighestFirst_14 : decode cS_readHighestFirst 14 = .ok (.baload, 1) := by decide +kernel
theorem dS_readHighestFirst_15 : decode cS_readHighestFirst 15 = .ok (.sipush 255, 3) := by decide +kernel
theorem dS_readHighestFirst_18 : decode cS_readHighestFirst 18 = .ok (.iand, 1) := by decide +kernel
theorem dS_readHighestFirst_19 : decode cS_readHighestFirst 19 = .ok (.bipush 16, 2) := by decide +kernel
theorem dS_readHighestFirst_21 : decode cS_readHighestFirst 21 = .ok (.ishl, 1) := by decide +kernel
theorem dS_readHighestFirst_22 : decode cS_readHighestFirst 22 = .ok (.ior, 1) := by decide +kernel
theorem dS_readHighestFirst_23 : decode cS_readHighestFirst 23 = .ok (.aload_n 0, 1) := by decide +kernel
theorem dS_readHighestFirst_24 : decode cS_readHighestFirst 24 = .ok (.iload_n 1, 1) := by decide +kernel
theorem dS_readHighestFirst_25 : decode cS_readHighestFirst 25 = .ok (.iconst 2, 1) := by decide +kernel
theorem dS_readHighestFirst_26 : decode cS_readHighestFirst 26 = .ok (.iadd, 1) := by decide +kernel
theorem dS_readHighestFirst_27 : decode cS_readHighestFirst 27 = .ok (.baload, 1) := by decide +kernel
theorem dS_readHighestFirst_28 : decode cS_readHighestFirst 28 = .ok (.sipush 255, 3) := by decide +kernel
theorem dS_readHighestFirst_31 : decode cS_readHighestFirst 31 = .ok (.iand, 1) := by decide +kernel
theorem dS_readHighestFirst_32 : decode cS_readHighestFirst 32 = .ok (.bipush 8, 2) := by decide +kernel
theorem dS_readHighestFirst_34 : decode cS_readHighestFirst 34 = .ok (.ishl, 1) := by decide +kernel
theorem dS_readHighestFirst_35 : decode cS_readHighestFirst 35 = .ok (.ior, 1) := by decide +kernel
theorem dS_readHighestFirst_36 : decode cS_readHighestFirst 36 = .ok (.aload_n 0, 1) := by decide +kernel
theorem dS_readHighestFirst_37 : decode cS_readHighestFirst 37 = .ok (.iload_n 1, 1) := by decide +kernel
theorem dS_readHighestFirst_38 : decode cS_readHighestFirst 38 = .ok (.iconst 3, 1) := by decide +kernel
theorem dS_readHighestFirst_39 : decode cS_readHighestFirst 39 = .ok (.iadd, 1) := by decide +kernel
theorem dS_readHighestFirst_40 : decode cS_readHighestFirst 40 = .ok (.baload, 1) := by decide +kernel
theorem dS_readHighestFirst_41 : decode cS_readHighestFirst 41 = .ok (.sipush 255, 3) := by decide +kernel
theorem dS_readHighestFirst_44 : decode cS_readHighestFirst 44 = .ok (.iand, 1) := by decide +kernel
theorem dS_readHighestFirst_45 : decode cS_readHighestFirst 45 = .ok (.ior, 1) := by decide +kernel
theorem dS_readHighestFirst_46 : decode cS_readHighestFirst 46 = .ok (.ireturn, 1) := by decide +kernel
theorem dS_readLowestFirst_0 : decode cS_readLowestFirst 0 = .ok (.aload_n 0, 1) := by decide +kernel
theorem dS_readLowestFirst_1 : decode cS_readLowestFirst 1 = .ok (.iload_n 1, 1) := by decide +kernel
theorem dS_readLowestFirst_2 : decode cS_readLowestFirst 2 = .ok (.baload, 1) := by decide +kernel
theorem dS_readLowestFirst_3 : decode cS_readLowestFirst 3 = .ok (.sipush 255, 3) := by decide +kernel
theorem dS_readLowestFirst_6 : decode cS_readLowestFirst 6 = .ok (.iand, 1) := by decide +kernel
theorem dS_readLowestFirst_7 : decode cS_readLowestFirst 7 = .ok (.aload_n 0, 1) := by decide +kernel
theorem dS_readLowestFirst_8 : decode cS_readLowestFirst 8 = .ok (.iload_n 1, 1) := by decide +kernel
theorem dS_readLowestFirst_9 : decode cS_readLowestFirst 9 = .ok (.iconst 1, 1) := by decide +kernel
theorem dS_readLowestFirst_10 : decode cS_readLowestFirst 10 = .ok (.iadd, 1) := by decide +kernel
theorem dS_readLowestFirst_11 : decode cS_readLowestFirst 11 = .ok (.baload, 1) := by decide +kernel
theorem dS_readLowestFirst_12 : decode cS_readLowestFirst 12 = .ok (.sipush 255, 3) := by decide +kernel
theorem dS_readLowestFirst_15 : decode cS_readLowestFirst 15 = .ok (.iand, 1) := by decide +kernel
theorem dS_readLowestFirst_16 : decode cS_readLowestFirst 16 = .ok (.bipush 8, 2) := by decide +kernel
theorem dS_readLowestFirst_18 : decode cS_readLowestFirst 18 = .ok (.ishl, 1) := by decide +kernel
theorem dS_readLowestFirst_19 : decode cS_readLowestFirst 19 = .ok (.ior, 1) := by decide +kernel
theorem dS_readLowestFirst_20 : decode cS_readLowestFirst 20 = .ok (.aload_n 0, 1) := by decide +kernel
theorem dS_readLowestFirst_21 : decode cS_readLowestFirst 21 = .ok (.iload_n 1, 1) := by decide +kernel
theorem dS_readLowestFirst_22 : decode cS_readLowestFirst 22 = .ok (.iconst 2, 1) := by decide +kernel
theorem dS_readLowestFirst_23 : decode cS_readLowestFirst 23 = .ok (.iadd, 1) := by decide +kernel
theorem dS_readLowestFirst_24 : decode cS_readLowestFirst 24 = .ok (.baload, 1) := by decide +kernel
theorem dS_readLowestFirst_25 : decode cS_readLowestFirst 25 = .ok (.sipush 255, 3) := by decide +kernel
theorem dS_readLowestFirst_28 : decode cS_readLowestFirst 28 = .ok (.iand, 1) := by decide +kernel
theorem dS_readLowestFirst_29 : decode cS_readLowestFirst 29 = .ok (.bipush 16, 2) := by decide +kernel
theorem dS_readLowestFirst_31 : decode cS_readLowestFirst 31 = .ok (.ishl, 1) := by decide +kernel
theorem dS_readLowestFirst_32 : decode cS_readLowestFirst 32 = .ok (.ior, 1) := by decide +kernel
theorem dS_readLowestFirst_33 : decode cS_readLowestFirst 33 = .ok (.aload_n 0, 1) := by decide +kernel
theorem dS_readLowestFirst_34 : decode cS_readLowestFirst 34 = .ok (.iload_n 1, 1) := by decide +kernel
theorem dS_readLowestFirst_35 : decode cS_readLowestFirst 35 = .ok (.iconst 3, 1) := by decide +kernel
theorem dS_readLowestFirst_36 : decode cS_readLowestFirst 36 = .ok (.iadd, 1) := by decide +kernel
theorem dS_readLowestFirst_37 : decode cS_readLowestFirst 37 = .ok (.baload, 1) := by decide +kernel
theorem dS_readLowestFirst_38 : decode cS_readLowestFirst 38 = .ok (.sipush 255, 3) := by decide +kernel
theorem dS_readLowestFirst_41 : decode cS_readLowestFirst 41 = .ok (.iand, 1) := by decide +kernel
theorem dS_readLowestFirst_42 : decode cS_readLowestFirst 42 = .ok (.bipush 24, 2) := by decide +kernel
theorem dS_readLowestFirst_44 : decode cS_readLowestFirst 44 = .ok (.ishl, 1) := by decide +kernel
theorem dS_readLowestFirst_45 : decode cS_readLowestFirst 45 = .ok (.ior, 1) := by decide +kernel
theorem dS_readLowestFirst_46 : decode cS_readLowestFirst 46 = .ok (.ireturn, 1) := by decide +kernel
theorem dS_turnLeft_0 : decode cS_turnLeft 0 = .ok (.iload_n 0, 1) := by decide +kernel
theorem dS_turnLeft_1 : decode cS_turnLeft 1 = .ok (.iload_n 1, 1) := by decide +kernel
theorem dS_turnLeft_2 : decode cS_turnLeft 2 = .ok (.ishl, 1) := by decide +kernel
theorem dS_turnLeft_3 : decode cS_turnLeft 3 = .ok (.iload_n 0, 1) := by decide +kernel
theorem dS_turnLeft_4 : decode cS_turnLeft 4 = .ok (.bipush 32, 2) := by decide +kernel
theorem dS_turnLeft_6 : decode cS_turnLeft 6 = .ok (.iload_n 1, 1) := by decide +kernel
theorem dS_turnLeft_7 : decode cS_turnLeft 7 = .ok (.isub, 1) := by decide +kernel
theorem dS_turnLeft_8 : decode cS_turnLeft 8 = .ok (.iushr, 1) := by decide +kernel
theorem dS_turnLeft_9 : decode cS_turnLeft 9 = .ok (.ior, 1) := by decide +kernel
theorem dS_turnLeft_10 : decode cS_turnLeft 10 = .ok (.ireturn, 1) := by decide +kernel
theorem dS_turnRight_0 : decode cS_turnRight 0 = .ok (.iload_n 0, 1) := by decide +kernel
theorem dS_turnRight_1 : decode cS_turnRight 1 = .ok (.iload_n 1, 1) := by decide +kernel
theorem dS_turnRight_2 : decode cS_turnRight 2 = .ok (.iushr, 1) := by decide +kernel
theorem dS_turnRight_3 : decode cS_turnRight 3 = .ok (.iload_n 0, 1) := by decide +kernel
theorem dS_turnRight_4 : decode cS_turnRight 4 = .ok (.bipush 32, 2) := by decide +kernel
theorem dS_turnRight_6 : decode cS_turnRight 6 = .ok (.iload_n 1, 1) := by decide +kernel
theorem dS_turnRight_7 : decode cS_turnRight 7 = .ok (.isub, 1) := by decide +kernel
theorem dS_turnRight_8 : decode cS_turnRight 8 = .ok (.ishl, 1) := by decide +kernel
theorem dS_turnRight_9 : decode cS_turnRight 9 = .ok (.ior, 1) := by decide +kernel
theorem dS_turnRight_10 : decode cS_turnRight 10 = .ok (.ireturn, 1) := by decide +kernel
theorem dC_init_0 : decode cC_init 0 = .ok (.aload_n 0, 1) := by decide +kernel
theorem dC_init_1 : decode cC_init 1 = .ok (.invokespecial 1, 3) := by decide +kernel
theorem dC_init_4 : decode cC_init 4 = .ok (.aload_n 0, 1) := by decide +kernel
theorem dC_init_5 : decode cC_init 5 = .ok (.bipush 16, 2) := by decide +kernel
theorem dC_init_7 : decode cC_init 7 = .ok (.newarray .int, 2) := by decide +kernel
theorem dC_init_9 : decode cC_init 9 = .ok (.putfield 9, 3) := by decide +kernel
theorem dC_init_12 : decode cC_init 12 = .ok (.aload_n 0, 1) := by decide +kernel
theorem dC_init_13 : decode cC_init 13 = .ok (.bipush 16, 2) := by decide +kernel
theorem dC_init_15 : decode cC_init 15 = .ok (.newarray .int, 2) := by decide +kernel
theorem dC_init_17 : decode cC_init 17 = .ok (.putfield 13, 3) := by decide +kernel
theorem dC_init_20 : decode cC_init 20 = .ok (.return_, 1) := by decide +kernel
theorem dC_fill_0 : decode cC_fill 0 = .ok (.aload_n 0, 1) := by decide +kernel
theorem dC_fill_1 : decode cC_fill 1 = .ok (.aload_n 2, 1) := by decide +kernel
theorem dC_fill_2 : decode cC_fill 2 = .ok (.aload_n 3, 1) := by decide +kernel
theorem dC_fill_3 : decode cC_fill 3 = .ok (.iload 4, 2) := by decide +kernel
theorem dC_fill_5 : decode cC_fill 5 = .ok (.invokevirtual 16, 3) := by decide +kernel
theorem dC_fill_8 : decode cC_fill 8 = .ok (.aload_n 0, 1) := by decide +kernel
theorem dC_fill_9 : decode cC_fill 9 = .ok (.getfield 9, 3) := by decide +kernel
theorem dC_fill_12 : decode cC_fill 12 = .ok (.iconst 0, 1) := by decide +kernel
theorem dC_fill_13 : decode cC_fill 13 = .ok (.aload_n 0, 1) := by decide +kernel
theorem dC_fill_14 : decode cC_fill 14 = .ok (.getfield 13, 3) := by decide +kernel
theorem dC_fill_17 : decode cC_fill 17 = .ok (.iconst 0, 1) := by decide +kernel
theorem dC_fill_18 : decode cC_fill 18 = .ok (.bipush 16, 2) := by decide +kernel
theorem dC_fill_20 : decode cC_fill 20 = .ok (.invokestatic 20, 3) := by decide +kernel
theorem dC_fill_23 : decode cC_fill 23 = .ok (.iconst 0, 1) := by decide +kernel
theorem dC_fill_24 : decode cC_fill 24 = .ok (.istore 5, 2) := by decide +kernel
theorem dC_fill_26 : decode cC_fill 26 = .ok (.iload 5, 2) := by decide +kernel
theorem dC_fill_28 : decode cC_fill 28 = .ok (.bipush 10, 2) := by decide +kernel
theorem dC_fill_30 : decode cC_fill 30 = .ok (.if_icmp .ge 17, 3) := by decide +kernel
theorem dC_fill_33 : decode cC_fill 33 = .ok (.aload_n 0, 1) := by decide +kernel
theorem dC_fill_34 : decode cC_fill 34 = .ok (.invokevirtual 26, 3) := by decide +kernel
theorem dC_fill_37 : decode cC_fill 37 = .ok (.aload_n 0, 1) := by decide +kernel
theorem dC_fill_38 : decode cC_fill 38 = .ok (.invokevirtual 29, 3) := by decide +kernel
theorem dC_fill_41 : decode cC_fill 41 = .ok (.iinc 5 1, 3) := by decide +kernel
theorem dC_fill_44 : decode cC_fill 44 = .ok (.goto (-18), 3) := by decide +kernel
theorem dC_fill_47 : decode cC_fill 47 = .ok (.iconst 0, 1) := by decide +kernel
theorem dC_fill_48 : decode cC_fill 48 = .ok (.istore 5, 2) := by decide +kernel
theorem dC_fill_50 : decode cC_fill 50 = .ok (.iload 5, 2) := by decide +kernel
theorem dC_fill_52 : decode cC_fill 52 = .ok (.bipush 16, 2) := by decide +kernel
theorem dC_fill_54 : decode cC_fill 54 = .ok (.if_icmp .ge 32, 3) := by decide +kernel
theorem dC_fill_57 : decode cC_fill 57 = .ok (.aload_n 1, 1) := by decide +kernel
theorem dC_fill_58 : decode cC_fill 58 = .ok (.iconst 4, 1) := by decide +kernel
theorem dC_fill_59 : decode cC_fill 59 = .ok (.iload 5, 2) := by decide +kernel
theorem dC_fill_61 : decode cC_fill 61 = .ok (.imul, 1) := by decide +kernel
theorem dC_fill_62 : decode cC_fill 62 = .ok (.aload_n 0, 1) := by decide +kernel
theorem dC_fill_63 : decode cC_fill 63 = .ok (.getfield 13, 3) := by decide +kernel
theorem dC_fill_66 : decode cC_fill 66 = .ok (.iload 5, 2) := by decide +kernel
theorem dC_fill_68 : decode cC_fill 68 = .ok (.iaload, 1) := by decide +kernel
theorem dC_fill_69 : decode cC_fill 69 = .ok (.aload_n 0, 1) := by decide +kernel
theorem dC_fill_70 : decode cC_fill 70 = .ok (.getfield 9, 3) := by decide +kernel
theorem dC_fill_73 : decode cC_fill 73 = .ok (.iload 5, 2) := by decide +kernel
theorem dC_fill_75 : decode cC_fill 75 = .ok (.iaload, 1) := by decide +kernel
theorem dC_fill_76 : decode cC_fill 76 = .ok (.iadd, 1) := by decide +kernel
theorem dC_fill_77 : decode cC_fill 77 = .ok (.invokestatic 32, 3) := by decide +kernel
theorem dC_fill_80 : decode cC_fill 80 = .ok (.iinc 5 1, 3) := by decide +kernel
theorem dC_fill_83 : decode cC_fill 83 = .ok (.goto (-33), 3) := by decide +kernel
theorem dC_fill_86 : decode cC_fill 86 = .ok (.return_, 1) := by decide +kernel
theorem dC_lay_0 : decode cC_lay 0 = .ok (.aload_n 0, 1) := by decide +kernel
theorem dC_lay_1 : decode cC_lay 1 = .ok (.getfield 9, 3) := by decide +kernel
theorem dC_lay_4 : decode cC_lay 4 = .ok (.iconst 0, 1) := by decide +kernel
theorem dC_lay_5 : decode cC_lay 5 = .ok (.ldc 38, 2) := by decide +kernel
theorem dC_lay_7 : decode cC_lay 7 = .ok (.iastore, 1) := by decide +kernel
theorem dC_lay_8 : decode cC_lay 8 = .ok (.aload_n 0, 1) := by decide +kernel
theorem dC_lay_9 : decode cC_lay 9 = .ok (.getfield 9, 3) := by decide +kernel
theorem dC_lay_12 : decode cC_lay 12 = .ok (.iconst 1, 1) := by decide +kernel
theorem dC_lay_13 : decode cC_lay 13 = .ok (.ldc 39, 2) := by decide +kernel
theorem dC_lay_15 : decode cC_lay 15 = .ok (.iastore, 1) := by decide +kernel
theorem dC_lay_16 : decode cC_lay 16 = .ok (.aload_n 0, 1) := by decide +kernel
theorem dC_lay_17 : decode cC_lay 17 = .ok (.getfield 9, 3) := by decide +kernel
theorem dC_lay_20 : decode cC_lay 20 = .ok (.iconst 2, 1) := by decide +kernel
theorem dC_lay_21 : decode cC_lay 21 = .ok (.ldc 40, 2) := by decide +kernel
theorem dC_lay_23 : decode cC_lay 23 = .ok (.iastore, 1) := by decide +kernel
theorem dC_lay_24 : decode cC_lay 24 = .ok (.aload_n 0, 1) := by decide +kernel
theorem dC_lay_25 : decode cC_lay 25 = .ok (.getfield 9, 3) := by decide +kernel
theorem dC_lay_28 : decode cC_lay 28 = .ok (.iconst 3, 1) := by decide +kernel
theorem dC_lay_29 : decode cC_lay 29 = .ok (.ldc 41, 2) := by decide +kernel
theorem dC_lay_31 : decode cC_lay 31 = .ok (.iastore, 1) := by decide +kernel
theorem dC_lay_32 : decode cC_lay 32 = .ok (.iconst 0, 1) := by decide +kernel
theorem dC_lay_33 : decode cC_lay 33 = .ok (.istore 4, 2) := by decide +kernel
theorem dC_lay_35 : decode cC_lay 35 = .ok (.iload 4, 2) := by decide +kernel
theorem dC_lay_37 : decode cC_lay 37 = .ok (.bipush 8, 2) := by decide +kernel
theorem dC_lay_39 : decode cC_lay 39 = .ok (.if_icmp .ge 26, 3) := by decide +kernel
theorem dC_lay_42 : decode cC_lay 42 = .ok (.aload_n 0, 1) := by decide +kernel
theorem dC_lay_43 : decode cC_lay 43 = .ok (.getfield 9, 3) := by decide +kernel
theorem dC_lay_46 : decode cC_lay 46 = .ok (.iconst 4, 1) := by decide +kernel
theorem dC_lay_47 : decode cC_lay 47 = .ok (.iload 4, 2) := by decide +kernel
theorem dC_lay_49 : decode cC_lay 49 = .ok (.iadd, 1) := by decide +kernel
theorem dC_lay_50 : decode cC_lay 50 = .ok (.aload_n 1, 1) := by decide +kernel
theorem dC_lay_51 : decode cC_lay 51 = .ok (.iconst 4, 1) := by decide +kernel
theorem dC_lay_52 : decode cC_lay 52 = .ok (.iload 4, 2) := by decide +kernel
theorem dC_lay_54 : decode cC_lay 54 = .ok (.imul, 1) := by decide +kernel
theorem dC_lay_55 : decode cC_lay 55 = .ok (.invokestatic 42, 3) := by decide +kernel
theorem dC_lay_58 : decode cC_lay 58 = .ok (.iastore, 1) := by decide +kernel
theorem dC_lay_59 : decode cC_lay 59 = .ok (.iinc 4 1, 3) := by decide +kernel
theorem dC_lay_62 : decode cC_lay 62 = .ok (.goto (-27), 3) := by decide +kernel
theorem dC_lay_65 : decode cC_lay 65 = .ok (.aload_n 0, 1) := by decide +kernel
theorem dC_lay_66 : decode cC_lay 66 = .ok (.getfield 9, 3) := by decide +kernel
theorem dC_lay_69 : decode cC_lay 69 = .ok (.bipush 12, 2) := by decide +kernel
theorem dC_lay_71 : decode cC_lay 71 = .ok (.iload_n 3, 1) := by decide +kernel
theorem dC_lay_72 : decode cC_lay 72 = .ok (.iastore, 1) := by decide +kernel
theorem dC_lay_73 : decode cC_lay 73 = .ok (.iconst 0, 1) := by decide +kernel
theorem dC_lay_74 : decode cC_lay 74 = .ok (.istore 4, 2) := by decide +kernel
theorem dC_lay_76 : decode cC_lay 76 = .ok (.iload 4, 2) := by decide +kernel
theorem dC_lay_78 : decode cC_lay 78 = .ok (.iconst 3, 1) := by decide +kernel
theorem dC_lay_79 : decode cC_lay 79 = .ok (.if_icmp .ge 27, 3) := by decide +kernel
theorem dC_lay_82 : decode cC_lay 82 = .ok (.aload_n 0, 1) := by decide +kernel
theorem dC_lay_83 : decode cC_lay 83 = .ok (.getfield 9, 3) := by decide +kernel
theorem dC_lay_86 : decode cC_lay 86 = .ok (.bipush 13, 2) := by decide +kernel
theorem dC_lay_88 : decode cC_lay 88 = .ok (.iload 4, 2) := by decide +kernel
theorem dC_lay_90 : decode cC_lay 90 = .ok (.iadd, 1) := by decide +kernel
theorem dC_lay_91 : decode cC_lay 91 = .ok (.aload_n 2, 1) := by decide +kernel
theorem dC_lay_92 : decode cC_lay 92 = .ok (.iconst 4, 1) := by decide +kernel
theorem dC_lay_93 : decode cC_lay 93 = .ok (.iload 4, 2) := by decide +kernel
theorem dC_lay_95 : decode cC_lay 95 = .ok (.imul, 1) := by decide +kernel
theorem dC_lay_96 : decode cC_lay 96 = .ok (.invokestatic 42, 3) := by decide +kernel
theorem dC_lay_99 : decode cC_lay 99 = .ok (.iastore, 1) := by decide +kernel
theorem dC_lay_100 : decode cC_lay 100 = .ok (.iinc 4 1, 3) := by decide +kernel
theorem dC_lay_103 : decode cC_lay 103 = .ok (.goto (-27), 3) := by decide +kernel
theorem dC_lay_106 : decode cC_lay 106 = .ok (.return_, 1) := by decide +kernel
theorem dC_mixColumns_0 : decode cC_mixColumns 0 = .ok (.aload_n 0, 1) := by decide +kernel
theorem dC_mixColumns_1 : decode cC_mixColumns 1 = .ok (.iconst 0, 1) := by decide +kernel
theorem dC_mixColumns_2 : decode cC_mixColumns 2 = .ok (.iconst 4, 1) := by decide +kernel
theorem dC_mixColumns_3 : decode cC_mixColumns 3 = .ok (.bipush 8, 2) := by decide +kernel
theorem dC_mixColumns_5 : decode cC_mixColumns 5 = .ok (.bipush 12, 2) := by decide +kernel
theorem dC_mixColumns_7 : decode cC_mixColumns 7 = .ok (.invokevirtual 46, 3) := by decide +kernel
theorem dC_mixColumns_10 : decode cC_mixColumns 10 = .ok (.aload_n 0, 1) := by decide +kernel
theorem dC_mixColumns_11 : decode cC_mixColumns 11 = .ok (.iconst 1, 1) := by decide +kernel
theorem dC_mixColumns_12 : decode cC_mixColumns 12 = .ok (.iconst 5, 1) := by decide +kernel
theorem dC_mixColumns_13 : decode cC_mixColumns 13 = .ok (.bipush 9, 2) := by decide +kernel
theorem dC_mixColumns_15 : decode cC_mixColumns 15 = .ok (.bipush 13, 2) := by decide +kernel
theorem dC_mixColumns_17 : decode cC_mixColumns 17 = .ok (.invokevirtual 46, 3) := by decide +kernel
theorem dC_mixColumns_20 : decode cC_mixColumns 20 = .ok (.aload_n 0, 1) := by decide +kernel
theorem dC_mixColumns_21 : decode cC_mixColumns 21 = .ok (.iconst 2, 1) := by decide +kernel
theorem dC_mixColumns_22 : decode cC_mixColumns 22 = .ok (.bipush 6, 2) := by decide +kernel
theorem dC_mixColumns_24 : decode cC_mixColumns 24 = .ok (.bipush 10, 2) := by decide +kernel
theorem dC_mixColumns_26 : decode cC_mixColumns 26 = .ok (.bipush 14, 2) := by decide +kernel
theorem dC_mixColumns_28 : decode cC_mixColumns 28 = .ok (.invokevirtual 46, 3) := by decide +kernel
theorem dC_mixColumns_31 : decode cC_mixColumns 31 = .ok (.aload_n 0, 1) := by decide +kernel
theorem dC_mixColumns_32 : decode cC_mixColumns 32 = .ok (.iconst 3, 1) := by decide +kernel
theorem dC_mixColumns_33 : decode cC_mixColumns 33 = .ok (.bipush 7, 2) := by decide +kernel
theorem dC_mixColumns_35 : decode cC_mixColumns 35 = .ok (.bipush 11, 2) := by decide +kernel
theorem dC_mixColumns_37 : decode cC_mixColumns 37 = .ok (.bipush 15, 2) := by decide +kernel
theorem dC_mixColumns_39 : decode cC_mixColumns 39 = .ok (.invokevirtual 46, 3) := by decide +kernel
theorem dC_mixColumns_42 : decode cC_mixColumns 42 = .ok (.return_, 1) := by decide +kernel
theorem dC_mixDiagonals_0 : decode cC_mixDiagonals 0 = .ok (.aload_n 0, 1) := by decide +kernel
theorem dC_mixDiagonals_1 : decode cC_mixDiagonals 1 = .ok (.iconst 0, 1) := by decide +kernel
theorem dC_mixDiagonals_2 : decode cC_mixDiagonals 2 = .ok (.iconst 5, 1) := by decide +kernel
theorem dC_mixDiagonals_3 : decode cC_mixDiagonals 3 = .ok (.bipush 10, 2) := by decide +kernel
theorem dC_mixDiagonals_5 : decode cC_mixDiagonals 5 = .ok (.bipush 15, 2) := by decide +kernel
theorem dC_mixDiagonals_7 : decode cC_mixDiagonals 7 = .ok (.invokevirtual 46, 3) := by decide +kernel
theorem dC_mixDiagonals_10 : decode cC_mixDiagonals 10 = .ok (.aload_n 0, 1) := by decide +kernel
theorem dC_mixDiagonals_11 : decode cC_mixDiagonals 11 = .ok (.iconst 1, 1) := by decide +kernel
theorem dC_mixDiagonals_12 : decode cC_mixDiagonals 12 = .ok (.bipush 6, 2) := by decide +kernel
theorem dC_mixDiagonals_14 : decode cC_mixDiagonals 14 = .ok (.bipush 11, 2) := by decide +kernel
theorem dC_mixDiagonals_16 : decode cC_mixDiagonals 16 = .ok (.bipush 12, 2) := by decide +kernel
theorem dC_mixDiagonals_18 : decode cC_mixDiagonals 18 = .ok (.invokevirtual 46, 3) := by decide +kernel
theorem dC_mixDiagonals_21 : decode cC_mixDiagonals 21 = .ok (.aload_n 0, 1) := by decide +kernel
theorem dC_mixDiagonals_22 : decode cC_mixDiagonals 22 = .ok (.iconst 2, 1) := by decide +kernel
theorem dC_mixDiagonals_23 : decode cC_mixDiagonals 23 = .ok (.bipush 7, 2) := by decide +kernel
theorem dC_mixDiagonals_25 : decode cC_mixDiagonals 25 = .ok (.bipush 8, 2) := by decide +kernel
theorem dC_mixDiagonals_27 : decode cC_mixDiagonals 27 = .ok (.bipush 13, 2) := by decide +kernel
theorem dC_mixDiagonals_29 : decode cC_mixDiagonals 29 = .ok (.invokevirtual 46, 3) := by decide +kernel
theorem dC_mixDiagonals_32 : decode cC_mixDiagonals 32 = .ok (.aload_n 0, 1) := by decide +kernel
theorem dC_mixDiagonals_33 : decode cC_mixDiagonals 33 = .ok (.iconst 3, 1) := by decide +kernel
theorem dC_mixDiagonals_34 : decode cC_mixDiagonals 34 = .ok (.iconst 4, 1) := by decide +kernel
theorem dC_mixDiagonals_35 : decode cC_mixDiagonals 35 = .ok (.bipush 9, 2) := by decide +kernel
theorem dC_mixDiagonals_37 : decode cC_mixDiagonals 37 = .ok (.bipush 14, 2) := by decide +kernel
theorem dC_mixDiagonals_39 : decode cC_mixDiagonals 39 = .ok (.invokevirtual 46, 3) := by decide +kernel
theorem dC_mixDiagonals_42 : decode cC_mixDiagonals 42 = .ok (.return_, 1) := by decide +kernel
theorem dC_mixQuarter_0 : decode cC_mixQuarter 0 = .ok (.aload_n 0, 1) := by decide +kernel
theorem dC_mixQuarter_1 : decode cC_mixQuarter 1 = .ok (.getfield 13, 3) := by decide +kernel
theorem dC_mixQuarter_4 : decode cC_mixQuarter 4 = .ok (.iload_n 1, 1) := by decide +kernel
theorem dC_mixQuarter_5 : decode cC_mixQuarter 5 = .ok (.dup2, 1) := by decide +kernel
theorem dC_mixQuarter_6 : decode cC_mixQuarter 6 = .ok (.iaload, 1) := by decide +kernel
theorem dC_mixQuarter_7 : decode cC_mixQuarter 7 = .ok (.aload_n 0, 1) := by decide +kernel
theorem dC_mixQuarter_8 : decode cC_mixQuarter 8 = .ok (.getfield 13, 3) := by decide +kernel
theorem dC_mixQuarter_11 : decode cC_mixQuarter 11 = .ok (.iload_n 2, 1) := by decide +kernel
theorem dC_mixQuarter_12 : decode cC_mixQuarter 12 = .ok (.iaload, 1) := by decide +kernel
theorem dC_mixQuarter_13 : decode cC_mixQuarter 13 = .ok (.iadd, 1) := by decide +kernel
theorem dC_mixQuarter_14 : decode cC_mixQuarter 14 = .ok (.iastore, 1) := by decide +kernel
theorem dC_mixQuarter_15 : decode cC_mixQuarter 15 = .ok (.aload_n 0, 1) := by decide +kernel
theorem dC_mixQuarter_16 : decode cC_mixQuarter 16 = .ok (.getfield 13, 3) := by decide +kernel
theorem dC_mixQuarter_19 : decode cC_mixQuarter 19 = .ok (.iload 4, 2) := by decide +kernel
theorem dC_mixQuarter_21 : decode cC_mixQuarter 21 = .ok (.aload_n 0, 1) := by decide +kernel
theorem dC_mixQuarter_22 : decode cC_mixQuarter 22 = .ok (.getfield 13, 3) := by decide +kernel
theorem dC_mixQuarter_25 : decode cC_mixQuarter 25 = .ok (.iload 4, 2) := by decide +kernel
theorem dC_mixQuarter_27 : decode cC_mixQuarter 27 = .ok (.iaload, 1) := by decide +kernel
theorem dC_mixQuarter_28 : decode cC_mixQuarter 28 = .ok (.aload_n 0, 1) := by decide +kernel
theorem dC_mixQuarter_29 : decode cC_mixQuarter 29 = .ok (.getfield 13, 3) := by decide +kernel
theorem dC_mixQuarter_32 : decode cC_mixQuarter 32 = .ok (.iload_n 1, 1) := by decide +kernel
theorem dC_mixQuarter_33 : decode cC_mixQuarter 33 = .ok (.iaload, 1) := by decide +kernel
theorem dC_mixQuarter_34 : decode cC_mixQuarter 34 = .ok (.ixor, 1) := by decide +kernel
theorem dC_mixQuarter_35 : decode cC_mixQuarter 35 = .ok (.bipush 16, 2) := by decide +kernel
theorem dC_mixQuarter_37 : decode cC_mixQuarter 37 = .ok (.invokestatic 50, 3) := by decide +kernel
theorem dC_mixQuarter_40 : decode cC_mixQuarter 40 = .ok (.iastore, 1) := by decide +kernel
theorem dC_mixQuarter_41 : decode cC_mixQuarter 41 = .ok (.aload_n 0, 1) := by decide +kernel
theorem dC_mixQuarter_42 : decode cC_mixQuarter 42 = .ok (.getfield 13, 3) := by decide +kernel
theorem dC_mixQuarter_45 : decode cC_mixQuarter 45 = .ok (.iload_n 3, 1) := by decide +kernel
theorem dC_mixQuarter_46 : decode cC_mixQuarter 46 = .ok (.dup2, 1) := by decide +kernel
theorem dC_mixQuarter_47 : decode cC_mixQuarter 47 = .ok (.iaload, 1) := by decide +kernel
theorem dC_mixQuarter_48 : decode cC_mixQuarter 48 = .ok (.aload_n 0, 1) := by decide +kernel
theorem dC_mixQuarter_49 : decode cC_mixQuarter 49 = .ok (.getfield 13, 3) := by decide +kernel
theorem dC_mixQuarter_52 : decode cC_mixQuarter 52 = .ok (.iload 4, 2) := by decide +kernel
theorem dC_mixQuarter_54 : decode cC_mixQuarter 54 = .ok (.iaload, 1) := by decide +kernel
theorem dC_mixQuarter_55 : decode cC_mixQuarter 55 = .ok (.iadd, 1) := by decide +kernel
theorem dC_mixQuarter_56 : decode cC_mixQuarter 56 = .ok (.iastore, 1) := by decide +kernel
theorem dC_mixQuarter_57 : decode cC_mixQuarter 57 = .ok (.aload_n 0, 1) := by decide +kernel
theorem dC_mixQuarter_58 : decode cC_mixQuarter 58 = .ok (.getfield 13, 3) := by decide +kernel
theorem dC_mixQuarter_61 : decode cC_mixQuarter 61 = .ok (.iload_n 2, 1) := by decide +kernel
theorem dC_mixQuarter_62 : decode cC_mixQuarter 62 = .ok (.aload_n 0, 1) := by decide +kernel
theorem dC_mixQuarter_63 : decode cC_mixQuarter 63 = .ok (.getfield 13, 3) := by decide +kernel
theorem dC_mixQuarter_66 : decode cC_mixQuarter 66 = .ok (.iload_n 2, 1) := by decide +kernel
theorem dC_mixQuarter_67 : decode cC_mixQuarter 67 = .ok (.iaload, 1) := by decide +kernel
theorem dC_mixQuarter_68 : decode cC_mixQuarter 68 = .ok (.aload_n 0, 1) := by decide +kernel
theorem dC_mixQuarter_69 : decode cC_mixQuarter 69 = .ok (.getfield 13, 3) := by decide +kernel
theorem dC_mixQuarter_72 : decode cC_mixQuarter 72 = .ok (.iload_n 3, 1) := by decide +kernel
theorem dC_mixQuarter_73 : decode cC_mixQuarter 73 = .ok (.iaload, 1) := by decide +kernel
theorem dC_mixQuarter_74 : decode cC_mixQuarter 74 = .ok (.ixor, 1) := by decide +kernel
theorem dC_mixQuarter_75 : decode cC_mixQuarter 75 = .ok (.bipush 12, 2) := by decide +kernel
theorem dC_mixQuarter_77 : decode cC_mixQuarter 77 = .ok (.invokestatic 50, 3) := by decide +kernel
theorem dC_mixQuarter_80 : decode cC_mixQuarter 80 = .ok (.iastore, 1) := by decide +kernel
theorem dC_mixQuarter_81 : decode cC_mixQuarter 81 = .ok (.aload_n 0, 1) := by decide +kernel
theorem dC_mixQuarter_82 : decode cC_mixQuarter 82 = .ok (.getfield 13, 3) := by decide +kernel
theorem dC_mixQuarter_85 : decode cC_mixQuarter 85 = .ok (.iload_n 1, 1) := by decide +kernel
theorem dC_mixQuarter_86 : decode cC_mixQuarter 86 = .ok (.dup2, 1) := by decide +kernel
theorem dC_mixQuarter_87 : decode cC_mixQuarter 87 = .ok (.iaload, 1) := by decide +kernel
theorem dC_mixQuarter_88 : decode cC_mixQuarter 88 = .ok (.aload_n 0, 1) := by decide +kernel
theorem dC_mixQuarter_89 : decode cC_mixQuarter 89 = .ok (.getfield 13, 3) := by decide +kernel
theorem dC_mixQuarter_92 : decode cC_mixQuarter 92 = .ok (.iload_n 2, 1) := by decide +kernel
theorem dC_mixQuarter_93 : decode cC_mixQuarter 93 = .ok (.iaload, 1) := by decide +kernel
theorem dC_mixQuarter_94 : decode cC_mixQuarter 94 = .ok (.iadd, 1) := by decide +kernel
theorem dC_mixQuarter_95 : decode cC_mixQuarter 95 = .ok (.iastore, 1) := by decide +kernel
theorem dC_mixQuarter_96 : decode cC_mixQuarter 96 = .ok (.aload_n 0, 1) := by decide +kernel
theorem dC_mixQuarter_97 : decode cC_mixQuarter 97 = .ok (.getfield 13, 3) := by decide +kernel
theorem dC_mixQuarter_100 : decode cC_mixQuarter 100 = .ok (.iload 4, 2) := by decide +kernel
theorem dC_mixQuarter_102 : decode cC_mixQuarter 102 = .ok (.aload_n 0, 1) := by decide +kernel
theorem dC_mixQuarter_103 : decode cC_mixQuarter 103 = .ok (.getfield 13, 3) := by decide +kernel
theorem dC_mixQuarter_106 : decode cC_mixQuarter 106 = .ok (.iload 4, 2) := by decide +kernel
theorem dC_mixQuarter_108 : decode cC_mixQuarter 108 = .ok (.iaload, 1) := by decide +kernel
theorem dC_mixQuarter_109 : decode cC_mixQuarter 109 = .ok (.aload_n 0, 1) := by decide +kernel
theorem dC_mixQuarter_110 : decode cC_mixQuarter 110 = .ok (.getfield 13, 3) := by decide +kernel
theorem dC_mixQuarter_113 : decode cC_mixQuarter 113 = .ok (.iload_n 1, 1) := by decide +kernel
theorem dC_mixQuarter_114 : decode cC_mixQuarter 114 = .ok (.iaload, 1) := by decide +kernel
theorem dC_mixQuarter_115 : decode cC_mixQuarter 115 = .ok (.ixor, 1) := by decide +kernel
theorem dC_mixQuarter_116 : decode cC_mixQuarter 116 = .ok (.bipush 8, 2) := by decide +kernel
theorem dC_mixQuarter_118 : decode cC_mixQuarter 118 = .ok (.invokestatic 50, 3) := by decide +kernel
theorem dC_mixQuarter_121 : decode cC_mixQuarter 121 = .ok (.iastore, 1) := by decide +kernel
theorem dC_mixQuarter_122 : decode cC_mixQuarter 122 = .ok (.aload_n 0, 1) := by decide +kernel
theorem dC_mixQuarter_123 : decode cC_mixQuarter 123 = .ok (.getfield 13, 3) := by decide +kernel
theorem dC_mixQuarter_126 : decode cC_mixQuarter 126 = .ok (.iload_n 3, 1) := by decide +kernel
theorem dC_mixQuarter_127 : decode cC_mixQuarter 127 = .ok (.dup2, 1) := by decide +kernel
theorem dC_mixQuarter_128 : decode cC_mixQuarter 128 = .ok (.iaload, 1) := by decide +kernel
theorem dC_mixQuarter_129 : decode cC_mixQuarter 129 = .ok (.aload_n 0, 1) := by decide +kernel
theorem dC_mixQuarter_130 : decode cC_mixQuarter 130 = .ok (.getfield 13, 3) := by decide +kernel
theorem dC_mixQuarter_133 : decode cC_mixQuarter 133 = .ok (.iload 4, 2) := by decide +kernel
theorem dC_mixQuarter_135 : decode cC_mixQuarter 135 = .ok (.iaload, 1) := by decide +kernel
theorem dC_mixQuarter_136 : decode cC_mixQuarter 136 = .ok (.iadd, 1) := by decide +kernel
theorem dC_mixQuarter_137 : decode cC_mixQuarter 137 = .ok (.iastore, 1) := by decide +kernel
theorem dC_mixQuarter_138 : decode cC_mixQuarter 138 = .ok (.aload_n 0, 1) := by decide +kernel
theorem dC_mixQuarter_139 : decode cC_mixQuarter 139 = .ok (.getfield 13, 3) := by decide +kernel
theorem dC_mixQuarter_142 : decode cC_mixQuarter 142 = .ok (.iload_n 2, 1) := by decide +kernel
theorem dC_mixQuarter_143 : decode cC_mixQuarter 143 = .ok (.aload_n 0, 1) := by decide +kernel
theorem dC_mixQuarter_144 : decode cC_mixQuarter 144 = .ok (.getfield 13, 3) := by decide +kernel
theorem dC_mixQuarter_147 : decode cC_mixQuarter 147 = .ok (.iload_n 2, 1) := by decide +kernel
theorem dC_mixQuarter_148 : decode cC_mixQuarter 148 = .ok (.iaload, 1) := by decide +kernel
theorem dC_mixQuarter_149 : decode cC_mixQuarter 149 = .ok (.aload_n 0, 1) := by decide +kernel
theorem dC_mixQuarter_150 : decode cC_mixQuarter 150 = .ok (.getfield 13, 3) := by decide +kernel
theorem dC_mixQuarter_153 : decode cC_mixQuarter 153 = .ok (.iload_n 3, 1) := by decide +kernel
theorem dC_mixQuarter_154 : decode cC_mixQuarter 154 = .ok (.iaload, 1) := by decide +kernel
theorem dC_mixQuarter_155 : decode cC_mixQuarter 155 = .ok (.ixor, 1) := by decide +kernel
theorem dC_mixQuarter_156 : decode cC_mixQuarter 156 = .ok (.bipush 7, 2) := by decide +kernel
theorem dC_mixQuarter_158 : decode cC_mixQuarter 158 = .ok (.invokestatic 50, 3) := by decide +kernel
theorem dC_mixQuarter_161 : decode cC_mixQuarter 161 = .ok (.iastore, 1) := by decide +kernel
theorem dC_mixQuarter_162 : decode cC_mixQuarter 162 = .ok (.return_, 1) := by decide +kernel
theorem dP_init_0 : decode cP_init 0 = .ok (.aload_n 0, 1) := by decide +kernel
theorem dP_init_1 : decode cP_init 1 = .ok (.invokespecial 1, 3) := by decide +kernel
theorem dP_init_4 : decode cP_init 4 = .ok (.aload_n 0, 1) := by decide +kernel
theorem dP_init_5 : decode cP_init 5 = .ok (.iconst 5, 1) := by decide +kernel
theorem dP_init_6 : decode cP_init 6 = .ok (.newarray .long, 2) := by decide +kernel
theorem dP_init_8 : decode cP_init 8 = .ok (.putfield 9, 3) := by decide +kernel
theorem dP_init_11 : decode cP_init 11 = .ok (.aload_n 0, 1) := by decide +kernel
theorem dP_init_12 : decode cP_init 12 = .ok (.iconst 5, 1) := by decide +kernel
theorem dP_init_13 : decode cP_init 13 = .ok (.newarray .long, 2) := by decide +kernel
theorem dP_init_15 : decode cP_init 15 = .ok (.putfield 13, 3) := by decide +kernel
theorem dP_init_18 : decode cP_init 18 = .ok (.aload_n 0, 1) := by decide +kernel
theorem dP_init_19 : decode cP_init 19 = .ok (.iconst 5, 1) := by decide +kernel
theorem dP_init_20 : decode cP_init 20 = .ok (.newarray .long, 2) := by decide +kernel
theorem dP_init_22 : decode cP_init 22 = .ok (.putfield 16, 3) := by decide +kernel
theorem dP_init_25 : decode cP_init 25 = .ok (.aload_n 0, 1) := by decide +kernel
theorem dP_init_26 : decode cP_init 26 = .ok (.iconst 4, 1) := by decide +kernel
theorem dP_init_27 : decode cP_init 27 = .ok (.newarray .long, 2) := by decide +kernel
theorem dP_init_29 : decode cP_init 29 = .ok (.putfield 19, 3) := by decide +kernel
theorem dP_init_32 : decode cP_init 32 = .ok (.aload_n 0, 1) := by decide +kernel
theorem dP_init_33 : decode cP_init 33 = .ok (.iconst 4, 1) := by decide +kernel
theorem dP_init_34 : decode cP_init 34 = .ok (.newarray .int, 2) := by decide +kernel
theorem dP_init_36 : decode cP_init 36 = .ok (.putfield 22, 3) := by decide +kernel
theorem dP_init_39 : decode cP_init 39 = .ok (.aload_n 0, 1) := by decide +kernel
theorem dP_init_40 : decode cP_init 40 = .ok (.bipush 17, 2) := by decide +kernel
theorem dP_init_42 : decode cP_init 42 = .ok (.newarray .byte, 2) := by decide +kernel
theorem dP_init_44 : decode cP_init 44 = .ok (.putfield 26, 3) := by decide +kernel
theorem dP_init_47 : decode cP_init 47 = .ok (.return_, 1) := by decide +kernel
theorem dP_start_0 : decode cP_start 0 = .ok (.aload_n 1, 1) := by decide +kernel
theorem dP_start_1 : decode cP_start 1 = .ok (.iconst 0, 1) := by decide +kernel
theorem dP_start_2 : decode cP_start 2 = .ok (.aload_n 0, 1) := by decide +kernel
theorem dP_start_3 : decode cP_start 3 = .ok (.getfield 26, 3) := by decide +kernel
theorem dP_start_6 : decode cP_start 6 = .ok (.iconst 0, 1) := by decide +kernel
theorem dP_start_7 : decode cP_start 7 = .ok (.bipush 16, 2) := by decide +kernel
theorem dP_start_9 : decode cP_start 9 = .ok (.invokestatic 30, 3) := by decide +kernel
theorem dP_start_12 : decode cP_start 12 = .ok (.aload_n 0, 1) := by decide +kernel
theorem dP_start_13 : decode cP_start 13 = .ok (.getfield 26, 3) := by decide +kernel
theorem dP_start_16 : decode cP_start 16 = .ok (.bipush 16, 2) := by decide +kernel
theorem dP_start_18 : decode cP_start 18 = .ok (.iconst 0, 1) := by decide +kernel
theorem dP_start_19 : decode cP_start 19 = .ok (.bastore, 1) := by decide +kernel
theorem dP_start_20 : decode cP_start 20 = .ok (.aload_n 0, 1) := by decide +kernel
theorem dP_start_21 : decode cP_start 21 = .ok (.invokevirtual 36, 3) := by decide +kernel
theorem dP_start_24 : decode cP_start 24 = .ok (.iconst 0, 1) := by decide +kernel
theorem dP_start_25 : decode cP_start 25 = .ok (.istore_n 2, 1) := by decide +kernel
theorem dP_start_26 : decode cP_start 26 = .ok (.iload_n 2, 1) := by decide +kernel
theorem dP_start_27 : decode cP_start 27 = .ok (.iconst 5, 1) := by decide +kernel
theorem dP_start_28 : decode cP_start 28 = .ok (.if_icmp .ge 27, 3) := by decide +kernel
theorem dP_start_31 : decode cP_start 31 = .ok (.aload_n 0, 1) := by decide +kernel
theorem dP_start_32 : decode cP_start 32 = .ok (.getfield 9, 3) := by decide +kernel
theorem dP_start_35 : decode cP_start 35 = .ok (.iload_n 2, 1) := by decide +kernel
theorem dP_start_36 : decode cP_start 36 = .ok (.aload_n 0, 1) := by decide +kernel
theorem dP_start_37 : decode cP_start 37 = .ok (.iload_n 2, 1) := by decide +kernel
theorem dP_start_38 : decode cP_start 38 = .ok (.invokevirtual 39, 3) := by decide +kernel
theorem dP_start_41 : decode cP_start 41 = .ok (.lastore, 1) := by decide +kernel
theorem dP_start_42 : decode cP_start 42 = .ok (.aload_n 0, 1) := by decide +kernel
theorem dP_start_43 : decode cP_start 43 = .ok (.getfield 13, 3) := by decide +kernel
theorem dP_start_46 : decode cP_start 46 = .ok (.iload_n 2, 1) := by decide +kernel
theorem dP_start_47 : decode cP_start 47 = .ok (.lconst 0, 1) := by decide +kernel
theorem dP_start_48 : decode cP_start 48 = .ok (.lastore, 1) := by decide +kernel
theorem dP_start_49 : decode cP_start 49 = .ok (.iinc 2 1, 3) := by decide +kernel
theorem dP_start_52 : decode cP_start 52 = .ok (.goto (-26), 3) := by decide +kernel
theorem dP_start_55 : decode cP_start 55 = .ok (.iconst 0, 1) := by decide +kernel
theorem dP_start_56 : decode cP_start 56 = .ok (.istore_n 2, 1) := by decide +kernel
theorem dP_start_57 : decode cP_start 57 = .ok (.iload_n 2, 1) := by decide +kernel
theorem dP_start_58 : decode cP_start 58 = .ok (.iconst 4, 1) := by decide +kernel
theorem dP_start_59 : decode cP_start 59 = .ok (.if_icmp .ge 25, 3) := by decide +kernel
theorem dP_start_62 : decode cP_start 62 = .ok (.aload_n 0, 1) := by decide +kernel
theorem dP_start_63 : decode cP_start 63 = .ok (.getfield 22, 3) := by decide +kernel
theorem dP_start_66 : decode cP_start 66 = .ok (.iload_n 2, 1) := by decide +kernel
theorem dP_start_67 : decode cP_start 67 = .ok (.aload_n 1, 1) := by decide +kernel
theorem dP_start_68 : decode cP_start 68 = .ok (.bipush 16, 2) := by decide +kernel
theorem dP_start_70 : decode cP_start 70 = .ok (.iconst 4, 1) := by decide +kernel
theorem dP_start_71 : decode cP_start 71 = .ok (.iload_n 2, 1) := by decide +kernel
theorem dP_start_72 : decode cP_start 72 = .ok (.imul, 1) := by decide +kernel
theorem dP_start_73 : decode cP_start 73 = .ok (.iadd, 1) := by decide +kernel
theorem dP_start_74 : decode cP_start 74 = .ok (.invokestatic 43, 3) := by decide +kernel
theorem dP_start_77 : decode cP_start 77 = .ok (.iastore, 1) := by decide +kernel
theorem dP_start_78 : decode cP_start 78 = .ok (.iinc 2 1, 3) := by decide +kernel
theorem dP_start_81 : decode cP_start 81 = .ok (.goto (-24), 3) := by decide +kernel
theorem dP_start_84 : decode cP_start 84 = .ok (.return_, 1) := by decide +kernel
theorem dP_add_0 : decode cP_add 0 = .ok (.iconst 0, 1) := by decide +kernel
theorem dP_add_1 : decode cP_add 1 = .ok (.istore 4, 2) := by decide +kernel
theorem dP_add_3 : decode cP_add 3 = .ok (.iload 4, 2) := by decide +kernel
theorem dP_add_5 : decode cP_add 5 = .ok (.iload_n 3, 1) := by decide +kernel
theorem dP_add_6 : decode cP_add 6 = .ok (.if_icmp .ge 33, 3) := by decide +kernel
theorem dP_add_9 : decode cP_add 9 = .ok (.bipush 16, 2) := by decide +kernel
theorem dP_add_11 : decode cP_add 11 = .ok (.iload_n 3, 1) := by decide +kernel
theorem dP_add_12 : decode cP_add 12 = .ok (.iload 4, 2) := by decide +kernel
theorem dP_add_14 : decode cP_add 14 = .ok (.isub, 1) := by decide +kernel
theorem dP_add_15 : decode cP_add 15 = .ok (.invokestatic 49, 3) := by decide +kernel
theorem dP_add_18 : decode cP_add 18 = .ok (.istore 5, 2) := by decide +kernel
theorem dP_add_20 : decode cP_add 20 = .ok (.aload_n 0, 1) := by decide +kernel
theorem dP_add_21 : decode cP_add 21 = .ok (.aload_n 1, 1) := by decide +kernel
theorem dP_add_22 : decode cP_add 22 = .ok (.iload_n 2, 1) := by decide +kernel
theorem dP_add_23 : decode cP_add 23 = .ok (.iload 4, 2) := by decide +kernel
theorem dP_add_25 : decode cP_add 25 = .ok (.iadd, 1) := by decide +kernel
theorem dP_add_26 : decode cP_add 26 = .ok (.iload 5, 2) := by decide +kernel
theorem dP_add_28 : decode cP_add 28 = .ok (.iload 5, 2) := by decide +kernel
theorem dP_add_30 : decode cP_add 30 = .ok (.invokevirtual 55, 3) := by decide +kernel
theorem dP_add_33 : decode cP_add 33 = .ok (.iinc 4 16, 3) := by decide +kernel
theorem dP_add_36 : decode cP_add 36 = .ok (.goto (-33), 3) := by decide +kernel
theorem dP_add_39 : decode cP_add 39 = .ok (.return_, 1) := by decide +kernel
theorem dP_addPadded_0 : decode cP_addPadded 0 = .ok (.iconst 0, 1) := by decide +kernel
theorem dP_addPadded_1 : decode cP_addPadded 1 = .ok (.istore 4, 2) := by decide +kernel
theorem dP_addPadded_3 : decode cP_addPadded 3 = .ok (.iload 4, 2) := by decide +kernel
theorem dP_addPadded_5 : decode cP_addPadded 5 = .ok (.iload_n 3, 1) := by decide +kernel
theorem dP_addPadded_6 : decode cP_addPadded 6 = .ok (.if_icmp .ge 29, 3) := by decide +kernel
theorem dP_addPadded_9 : decode cP_addPadded 9 = .ok (.aload_n 0, 1) := by decide +kernel
theorem dP_addPadded_10 : decode cP_addPadded 10 = .ok (.aload_n 1, 1) := by decide +kernel
theorem dP_addPadded_11 : decode cP_addPadded 11 = .ok (.iload_n 2, 1) := by decide +kernel
theorem dP_addPadded_12 : decode cP_addPadded 12 = .ok (.iload 4, 2) := by decide +kernel
theorem dP_addPadded_14 : decode cP_addPadded 14 = .ok (.iadd, 1) := by decide +kernel
theorem dP_addPadded_15 : decode cP_addPadded 15 = .ok (.bipush 16, 2) := by decide +kernel
theorem dP_addPadded_17 : decode cP_addPadded 17 = .ok (.iload_n 3, 1) := by decide +kernel
theorem dP_addPadded_18 : decode cP_addPadded 18 = .ok (.iload 4, 2) := by decide +kernel
theorem dP_addPadded_20 : decode cP_addPadded 20 = .ok (.isub, 1) := by decide +kernel
theorem dP_addPadded_21 : decode cP_addPadded 21 = .ok (.invokestatic 49, 3) := by decide +kernel
theorem dP_addPadded_24 : decode cP_addPadded 24 = .ok (.bipush 16, 2) := by decide +kernel
theorem dP_addPadded_26 : decode cP_addPadded 26 = .ok (.invokevirtual 55, 3) := by decide +kernel
theorem dP_addPadded_29 : decode cP_addPadded 29 = .ok (.iinc 4 16, 3) := by decide +kernel
theorem dP_addPadded_32 : decode cP_addPadded 32 = .ok (.goto (-29), 3) := by decide +kernel
theorem dP_addPadded_35 : decode cP_addPadded 35 = .ok (.return_, 1) := by decide +kernel
theorem dP_finish_0 : decode cP_finish 0 = .ok (.aload_n 0, 1) := by decide +kernel
theorem dP_finish_1 : decode cP_finish 1 = .ok (.invokevirtual 59, 3) := by decide +kernel
theorem dP_finish_4 : decode cP_finish 4 = .ok (.aload_n 0, 1) := by decide +kernel
theorem dP_finish_5 : decode cP_finish 5 = .ok (.invokevirtual 62, 3) := by decide +kernel
theorem dP_finish_8 : decode cP_finish 8 = .ok (.aload_n 0, 1) := by decide +kernel
theorem dP_finish_9 : decode cP_finish 9 = .ok (.getfield 19, 3) := by decide +kernel
theorem dP_finish_12 : decode cP_finish 12 = .ok (.iconst 0, 1) := by decide +kernel
theorem dP_finish_13 : decode cP_finish 13 = .ok (.aload_n 0, 1) := by decide +kernel
theorem dP_finish_14 : decode cP_finish 14 = .ok (.getfield 13, 3) := by decide +kernel
theorem dP_finish_17 : decode cP_finish 17 = .ok (.iconst 0, 1) := by decide +kernel
theorem dP_finish_18 : decode cP_finish 18 = .ok (.laload, 1) := by decide +kernel
theorem dP_finish_19 : decode cP_finish 19 = .ok (.aload_n 0, 1) := by decide +kernel
theorem dP_finish_20 : decode cP_finish 20 = .ok (.getfield 13, 3) := by decide +kernel
theorem dP_finish_23 : decode cP_finish 23 = .ok (.iconst 1, 1) := by decide +kernel
theorem dP_finish_24 : decode cP_finish 24 = .ok (.laload, 1) := by decide +kernel
theorem dP_finish_25 : decode cP_finish 25 = .ok (.bipush 26, 2) := by decide +kernel
theorem dP_finish_27 : decode cP_finish 27 = .ok (.lshl, 1) := by decide +kernel
theorem dP_finish_28 : decode cP_finish 28 = .ok (.lor, 1) := by decide +kernel
theorem dP_finish_29 : decode cP_finish 29 = .ok (.lastore, 1) := by decide +kernel
theorem dP_finish_30 : decode cP_finish 30 = .ok (.aload_n 0, 1) := by decide +kernel
theorem dP_finish_31 : decode cP_finish 31 = .ok (.getfield 19, 3) := by decide +kernel
theorem dP_finish_34 : decode cP_finish 34 = .ok (.iconst 1, 1) := by decide +kernel
theorem dP_finish_35 : decode cP_finish 35 = .ok (.aload_n 0, 1) := by decide +kernel
theorem dP_finish_36 : decode cP_finish 36 = .ok (.getfield 13, 3) := by decide +kernel
theorem dP_finish_39 : decode cP_finish 39 = .ok (.iconst 1, 1) := by decide +kernel
theorem dP_finish_40 : decode cP_finish 40 = .ok (.laload, 1) := by decide +kernel
theorem dP_finish_41 : decode cP_finish 41 = .ok (.bipush 6, 2) := by decide +kernel
theorem dP_finish_43 : decode cP_finish 43 = .ok (.lushr, 1) := by decide +kernel
theorem dP_finish_44 : decode cP_finish 44 = .ok (.aload_n 0, 1) := by decide +kernel
theorem dP_finish_45 : decode cP_finish 45 = .ok (.getfield 13, 3) := by decide +kernel
theorem dP_finish_48 : decode cP_finish 48 = .ok (.iconst 2, 1) := by decide +kernel
theorem dP_finish_49 : decode cP_finish 49 = .ok (.laload, 1) := by decide +kernel
theorem dP_finish_50 : decode cP_finish 50 = .ok (.bipush 20, 2) := by decide +kernel
theorem dP_finish_52 : decode cP_finish 52 = .ok (.lshl, 1) := by decide +kernel
theorem dP_finish_53 : decode cP_finish 53 = .ok (.lor, 1) := by decide +kernel
theorem dP_finish_54 : decode cP_finish 54 = .ok (.lastore, 1) := by decide +kernel
theorem dP_finish_55 : decode cP_finish 55 = .ok (.aload_n 0, 1) := by decide +kernel
theorem dP_finish_56 : decode cP_finish 56 = .ok (.getfield 19, 3) := by decide +kernel
theorem dP_finish_59 : decode cP_finish 59 = .ok (.iconst 2, 1) := by decide +kernel
theorem dP_finish_60 : decode cP_finish 60 = .ok (.aload_n 0, 1) := by decide +kernel
theorem dP_finish_61 : decode cP_finish 61 = .ok (.getfield 13, 3) := by decide +kernel
theorem dP_finish_64 : decode cP_finish 64 = .ok (.iconst 2, 1) := by decide +kernel
theorem dP_finish_65 : decode cP_finish 65 = .ok (.laload, 1) := by decide +kernel
theorem dP_finish_66 : decode cP_finish 66 = .ok (.bipush 12, 2) := by decide +kernel
theorem dP_finish_68 : decode cP_finish 68 = .ok (.lushr, 1) := by decide +kernel
theorem dP_finish_69 : decode cP_finish 69 = .ok (.aload_n 0, 1) := by decide +kernel
theorem dP_finish_70 : decode cP_finish 70 = .ok (.getfield 13, 3) := by decide +kernel
theorem dP_finish_73 : decode cP_finish 73 = .ok (.iconst 3, 1) := by decide +kernel
theorem dP_finish_74 : decode cP_finish 74 = .ok (.laload, 1) := by decide +kernel
theorem dP_finish_75 : decode cP_finish 75 = .ok (.bipush 14, 2) := by decide +kernel
theorem dP_finish_77 : decode cP_finish 77 = .ok (.lshl, 1) := by decide +kernel
theorem dP_finish_78 : decode cP_finish 78 = .ok (.lor, 1) := by decide +kernel
theorem dP_finish_79 : decode cP_finish 79 = .ok (.lastore, 1) := by decide +kernel
theorem dP_finish_80 : decode cP_finish 80 = .ok (.aload_n 0, 1) := by decide +kernel
theorem dP_finish_81 : decode cP_finish 81 = .ok (.getfield 19, 3) := by decide +kernel
theorem dP_finish_84 : decode cP_finish 84 = .ok (.iconst 3, 1) := by decide +kernel
theorem dP_finish_85 : decode cP_finish 85 = .ok (.aload_n 0, 1) := by decide +kernel
theorem dP_finish_86 : decode cP_finish 86 = .ok (.getfield 13, 3) := by decide +kernel
theorem dP_finish_89 : decode cP_finish 89 = .ok (.iconst 3, 1) := by decide +kernel
theorem dP_finish_90 : decode cP_finish 90 = .ok (.laload, 1) := by decide +kernel
theorem dP_finish_91 : decode cP_finish 91 = .ok (.bipush 18, 2) := by decide +kernel
theorem dP_finish_93 : decode cP_finish 93 = .ok (.lushr, 1) := by decide +kernel
theorem dP_finish_94 : decode cP_finish 94 = .ok (.aload_n 0, 1) := by decide +kernel
theorem dP_finish_95 : decode cP_finish 95 = .ok (.getfield 13, 3) := by decide +kernel
theorem dP_finish_98 : decode cP_finish 98 = .ok (.iconst 4, 1) := by decide +kernel
theorem dP_finish_99 : decode cP_finish 99 = .ok (.laload, 1) := by decide +kernel
theorem dP_finish_100 : decode cP_finish 100 = .ok (.bipush 8, 2) := by decide +kernel
theorem dP_finish_102 : decode cP_finish 102 = .ok (.lshl, 1) := by decide +kernel
theorem dP_finish_103 : decode cP_finish 103 = .ok (.lor, 1) := by decide +kernel
theorem dP_finish_104 : decode cP_finish 104 = .ok (.lastore, 1) := by decide +kernel
theorem dP_finish_105 : decode cP_finish 105 = .ok (.lconst 0, 1) := by decide +kernel
theorem dP_finish_106 : decode cP_finish 106 = .ok (.lstore_n 3, 1) := by decide +kernel
theorem dP_finish_107 : decode cP_finish 107 = .ok (.iconst 0, 1) := by decide +kernel
theorem dP_finish_108 : decode cP_finish 108 = .ok (.istore 5, 2) := by decide +kernel
theorem dP_finish_110 : decode cP_finish 110 = .ok (.iload 5, 2) := by decide +kernel
theorem dP_finish_112 : decode cP_finish 112 = .ok (.iconst 4, 1) := by decide +kernel
theorem dP_finish_113 : decode cP_finish 113 = .ok (.if_icmp .ge 53, 3) := by decide +kernel
theorem dP_finish_116 : decode cP_finish 116 = .ok (.lload_n 3, 1) := by decide +kernel
theorem dP_finish_117 : decode cP_finish 117 = .ok (.aload_n 0, 1) := by decide +kernel
theorem dP_finish_118 : decode cP_finish 118 = .ok (.getfield 19, 3) := by decide +kernel
theorem dP_finish_121 : decode cP_finish 121 = .ok (.iload 5, 2) := by decide +kernel
theorem dP_finish_123 : decode cP_finish 123 = .ok (.laload, 1) := by decide +kernel
theorem dP_finish_124 : decode cP_finish 124 = .ok (.ldc2_w 65, 3) := by decide +kernel
theorem dP_finish_127 : decode cP_finish 127 = .ok (.land, 1) := by decide +kernel
theorem dP_finish_128 : decode cP_finish 128 = .ok (.aload_n 0, 1) := by decide +kernel
theorem dP_finish_129 : decode cP_finish 129 = .ok (.getfield 22, 3) := by decide +kernel
theorem dP_finish_132 : decode cP_finish 132 = .ok (.iload 5, 2) := by decide +kernel
theorem dP_finish_134 : decode cP_finish 134 = .ok (.iaload, 1) := by decide +kernel
theorem dP_finish_135 : decode cP_finish 135 = .ok (.i2l, 1) := by decide +kernel
theorem dP_finish_136 : decode cP_finish 136 = .ok (.ldc2_w 65, 3) := by decide +kernel
theorem dP_finish_139 : decode cP_finish 139 = .ok (.land, 1) := by decide +kernel
theorem dP_finish_140 : decode cP_finish 140 = .ok (.ladd, 1) := by decide +kernel
theorem dP_finish_141 : decode cP_finish 141 = .ok (.ladd, 1) := by decide +kernel
theorem dP_finish_142 : decode cP_finish 142 = .ok (.lstore_n 3, 1) := by decide +kernel
theorem dP_finish_143 : decode cP_finish 143 = .ok (.aload_n 1, 1) := by decide +kernel
theorem dP_finish_144 : decode cP_finish 144 = .ok (.iload_n 2, 1) := by decide +kernel
theorem dP_finish_145 : decode cP_finish 145 = .ok (.iconst 4, 1) := by decide +kernel
theorem dP_finish_146 : decode cP_finish 146 = .ok (.iload 5, 2) := by decide +kernel
theorem dP_finish_148 : decode cP_finish 148 = .ok (.imul, 1) := by decide +kernel
theorem dP_finish_149 : decode cP_finish 149 = .ok (.iadd, 1) := by decide +kernel
theorem dP_finish_150 : decode cP_finish 150 = .ok (.lload_n 3, 1) := by decide +kernel
theorem dP_finish_151 : decode cP_finish 151 = .ok (.l2i, 1) := by decide +kernel
theorem dP_finish_152 : decode cP_finish 152 = .ok (.invokestatic 67, 3) := by decide +kernel
theorem dP_finish_155 : decode cP_finish 155 = .ok (.lload_n 3, 1) := by decide +kernel
theorem dP_finish_156 : decode cP_finish 156 = .ok (.bipush 32, 2) := by decide +kernel
theorem dP_finish_158 : decode cP_finish 158 = .ok (.lushr, 1) := by decide +kernel
theorem dP_finish_159 : decode cP_finish 159 = .ok (.lstore_n 3, 1) := by decide +kernel
theorem dP_finish_160 : decode cP_finish 160 = .ok (.iinc 5 1, 3) := by decide +kernel
theorem dP_finish_163 : decode cP_finish 163 = .ok (.goto (-53), 3) := by decide +kernel
theorem dP_finish_166 : decode cP_finish 166 = .ok (.return_, 1) := by decide +kernel
theorem dP_clampBlock_0 : decode cP_clampBlock 0 = .ok (.iconst 3, 1) := by decide +kernel
theorem dP_clampBlock_1 : decode cP_clampBlock 1 = .ok (.istore_n 1, 1) := by decide +kernel
theorem dP_clampBlock_2 : decode cP_clampBlock 2 = .ok (.iload_n 1, 1) := by decide +kernel
theorem dP_clampBlock_3 : decode cP_clampBlock 3 = .ok (.bipush 16, 2) := by decide +kernel
theorem dP_clampBlock_5 : decode cP_clampBlock 5 = .ok (.if_icmp .ge 21, 3) := by decide +kernel
theorem dP_clampBlock_8 : decode cP_clampBlock 8 = .ok (.aload_n 0, 1) := by decide +kernel
theorem dP_clampBlock_9 : decode cP_clampBlock 9 = .ok (.getfield 26, 3) := by decide +kernel
theorem dP_clampBlock_12 : decode cP_clampBlock 12 = .ok (.iload_n 1, 1) := by decide +kernel
theorem dP_clampBlock_13 : decode cP_clampBlock 13 = .ok (.dup2, 1) := by decide +kernel
theorem dP_clampBlock_14 : decode cP_clampBlock 14 = .ok (.baload, 1) := by decide +kernel
theorem dP_clampBlock_15 : decode cP_clampBlock 15 = .ok (.bipush 15, 2) := by decide +kernel
theorem dP_clampBlock_17 : decode cP_clampBlock 17 = .ok (.iand, 1) := by decide +kernel
theorem dP_clampBlock_18 : decode cP_clampBlock 18 = .ok (.i2b, 1) := by decide +kernel
theorem dP_clampBlock_19 : decode cP_clampBlock 19 = .ok (.bastore, 1) := by decide +kernel
theorem dP_clampBlock_20 : decode cP_clampBlock 20 = .ok (.iinc 1 4, 3) := by decide +kernel
theorem dP_clampBlock_23 : decode cP_clampBlock 23 = .ok (.goto (-21), 3) := by decide +kernel
theorem dP_clampBlock_26 : decode cP_clampBlock 26 = .ok (.iconst 4, 1) := by decide +kernel
theorem dP_clampBlock_27 : decode cP_clampBlock 27 = .ok (.istore_n 1, 1) := by decide +kernel
theorem dP_clampBlock_28 : decode cP_clampBlock 28 = .ok (.iload_n 1, 1) := by decide +kernel
theorem dP_clampBlock_29 : decode cP_clampBlock 29 = .ok (.bipush 16, 2) := by decide +kernel
theorem dP_clampBlock_31 : decode cP_clampBlock 31 = .ok (.if_icmp .ge 21, 3) := by decide +kernel
theorem dP_clampBlock_34 : decode cP_clampBlock 34 = .ok (.aload_n 0, 1) := by decide +kernel
theorem dP_clampBlock_35 : decode cP_clampBlock 35 = .ok (.getfield 26, 3) := by decide +kernel
theorem dP_clampBlock_38 : decode cP_clampBlock 38 = .ok (.iload_n 1, 1) := by decide +kernel
theorem dP_clampBlock_39 : decode cP_clampBlock 39 = .ok (.dup2, 1) := by decide +kernel
theorem dP_clampBlock_40 : decode cP_clampBlock 40 = .ok (.baload, 1) := by decide +kernel
theorem dP_clampBlock_41 : decode cP_clampBlock 41 = .ok (.bipush (-4), 2) := by decide +kernel
theorem dP_clampBlock_43 : decode cP_clampBlock 43 = .ok (.iand, 1) := by decide +kernel
theorem dP_clampBlock_44 : decode cP_clampBlock 44 = .ok (.i2b, 1) := by decide +kernel
theorem dP_clampBlock_45 : decode cP_clampBlock 45 = .ok (.bastore, 1) := by decide +kernel
theorem dP_clampBlock_46 : decode cP_clampBlock 46 = .ok (.iinc 1 4, 3) := by decide +kernel
theorem dP_clampBlock_49 : decode cP_clampBlock 49 = .ok (.goto (-21), 3) := by decide +kernel
theorem dP_clampBlock_52 : decode cP_clampBlock 52 = .ok (.return_, 1) := by decide +kernel
theorem dP_blockPart_0 : decode cP_blockPart 0 = .ok (.bipush 26, 2) := by decide +kernel
theorem dP_blockPart_2 : decode cP_blockPart 2 = .ok (.iload_n 1, 1) := by decide +kernel
theorem dP_blockPart_3 : decode cP_blockPart 3 = .ok (.imul, 1) := by decide +kernel
theorem dP_blockPart_4 : decode cP_blockPart 4 = .ok (.istore_n 2, 1) := by decide +kernel
theorem dP_blockPart_5 : decode cP_blockPart 5 = .ok (.aload_n 0, 1) := by decide +kernel
theorem dP_blockPart_6 : decode cP_blockPart 6 = .ok (.getfield 26, 3) := by decide +kernel
theorem dP_blockPart_9 : decode cP_blockPart 9 = .ok (.iload_n 2, 1) := by decide +kernel
theorem dP_blockPart_10 : decode cP_blockPart 10 = .ok (.iconst 3, 1) := by decide +kernel
theorem dP_blockPart_11 : decode cP_blockPart 11 = .ok (.iushr, 1) := by decide +kernel
theorem dP_blockPart_12 : decode cP_blockPart 12 = .ok (.invokestatic 43, 3) := by decide +kernel
theorem dP_blockPart_15 : decode cP_blockPart 15 = .ok (.istore_n 3, 1) := by decide +kernel
theorem dP_blockPart_16 : decode cP_blockPart 16 = .ok (.iload_n 3, 1) := by decide +kernel
theorem dP_blockPart_17 : decode cP_blockPart 17 = .ok (.i2l, 1) := by decide +kernel
theorem dP_blockPart_18 : decode cP_blockPart 18 = .ok (.ldc2_w 65, 3) := by decide +kernel
theorem dP_blockPart_21 : decode cP_blockPart 21 = .ok (.land, 1) := by decide +kernel
theorem dP_blockPart_22 : decode cP_blockPart 22 = .ok (.iload_n 2, 1) := by decide +kernel
theorem dP_blockPart_23 : decode cP_blockPart 23 = .ok (.bipush 7, 2) := by decide +kernel
theorem dP_blockPart_25 : decode cP_blockPart 25 = .ok (.iand, 1) := by decide +kernel
theorem dP_blockPart_26 : decode cP_blockPart 26 = .ok (.lushr, 1) := by decide +kernel
theorem dP_blockPart_27 : decode cP_blockPart 27 = .ok (.ldc2_w 71, 3) := by decide +kernel
theorem dP_blockPart_30 : decode cP_blockPart 30 = .ok (.land, 1) := by decide +kernel
theorem dP_blockPart_31 : decode cP_blockPart 31 = .ok (.lreturn, 1) := by decide +kernel
theorem dP_addBlock_0 : decode cP_addBlock 0 = .ok (.aload_n 0, 1) := by decide +kernel
theorem dP_addBlock_1 : decode cP_addBlock 1 = .ok (.getfield 26, 3) := by decide +kernel
theorem dP_addBlock_4 : decode cP_addBlock 4 = .ok (.iconst 0, 1) := by decide +kernel
theorem dP_addBlock_5 : decode cP_addBlock 5 = .ok (.invokestatic 73, 3) := by decide +kernel
theorem dP_addBlock_8 : decode cP_addBlock 8 = .ok (.aload_n 1, 1) := by decide +kernel
theorem dP_addBlock_9 : decode cP_addBlock 9 = .ok (.iload_n 2, 1) := by decide +kernel
theorem dP_addBlock_10 : decode cP_addBlock 10 = .ok (.aload_n 0, 1) := by decide +kernel
theorem dP_addBlock_11 : decode cP_addBlock 11 = .ok (.getfield 26, 3) := by decide +kernel
theorem dP_addBlock_14 : decode cP_addBlock 14 = .ok (.iconst 0, 1) := by decide +kernel
theorem dP_addBlock_15 : decode cP_addBlock 15 = .ok (.iload_n 3, 1) := by decide +kernel
theorem dP_addBlock_16 : decode cP_addBlock 16 = .ok (.invokestatic 30, 3) := by decide +kernel
theorem dP_addBlock_19 : decode cP_addBlock 19 = .ok (.aload_n 0, 1) := by decide +kernel
theorem dP_addBlock_20 : decode cP_addBlock 20 = .ok (.getfield 26, 3) := by decide +kernel
theorem dP_addBlock_23 : decode cP_addBlock 23 = .ok (.iload 4, 2) := by decide +kernel
theorem dP_addBlock_25 : decode cP_addBlock 25 = .ok (.iconst 1, 1) := by decide +kernel
theorem dP_addBlock_26 : decode cP_addBlock 26 = .ok (.bastore, 1) := by decide +kernel
theorem dP_addBlock_27 : decode cP_addBlock 27 = .ok (.iconst 0, 1) := by decide +kernel
theorem dP_addBlock_28 : decode cP_addBlock 28 = .ok (.istore 5, 2) := by decide +kernel
theorem dP_addBlock_30 : decode cP_addBlock 30 = .ok (.iload 5, 2) := by decide +kernel
theorem dP_addBlock_32 : decode cP_addBlock 32 = .ok (.iconst 5, 1) := by decide +kernel
theorem dP_addBlock_33 : decode cP_addBlock 33 = .ok (.if_icmp .ge 25, 3) := by decide +kernel
theorem dP_addBlock_36 : decode cP_addBlock 36 = .ok (.aload_n 0, 1) := by decide +kernel
theorem dP_addBlock_37 : decode cP_addBlock 37 = .ok (.getfield 13, 3) := by decide +kernel
theorem dP_addBlock_40 : decode cP_addBlock 40 = .ok (.iload 5, 2) := by decide +kernel
theorem dP_addBlock_42 : decode cP_addBlock 42 = .ok (.dup2, 1) := by decide +kernel
theorem dP_addBlock_43 : decode cP_addBlock 43 = .ok (.laload, 1) := by decide +kernel
theorem dP_addBlock_44 : decode cP_addBlock 44 = .ok (.aload_n 0, 1) := by decide +kernel
theorem dP_addBlock_45 : decode cP_addBlock 45 = .ok (.iload 5, 2) := by decide +kernel
theorem dP_addBlock_47 : decode cP_addBlock 47 = .ok (.invokevirtual 39, 3) := by decide +kernel
theorem dP_addBlock_50 : decode cP_addBlock 50 = .ok (.ladd, 1) := by decide +kernel
theorem dP_addBlock_51 : decode cP_addBlock 51 = .ok (.lastore, 1) := by decide +kernel
theorem dP_addBlock_52 : decode cP_addBlock 52 = .ok (.iinc 5 1, 3) := by decide +kernel
theorem dP_addBlock_55 : decode cP_addBlock 55 = .ok (.goto (-25), 3) := by decide +kernel
theorem dP_addBlock_58 : decode cP_addBlock 58 = .ok (.aload_n 0, 1) := by decide +kernel
theorem dP_addBlock_59 : decode cP_addBlock 59 = .ok (.invokevirtual 79, 3) := by decide +kernel
theorem dP_addBlock_62 : decode cP_addBlock 62 = .ok (.return_, 1) := by decide +kernel
theorem dP_multiply_0 : decode cP_multiply 0 = .ok (.iconst 0, 1) := by decide +kernel
theorem dP_multiply_1 : decode cP_multiply 1 = .ok (.istore_n 1, 1) := by decide +kernel
theorem dP_multiply_2 : decode cP_multiply 2 = .ok (.iload_n 1, 1) := by decide +kernel
theorem dP_multiply_3 : decode cP_multiply 3 = .ok (.iconst 5, 1) := by decide +kernel
theorem dP_multiply_4 : decode cP_multiply 4 = .ok (.if_icmp .ge 104, 3) := by decide +kernel
theorem dP_multiply_7 : decode cP_multiply 7 = .ok (.lconst 0, 1) := by decide +kernel
theorem dP_multiply_8 : decode cP_multiply 8 = .ok (.lstore_n 2, 1) := by decide +kernel
theorem dP_multiply_9 : decode cP_multiply 9 = .ok (.lconst 0, 1) := by decide +kernel
theorem dP_multiply_10 : decode cP_multiply 10 = .ok (.lstore 4, 2) := by decide +kernel
theorem dP_multiply_12 : decode cP_multiply 12 = .ok (.iconst 0, 1) := by decide +kernel
theorem dP_multiply_13 : decode cP_multiply 13 = .ok (.istore 6, 2) := by decide +kernel
theorem dP_multiply_15 : decode cP_multiply 15 = .ok (.iload 6, 2) := by decide +kernel
theorem dP_multiply_17 : decode cP_multiply 17 = .ok (.iload_n 1, 1) := by decide +kernel
theorem dP_multiply_18 : decode cP_multiply 18 = .ok (.if_icmp .gt 29, 3) := by decide +kernel
theorem dP_multiply_21 : decode cP_multiply 21 = .ok (.lload_n 2, 1) := by decide +kernel
theorem dP_multiply_22 : decode cP_multiply 22 = .ok (.aload_n 0, 1) := by decide +kernel
theorem dP_multiply_23 : decode cP_multiply 23 = .ok (.getfield 13, 3) := by decide +kernel
theorem dP_multiply_26 : decode cP_multiply 26 = .ok (.iload 6, 2) := by decide +kernel
theorem dP_multiply_28 : decode cP_multiply 28 = .ok (.laload, 1) := by decide +kernel
theorem dP_multiply_29 : decode cP_multiply 29 = .ok (.aload_n 0, 1) := by decide +kernel
theorem dP_multiply_30 : decode cP_multiply 30 = .ok (.getfield 9, 3) := by decide +kernel
theorem dP_multiply_33 : decode cP_multiply 33 = .ok (.iload_n 1, 1) := by decide +kernel
theorem dP_multiply_34 : decode cP_multiply 34 = .ok (.iload 6, 2) := by decide +kernel
theorem dP_multiply_36 : decode cP_multiply 36 = .ok (.isub, 1) := by decide +kernel
theorem dP_multiply_37 : decode cP_multiply 37 = .ok (.laload, 1) := by decide +kernel
theorem dP_multiply_38 : decode cP_multiply 38 = .ok (.lmul, 1) := by decide +kernel
theorem dP_multiply_39 : decode cP_multiply 39 = .ok (.ladd, 1) := by decide +kernel
theorem dP_multiply_40 : decode cP_multiply 40 = .ok (.lstore_n 2, 1) := by decide +kernel
theorem dP_multiply_41 : decode cP_multiply 41 = .ok (.iinc 6 1, 3) := by decide +kernel
theorem dP_multiply_44 : decode cP_multiply 44 = .ok (.goto (-29), 3) := by decide +kernel
theorem dP_multiply_47 : decode cP_multiply 47 = .ok (.iload_n 1, 1) := by decide +kernel
theorem dP_multiply_48 : decode cP_multiply 48 = .ok (.iconst 1, 1) := by decide +kernel
theorem dP_multiply_49 : decode cP_multiply 49 = .ok (.iadd, 1) := by decide +kernel
theorem dP_multiply_50 : decode cP_multiply 50 = .ok (.istore 6, 2) := by decide +kernel
theorem dP_multiply_52 : decode cP_multiply 52 = .ok (.iload 6, 2) := by decide +kernel
theorem dP_multiply_54 : decode cP_multiply 54 = .ok (.iconst 5, 1) := by decide +kernel
theorem dP_multiply_55 : decode cP_multiply 55 = .ok (.if_icmp .ge 33, 3) := by decide +kernel
theorem dP_multiply_58 : decode cP_multiply 58 = .ok (.lload 4, 2) := by decide +kernel
theorem dP_multiply_60 : decode cP_multiply 60 = .ok (.aload_n 0, 1) := by decide +kernel
theorem dP_multiply_61 : decode cP_multiply 61 = .ok (.getfield 13, 3) := by decide +kernel
theorem dP_multiply_64 : decode cP_multiply 64 = .ok (.iload 6, 2) := by decide +kernel
theorem dP_multiply_66 : decode cP_multiply 66 = .ok (.laload, 1) := by decide +kernel
theorem dP_multiply_67 : decode cP_multiply 67 = .ok (.aload_n 0, 1) := by decide +kernel
theorem dP_multiply_68 : decode cP_multiply 68 = .ok (.getfield 9, 3) := by decide +kernel
theorem dP_multiply_71 : decode cP_multiply 71 = .ok (.iload_n 1, 1) := by decide +kernel
theorem dP_multiply_72 : decode cP_multiply 72 = .ok (.iload 6, 2) := by decide +kernel
theorem dP_multiply_74 : decode cP_multiply 74 = .ok (.isub, 1) := by decide +kernel
theorem dP_multiply_75 : decode cP_multiply 75 = .ok (.iconst 5, 1) := by decide +kernel
theorem dP_multiply_76 : decode cP_multiply 76 = .ok (.iadd, 1) := by decide +kernel
theorem dP_multiply_77 : decode cP_multiply 77 = .ok (.laload, 1) := by decide +kernel
theorem dP_multiply_78 : decode cP_multiply 78 = .ok (.lmul, 1) := by decide +kernel
theorem dP_multiply_79 : decode cP_multiply 79 = .ok (.ladd, 1) := by decide +kernel
theorem dP_multiply_80 : decode cP_multiply 80 = .ok (.lstore 4, 2) := by decide +kernel
theorem dP_multiply_82 : decode cP_multiply 82 = .ok (.iinc 6 1, 3) := by decide +kernel
theorem dP_multiply_85 : decode cP_multiply 85 = .ok (.goto (-33), 3) := by decide +kernel
theorem dP_multiply_88 : decode cP_multiply 88 = .ok (.aload_n 0, 1) := by decide +kernel
theorem dP_multiply_89 : decode cP_multiply 89 = .ok (.getfield 16, 3) := by decide +kernel
theorem dP_multiply_92 : decode cP_multiply 92 = .ok (.iload_n 1, 1) := by decide +kernel
theorem dP_multiply_93 : decode cP_multiply 93 = .ok (.lload_n 2, 1) := by decide +kernel
theorem dP_multiply_94 : decode cP_multiply 94 = .ok (.ldc2_w 82, 3) := by decide +kernel
theorem dP_multiply_97 : decode cP_multiply 97 = .ok (.lload 4, 2) := by decide +kernel
theorem dP_multiply_99 : decode cP_multiply 99 = .ok (.lmul, 1) := by decide +kernel
theorem dP_multiply_100 : decode cP_multiply 100 = .ok (.ladd, 1) := by decide +kernel
theorem dP_multiply_101 : decode cP_multiply 101 = .ok (.lastore, 1) := by decide +kernel
theorem dP_multiply_102 : decode cP_multiply 102 = .ok (.iinc 1 1, 3) := by decide +kernel
theorem dP_multiply_105 : decode cP_multiply 105 = .ok (.goto (-103), 3) := by decide +kernel
theorem dP_multiply_108 : decode cP_multiply 108 = .ok (.aload_n 0, 1) := by decide +kernel
theorem dP_multiply_109 : decode cP_multiply 109 = .ok (.getfield 16, 3) := by decide +kernel
theorem dP_multiply_112 : decode cP_multiply 112 = .ok (.iconst 0, 1) := by decide +kernel
theorem dP_multiply_113 : decode cP_multiply 113 = .ok (.aload_n 0, 1) := by decide +kernel
theorem dP_multiply_114 : decode cP_multiply 114 = .ok (.getfield 13, 3) := by decide +kernel
theorem dP_multiply_117 : decode cP_multiply 117 = .ok (.iconst 0, 1) := by decide +kernel
theorem dP_multiply_118 : decode cP_multiply 118 = .ok (.iconst 5, 1) := by decide +kernel
theorem dP_multiply_119 : decode cP_multiply 119 = .ok (.invokestatic 30, 3) := by decide +kernel
theorem dP_multiply_122 : decode cP_multiply 122 = .ok (.aload_n 0, 1) := by decide +kernel
theorem dP_multiply_123 : decode cP_multiply 123 = .ok (.invokevirtual 59, 3) := by decide +kernel
theorem dP_multiply_126 : decode cP_multiply 126 = .ok (.aload_n 0, 1) := by decide +kernel
theorem dP_multiply_127 : decode cP_multiply 127 = .ok (.invokevirtual 59, 3) := by decide +kernel
theorem dP_multiply_130 : decode cP_multiply 130 = .ok (.return_, 1) := by decide +kernel
theorem dP_carry_0 : decode cP_carry 0 = .ok (.lconst 0, 1) := by decide +kernel
theorem dP_carry_1 : decode cP_carry 1 = .ok (.lstore_n 1, 1) := by decide +kernel
theorem dP_carry_2 : decode cP_carry 2 = .ok (.iconst 0, 1) := by decide +kernel
theorem dP_carry_3 : decode cP_carry 3 = .ok (.istore_n 3, 1) := by decide +kernel
theorem dP_carry_4 : decode cP_carry 4 = .ok (.iload_n 3, 1) := by decide +kernel
theorem dP_carry_5 : decode cP_carry 5 = .ok (.iconst 5, 1) := by decide +kernel
theorem dP_carry_6 : decode cP_carry 6 = .ok (.if_icmp .ge 37, 3) := by decide +kernel
theorem dP_carry_9 : decode cP_carry 9 = .ok (.aload_n 0, 1) := by decide +kernel
theorem dP_carry_10 : decode cP_carry 10 = .ok (.getfield 13, 3) := by decide +kernel
theorem dP_carry_13 : decode cP_carry 13 = .ok (.iload_n 3, 1) := by decide +kernel
theorem dP_carry_14 : decode cP_carry 14 = .ok (.laload, 1) := by decide +kernel
theorem dP_carry_15 : decode cP_carry 15 = .ok (.lload_n 1, 1) := by decide +kernel
theorem dP_carry_16 : decode cP_carry 16 = .ok (.ladd, 1) := by decide +kernel
theorem dP_carry_17 : decode cP_carry 17 = .ok (.lstore 4, 2) := by decide +kernel
theorem dP_carry_19 : decode cP_carry 19 = .ok (.aload_n 0, 1) := by decide +kernel
theorem dP_carry_20 : decode cP_carry 20 = .ok (.getfield 13, 3) := by decide +kernel
theorem dP_carry_23 : decode cP_carry 23 = .ok (.iload_n 3, 1) := by decide +kernel
theorem dP_carry_24 : decode cP_carry 24 = .ok (.lload 4, 2) := by decide +kernel
theorem dP_carry_26 : decode cP_carry 26 = .ok (.ldc2_w 71, 3) := by decide +kernel
theorem dP_carry_29 : decode cP_carry 29 = .ok (.land, 1) := by decide +kernel
theorem dP_carry_30 : decode cP_carry 30 = .ok (.lastore, 1) := by decide +kernel
theorem dP_carry_31 : decode cP_carry 31 = .ok (.lload 4, 2) := by decide +kernel
theorem dP_carry_33 : decode cP_carry 33 = .ok (.bipush 26, 2) := by decide +kernel
theorem dP_carry_35 : decode cP_carry 35 = .ok (.lushr, 1) := by decide +kernel
theorem dP_carry_36 : decode cP_carry 36 = .ok (.lstore_n 1, 1) := by decide +kernel
theorem dP_carry_37 : decode cP_carry 37 = .ok (.iinc 3 1, 3) := by decide +kernel
theorem dP_carry_40 : decode cP_carry 40 = .ok (.goto (-36), 3) := by decide +kernel
theorem dP_carry_43 : decode cP_carry 43 = .ok (.aload_n 0, 1) := by decide +kernel
theorem dP_carry_44 : decode cP_carry 44 = .ok (.getfield 13, 3) := by decide +kernel
theorem dP_carry_47 : decode cP_carry 47 = .ok (.iconst 0, 1) := by decide +kernel
theorem dP_carry_48 : decode cP_carry 48 = .ok (.dup2, 1) := by decide +kernel
theorem dP_carry_49 : decode cP_carry 49 = .ok (.laload, 1) := by decide +kernel
theorem dP_carry_50 : decode cP_carry 50 = .ok (.ldc2_w 82, 3) := by decide +kernel
theorem dP_carry_53 : decode cP_carry 53 = .ok (.lload_n 1, 1) := by decide +kernel
theorem dP_carry_54 : decode cP_carry 54 = .ok (.lmul, 1) := by decide +kernel
theorem dP_carry_55 : decode cP_carry 55 = .ok (.ladd, 1) := by decide +kernel
theorem dP_carry_56 : decode cP_carry 56 = .ok (.lastore, 1) := by decide +kernel
theorem dP_carry_57 : decode cP_carry 57 = .ok (.return_, 1) := by decide +kernel
theorem dP_takePrimeOff_0 : decode cP_takePrimeOff 0 = .ok (.ldc2_w 82, 3) := by decide +kernel
theorem dP_takePrimeOff_3 : decode cP_takePrimeOff 3 = .ok (.lstore_n 1, 1) := by decide +kernel
theorem dP_takePrimeOff_4 : decode cP_takePrimeOff 4 = .ok (.iconst 0, 1) := by decide +kernel
theorem dP_takePrimeOff_5 : decode cP_takePrimeOff 5 = .ok (.istore_n 3, 1) := by decide +kernel
theorem dP_takePrimeOff_6 : decode cP_takePrimeOff 6 = .ok (.iload_n 3, 1) := by decide +kernel
theorem dP_takePrimeOff_7 : decode cP_takePrimeOff 7 = .ok (.iconst 5, 1) := by decide +kernel
theorem dP_takePrimeOff_8 : decode cP_takePrimeOff 8 = .ok (.if_icmp .ge 37, 3) := by decide +kernel
theorem dP_takePrimeOff_11 : decode cP_takePrimeOff 11 = .ok (.aload_n 0, 1) := by decide +kernel
theorem dP_takePrimeOff_12 : decode cP_takePrimeOff 12 = .ok (.getfield 13, 3) := by decide +kernel
theorem dP_takePrimeOff_15 : decode cP_takePrimeOff 15 = .ok (.iload_n 3, 1) := by decide +kernel
theorem dP_takePrimeOff_16 : decode cP_takePrimeOff 16 = .ok (.laload, 1) := by decide +kernel
theorem dP_takePrimeOff_17 : decode cP_takePrimeOff 17 = .ok (.lload_n 1, 1) := by decide +kernel
theorem dP_takePrimeOff_18 : decode cP_takePrimeOff 18 = .ok (.ladd, 1) := by decide +kernel
theorem dP_takePrimeOff_19 : decode cP_takePrimeOff 19 = .ok (.lstore 4, 2) := by decide +kernel
theorem dP_takePrimeOff_21 : decode cP_takePrimeOff 21 = .ok (.aload_n 0, 1) := by decide +kernel
theorem dP_takePrimeOff_22 : decode cP_takePrimeOff 22 = .ok (.getfield 16, 3) := by decide +kernel
theorem dP_takePrimeOff_25 : decode cP_takePrimeOff 25 = .ok (.iload_n 3, 1) := by decide +kernel
theorem dP_takePrimeOff_26 : decode cP_takePrimeOff 26 = .ok (.lload 4, 2) := by decide +kernel
theorem dP_takePrimeOff_28 : decode cP_takePrimeOff 28 = .ok (.ldc2_w 71, 3) := by decide +kernel
theorem dP_takePrimeOff_31 : decode cP_takePrimeOff 31 = .ok (.land, 1) := by decide +kernel
theorem dP_takePrimeOff_32 : decode cP_takePrimeOff 32 = .ok (.lastore, 1) := by decide +kernel
theorem dP_takePrimeOff_33 : decode cP_takePrimeOff 33 = .ok (.lload 4, 2) := by decide +kernel
theorem dP_takePrimeOff_35 : decode cP_takePrimeOff 35 = .ok (.bipush 26, 2) := by decide +kernel
theorem dP_takePrimeOff_37 : decode cP_takePrimeOff 37 = .ok (.lushr, 1) := by decide +kernel
theorem dP_takePrimeOff_38 : decode cP_takePrimeOff 38 = .ok (.lstore_n 1, 1) := by decide +kernel
theorem dP_takePrimeOff_39 : decode cP_takePrimeOff 39 = .ok (.iinc 3 1, 3) := by decide +kernel
theorem dP_takePrimeOff_42 : decode cP_takePrimeOff 42 = .ok (.goto (-36), 3) := by decide +kernel
theorem dP_takePrimeOff_45 : decode cP_takePrimeOff 45 = .ok (.lload_n 1, 1) := by decide +kernel
theorem dP_takePrimeOff_46 : decode cP_takePrimeOff 46 = .ok (.lconst 0, 1) := by decide +kernel
theorem dP_takePrimeOff_47 : decode cP_takePrimeOff 47 = .ok (.lcmp, 1) := by decide +kernel
theorem dP_takePrimeOff_48 : decode cP_takePrimeOff 48 = .ok (.ifCond .eq 17, 3) := by decide +kernel
theorem dP_takePrimeOff_51 : decode cP_takePrimeOff 51 = .ok (.aload_n 0, 1) := by decide +kernel
theorem dP_takePrimeOff_52 : decode cP_takePrimeOff 52 = .ok (.getfield 16, 3) := by decide +kernel
theorem dP_takePrimeOff_55 : decode cP_takePrimeOff 55 = .ok (.iconst 0, 1) := by decide +kernel
theorem dP_takePrimeOff_56 : decode cP_takePrimeOff 56 = .ok (.aload_n 0, 1) := by decide +kernel
theorem dP_takePrimeOff_57 : decode cP_takePrimeOff 57 = .ok (.getfield 13, 3) := by decide +kernel
theorem dP_takePrimeOff_60 : decode cP_takePrimeOff 60 = .ok (.iconst 0, 1) := by decide +kernel
theorem dP_takePrimeOff_61 : decode cP_takePrimeOff 61 = .ok (.iconst 5, 1) := by decide +kernel
theorem dP_takePrimeOff_62 : decode cP_takePrimeOff 62 = .ok (.invokestatic 30, 3) := by decide +kernel
theorem dP_takePrimeOff_65 : decode cP_takePrimeOff 65 = .ok (.return_, 1) := by decide +kernel
theorem dH_init_0 : decode cH_init 0 = .ok (.aload_n 0, 1) := by decide +kernel
theorem dH_init_1 : decode cH_init 1 = .ok (.invokespecial 1, 3) := by decide +kernel
theorem dH_init_4 : decode cH_init 4 = .ok (.aload_n 0, 1) := by decide +kernel
theorem dH_init_5 : decode cH_init 5 = .ok (.bipush 8, 2) := by decide +kernel
theorem dH_init_7 : decode cH_init 7 = .ok (.newarray .int, 2) := by decide +kernel
theorem dH_init_9 : decode cH_init 9 = .ok (.putfield 9, 3) := by decide +kernel
theorem dH_init_12 : decode cH_init 12 = .ok (.aload_n 0, 1) := by decide +kernel
theorem dH_init_13 : decode cH_init 13 = .ok (.bipush 64, 2) := by decide +kernel
theorem dH_init_15 : decode cH_init 15 = .ok (.newarray .int, 2) := by decide +kernel
theorem dH_init_17 : decode cH_init 17 = .ok (.putfield 13, 3) := by decide +kernel
theorem dH_init_20 : decode cH_init 20 = .ok (.aload_n 0, 1) := by decide +kernel
theorem dH_init_21 : decode cH_init 21 = .ok (.bipush 8, 2) := by decide +kernel
theorem dH_init_23 : decode cH_init 23 = .ok (.newarray .int, 2) := by decide +kernel
theorem dH_init_25 : decode cH_init 25 = .ok (.putfield 16, 3) := by decide +kernel
theorem dH_init_28 : decode cH_init 28 = .ok (.aload_n 0, 1) := by decide +kernel
theorem dH_init_29 : decode cH_init 29 = .ok (.bipush 64, 2) := by decide +kernel
theorem dH_init_31 : decode cH_init 31 = .ok (.newarray .byte, 2) := by decide +kernel
theorem dH_init_33 : decode cH_init 33 = .ok (.putfield 19, 3) := by decide +kernel
theorem dH_init_36 : decode cH_init 36 = .ok (.aload_n 0, 1) := by decide +kernel
theorem dH_init_37 : decode cH_init 37 = .ok (.iconst 0, 1) := by decide +kernel
theorem dH_init_38 : decode cH_init 38 = .ok (.putfield 23, 3) := by decide +kernel
theorem dH_init_41 : decode cH_init 41 = .ok (.aload_n 0, 1) := by decide +kernel
theorem dH_init_42 : decode cH_init 42 = .ok (.iconst 0, 1) := by decide +kernel
theorem dH_init_43 : decode cH_init 43 = .ok (.putfield 27, 3) := by decide +kernel
theorem dH_init_46 : decode cH_init 46 = .ok (.return_, 1) := by decide +kernel
theorem dH_start_0 : decode cH_start 0 = .ok (.getstatic 30, 3) := by decide +kernel
theorem dH_start_3 : decode cH_start 3 = .ok (.iconst 0, 1) := by decide +kernel
theorem dH_start_4 : decode cH_start 4 = .ok (.aload_n 0, 1) := by decide +kernel
theorem dH_start_5 : decode cH_start 5 = .ok (.getfield 9, 3) := by decide +kernel
theorem dH_start_8 : decode cH_start 8 = .ok (.iconst 0, 1) := by decide +kernel
theorem dH_start_9 : decode cH_start 9 = .ok (.bipush 8, 2) := by decide +kernel
theorem dH_start_11 : decode cH_start 11 = .ok (.invokestatic 33, 3) := by decide +kernel
theorem dH_start_14 : decode cH_start 14 = .ok (.aload_n 0, 1) := by decide +kernel
theorem dH_start_15 : decode cH_start 15 = .ok (.iconst 0, 1) := by decide +kernel
theorem dH_start_16 : decode cH_start 16 = .ok (.putfield 23, 3) := by decide +kernel
theorem dH_start_19 : decode cH_start 19 = .ok (.aload_n 0, 1) := by decide +kernel
theorem dH_start_20 : decode cH_start 20 = .ok (.iconst 0, 1) := by decide +kernel
theorem dH_start_21 : decode cH_start 21 = .ok (.putfield 27, 3) := by decide +kernel
theorem dH_start_24 : decode cH_start 24 = .ok (.return_, 1) := by decide +kernel
theorem dH_add_0 : decode cH_add 0 = .ok (.iconst 0, 1) := by decide +kernel
theorem dH_add_1 : decode cH_add 1 = .ok (.istore_n 3, 1) := by decide +kernel
theorem dH_add_2 : decode cH_add 2 = .ok (.iload_n 3, 1) := by decide +kernel
theorem dH_add_3 : decode cH_add 3 = .ok (.iload_n 2, 1) := by decide +kernel
theorem dH_add_4 : decode cH_add 4 = .ok (.if_icmp .ge 16, 3) := by decide +kernel
theorem dH_add_7 : decode cH_add 7 = .ok (.aload_n 0, 1) := by decide +kernel
theorem dH_add_8 : decode cH_add 8 = .ok (.aload_n 1, 1) := by decide +kernel
theorem dH_add_9 : decode cH_add 9 = .ok (.iload_n 3, 1) := by decide +kernel
theorem dH_add_10 : decode cH_add 10 = .ok (.baload, 1) := by decide +kernel
theorem dH_add_11 : decode cH_add 11 = .ok (.invokevirtual 39, 3) := by decide +kernel
theorem dH_add_14 : decode cH_add 14 = .ok (.iinc 3 1, 3) := by decide +kernel
theorem dH_add_17 : decode cH_add 17 = .ok (.goto (-15), 3) := by decide +kernel
theorem dH_add_20 : decode cH_add 20 = .ok (.return_, 1) := by decide +kernel
theorem dH_addMasked_0 : decode cH_addMasked 0 = .ok (.iconst 0, 1) := by decide +kernel
theorem dH_addMasked_1 : decode cH_addMasked 1 = .ok (.istore_n 3, 1) := by decide +kernel
theorem dH_addMasked_2 : decode cH_addMasked 2 = .ok (.iload_n 3, 1) := by decide +kernel
theorem dH_addMasked_3 : decode cH_addMasked 3 = .ok (.bipush 64, 2) := by decide +kernel
theorem dH_addMasked_5 : decode cH_addMasked 5 = .ok (.if_icmp .ge 29, 3) := by decide +kernel
theorem dH_addMasked_8 : decode cH_addMasked 8 = .ok (.aload_n 0, 1) := by decide +kernel
theorem dH_addMasked_9 : decode cH_addMasked 9 = .ok (.iload_n 3, 1) := by decide +kernel
theorem dH_addMasked_10 : decode cH_addMasked 10 = .ok (.aload_n 1, 1) := by decide +kernel
theorem dH_addMasked_11 : decode cH_addMasked 11 = .ok (.arraylength, 1) := by decide +kernel
theorem dH_addMasked_12 : decode cH_addMasked 12 = .ok (.if_icmp .ge 11, 3) := by decide +kernel
theorem dH_addMasked_15 : decode cH_addMasked 15 = .ok (.aload_n 1, 1) := by decide +kernel
theorem dH_addMasked_16 : decode cH_addMasked 16 = .ok (.iload_n 3, 1) := by decide +kernel
theorem dH_addMasked_17 : decode cH_addMasked 17 = .ok (.baload, 1) := by decide +kernel
theorem dH_addMasked_18 : decode cH_addMasked 18 = .ok (.iload_n 2, 1) := by decide +kernel
theorem dH_addMasked_19 : decode cH_addMasked 19 = .ok (.ixor, 1) := by decide +kernel
theorem dH_addMasked_20 : decode cH_addMasked 20 = .ok (.goto 4, 3) := by decide +kernel
theorem dH_addMasked_23 : decode cH_addMasked 23 = .ok (.iload_n 2, 1) := by decide +kernel
theorem dH_addMasked_24 : decode cH_addMasked 24 = .ok (.i2b, 1) := by decide +kernel
theorem dH_addMasked_25 : decode cH_addMasked 25 = .ok (.invokevirtual 39, 3) := by decide +kernel
theorem dH_addMasked_28 : decode cH_addMasked 28 = .ok (.iinc 3 1, 3) := by decide +kernel
theorem dH_addMasked_31 : decode cH_addMasked 31 = .ok (.goto (-29), 3) := by decide +kernel
theorem dH_addMasked_34 : decode cH_addMasked 34 = .ok (.return_, 1) := by decide +kernel
theorem dH_finish_0 : decode cH_finish 0 = .ok (.aload_n 0, 1) := by decide +kernel
theorem dH_finish_1 : decode cH_finish 1 = .ok (.getfield 27, 3) := by decide +kernel
theorem dH_finish_4 : decode cH_finish 4 = .ok (.bipush 8, 2) := by decide +kernel
theorem dH_finish_6 : decode cH_finish 6 = .ok (.imul, 1) := by decide +kernel
theorem dH_finish_7 : decode cH_finish 7 = .ok (.istore_n 2, 1) := by decide +kernel
theorem dH_finish_8 : decode cH_finish 8 = .ok (.aload_n 0, 1) := by decide +kernel
theorem dH_finish_9 : decode cH_finish 9 = .ok (.bipush (-128), 2) := by decide +kernel
theorem dH_finish_11 : decode cH_finish 11 = .ok (.invokevirtual 39, 3) := by decide +kernel
theorem dH_finish_14 : decode cH_finish 14 = .ok (.bipush 56, 2) := by decide +kernel
theorem dH_finish_16 : decode cH_finish 16 = .ok (.aload_n 0, 1) := by decide +kernel
theorem dH_finish_17 : decode cH_finish 17 = .ok (.getfield 23, 3) := by decide +kernel
theorem dH_finish_20 : decode cH_finish 20 = .ok (.isub, 1) := by decide +kernel
theorem dH_finish_21 : decode cH_finish 21 = .ok (.bipush 63, 2) := by decide +kernel
theorem dH_finish_23 : decode cH_finish 23 = .ok (.iand, 1) := by decide +kernel
theorem dH_finish_24 : decode cH_finish 24 = .ok (.istore_n 3, 1) := by decide +kernel
theorem dH_finish_25 : decode cH_finish 25 = .ok (.iconst 0, 1) := by decide +kernel
theorem dH_finish_26 : decode cH_finish 26 = .ok (.istore 4, 2) := by decide +kernel
theorem dH_finish_28 : decode cH_finish 28 = .ok (.iload 4, 2) := by decide +kernel
theorem dH_finish_30 : decode cH_finish 30 = .ok (.iload_n 3, 1) := by decide +kernel
theorem dH_finish_31 : decode cH_finish 31 = .ok (.iconst 4, 1) := by decide +kernel
theorem dH_finish_32 : decode cH_finish 32 = .ok (.iadd, 1) := by decide +kernel
theorem dH_finish_33 : decode cH_finish 33 = .ok (.if_icmp .ge 14, 3) := by decide +kernel
theorem dH_finish_36 : decode cH_finish 36 = .ok (.aload_n 0, 1) := by decide +kernel
theorem dH_finish_37 : decode cH_finish 37 = .ok (.iconst 0, 1) := by decide +kernel
theorem dH_finish_38 : decode cH_finish 38 = .ok (.invokevirtual 39, 3) := by decide +kernel
theorem dH_finish_41 : decode cH_finish 41 = .ok (.iinc 4 1, 3) := by decide +kernel
theorem dH_finish_44 : decode cH_finish 44 = .ok (.goto (-16), 3) := by decide +kernel
theorem dH_finish_47 : decode cH_finish 47 = .ok (.bipush 24, 2) := by decide +kernel
theorem dH_finish_49 : decode cH_finish 49 = .ok (.istore 4, 2) := by decide +kernel
theorem dH_finish_51 : decode cH_finish 51 = .ok (.iload 4, 2) := by decide +kernel
theorem dH_finish_53 : decode cH_finish 53 = .ok (.ifCond .lt 18, 3) := by decide +kernel
theorem dH_finish_56 : decode cH_finish 56 = .ok (.aload_n 0, 1) := by decide +kernel
theorem dH_finish_57 : decode cH_finish 57 = .ok (.iload_n 2, 1) := by decide +kernel
theorem dH_finish_58 : decode cH_finish 58 = .ok (.iload 4, 2) := by decide +kernel
theorem dH_finish_60 : decode cH_finish 60 = .ok (.iushr, 1) := by decide +kernel
theorem dH_finish_61 : decode cH_finish 61 = .ok (.i2b, 1) := by decide +kernel
theorem dH_finish_62 : decode cH_finish 62 = .ok (.invokevirtual 39, 3) := by decide +kernel
theorem dH_finish_65 : decode cH_finish 65 = .ok (.iinc 4 (-8), 3) := by decide +kernel
theorem dH_finish_68 : decode cH_finish 68 = .ok (.goto (-17), 3) := by decide +kernel
theorem dH_finish_71 : decode cH_finish 71 = .ok (.iconst 0, 1) := by decide +kernel
theorem dH_finish_72 : decode cH_finish 72 = .ok (.istore 4, 2) := by decide +kernel
theorem dH_finish_74 : decode cH_finish 74 = .ok (.iload 4, 2) := by decide +kernel
theorem dH_finish_76 : decode cH_finish 76 = .ok (.bipush 8, 2) := by decide +kernel
theorem dH_finish_78 : decode cH_finish 78 = .ok (.if_icmp .ge 24, 3) := by decide +kernel
theorem dH_finish_81 : decode cH_finish 81 = .ok (.aload_n 1, 1) := by decide +kernel
theorem dH_finish_82 : decode cH_finish 82 = .ok (.iconst 4, 1) := by decide +kernel
theorem dH_finish_83 : decode cH_finish 83 = .ok (.iload 4, 2) := by decide +kernel
theorem dH_finish_85 : decode cH_finish 85 = .ok (.imul, 1) := by decide +kernel
theorem dH_finish_86 : decode cH_finish 86 = .ok (.aload_n 0, 1) := by decide +kernel
theorem dH_finish_87 : decode cH_finish 87 = .ok (.getfield 9, 3) := by decide +kernel
theorem dH_finish_90 : decode cH_finish 90 = .ok (.iload 4, 2) := by decide +kernel
theorem dH_finish_92 : decode cH_finish 92 = .ok (.iaload, 1) := by decide +kernel
theorem dH_finish_93 : decode cH_finish 93 = .ok (.invokestatic 43, 3) := by decide +kernel
theorem dH_finish_96 : decode cH_finish 96 = .ok (.iinc 4 1, 3) := by decide +kernel
theorem dH_finish_99 : decode cH_finish 99 = .ok (.goto (-25), 3) := by decide +kernel
theorem dH_finish_102 : decode cH_finish 102 = .ok (.return_, 1) := by decide +kernel
theorem dH_addByte_0 : decode cH_addByte 0 = .ok (.aload_n 0, 1) := by decide +kernel
theorem dH_addByte_1 : decode cH_addByte 1 = .ok (.getfield 19, 3) := by decide +kernel
theorem dH_addByte_4 : decode cH_addByte 4 = .ok (.aload_n 0, 1) := by decide +kernel
theorem dH_addByte_5 : decode cH_addByte 5 = .ok (.getfield 23, 3) := by decide +kernel
theorem dH_addByte_8 : decode cH_addByte 8 = .ok (.iload_n 1, 1) := by decide +kernel
theorem dH_addByte_9 : decode cH_addByte 9 = .ok (.bastore, 1) := by decide +kernel
theorem dH_addByte_10 : decode cH_addByte 10 = .ok (.aload_n 0, 1) := by decide +kernel
theorem dH_addByte_11 : decode cH_addByte 11 = .ok (.dup, 1) := by decide +kernel
theorem dH_addByte_12 : decode cH_addByte 12 = .ok (.getfield 23, 3) := by decide +kernel
theorem dH_addByte_15 : decode cH_addByte 15 = .ok (.iconst 1, 1) := by decide +kernel
theorem dH_addByte_16 : decode cH_addByte 16 = .ok (.iadd, 1) := by decide +kernel
theorem dH_addByte_17 : decode cH_addByte 17 = .ok (.putfield 23, 3) := by decide +kernel
theorem dH_addByte_20 : decode cH_addByte 20 = .ok (.aload_n 0, 1) := by decide +kernel
theorem dH_addByte_21 : decode cH_addByte 21 = .ok (.dup, 1) := by decide +kernel
theorem dH_addByte_22 : decode cH_addByte 22 = .ok (.getfield 27, 3) := by decide +kernel
theorem dH_addByte_25 : decode cH_addByte 25 = .ok (.iconst 1, 1) := by decide +kernel
theorem dH_addByte_26 : decode cH_addByte 26 = .ok (.iadd, 1) := by decide +kernel
theorem dH_addByte_27 : decode cH_addByte 27 = .ok (.putfield 27, 3) := by decide +kernel
theorem dH_addByte_30 : decode cH_addByte 30 = .ok (.aload_n 0, 1) := by decide +kernel
theorem dH_addByte_31 : decode cH_addByte 31 = .ok (.getfield 23, 3) := by decide +kernel
theorem dH_addByte_34 : decode cH_addByte 34 = .ok (.bipush 64, 2) := by decide +kernel
theorem dH_addByte_36 : decode cH_addByte 36 = .ok (.if_icmp .ne 16, 3) := by decide +kernel
theorem dH_addByte_39 : decode cH_addByte 39 = .ok (.aload_n 0, 1) := by decide +kernel
theorem dH_addByte_40 : decode cH_addByte 40 = .ok (.iconst 0, 1) := by decide +kernel
theorem dH_addByte_41 : decode cH_addByte 41 = .ok (.putfield 23, 3) := by decide +kernel
theorem dH_addByte_44 : decode cH_addByte 44 = .ok (.aload_n 0, 1) := by decide +kernel
theorem dH_addByte_45 : decode cH_addByte 45 = .ok (.invokevirtual 49, 3) := by decide +kernel
theorem dH_addByte_48 : decode cH_addByte 48 = .ok (.aload_n 0, 1) := by decide +kernel
theorem dH_addByte_49 : decode cH_addByte 49 = .ok (.invokevirtual 52, 3) := by decide +kernel
theorem dH_addByte_52 : decode cH_addByte 52 = .ok (.return_, 1) := by decide +kernel
theorem dH_spreadBlock_0 : decode cH_spreadBlock 0 = .ok (.iconst 0, 1) := by decide +kernel
theorem dH_spreadBlock_1 : decode cH_spreadBlock 1 = .ok (.istore_n 1, 1) := by decide +kernel
theorem dH_spreadBlock_2 : decode cH_spreadBlock 2 = .ok (.iload_n 1, 1) := by decide +kernel
theorem dH_spreadBlock_3 : decode cH_spreadBlock 3 = .ok (.bipush 16, 2) := by decide +kernel
theorem dH_spreadBlock_5 : decode cH_spreadBlock 5 = .ok (.if_icmp .ge 25, 3) := by decide +kernel
theorem dH_spreadBlock_8 : decode cH_spreadBlock 8 = .ok (.aload_n 0, 1) := by decide +kernel
theorem dH_spreadBlock_9 : decode cH_spreadBlock 9 = .ok (.getfield 13, 3) := by decide +kernel
theorem dH_spreadBlock_12 : decode cH_spreadBlock 12 = .ok (.iload_n 1, 1) := by decide +kernel
theorem dH_spreadBlock_13 : decode cH_spreadBlock 13 = .ok (.aload_n 0, 1) := by decide +kernel
theorem dH_spreadBlock_14 : decode cH_spreadBlock 14 = .ok (.getfield 19, 3) := by decide +kernel
theorem dH_spreadBlock_17 : decode cH_spreadBlock 17 = .ok (.iconst 4, 1) := by decide +kernel
theorem dH_spreadBlock_18 : decode cH_spreadBlock 18 = .ok (.iload_n 1, 1) := by decide +kernel
theorem dH_spreadBlock_19 : decode cH_spreadBlock 19 = .ok (.imul, 1) := by decide +kernel
theorem dH_spreadBlock_20 : decode cH_spreadBlock 20 = .ok (.invokestatic 55, 3) := by decide +kernel
theorem dH_spreadBlock_23 : decode cH_spreadBlock 23 = .ok (.iastore, 1) := by decide +kernel
theorem dH_spreadBlock_24 : decode cH_spreadBlock 24 = .ok (.iinc 1 1, 3) := by decide +kernel
theorem dH_spreadBlock_27 : decode cH_spreadBlock 27 = .ok (.goto (-25), 3) := by decide +kernel
theorem dH_spreadBlock_30 : decode cH_spreadBlock 30 = .ok (.bipush 16, 2) := by decide +kernel
theorem dH_spreadBlock_32 : decode cH_spreadBlock 32 = .ok (.istore_n 1, 1) := by decide +kernel
theorem dH_spreadBlock_33 : decode cH_spreadBlock 33 = .ok (.iload_n 1, 1) := by decide +kernel
theorem dH_spreadBlock_34 : decode cH_spreadBlock 34 = .ok (.bipush 64, 2) := by decide +kernel
theorem dH_spreadBlock_36 : decode cH_spreadBlock 36 = .ok (.if_icmp .ge 98, 3) := by decide +kernel
theorem dH_spreadBlock_39 : decode cH_spreadBlock 39 = .ok (.aload_n 0, 1) := by decide +kernel
theorem dH_spreadBlock_40 : decode cH_spreadBlock 40 = .ok (.getfield 13, 3) := by decide +kernel
theorem dH_spreadBlock_43 : decode cH_spreadBlock 43 = .ok (.iload_n 1, 1) := by decide +kernel
theorem dH_spreadBlock_44 : decode cH_spreadBlock 44 = .ok (.iconst 2, 1) := by decide +kernel
theorem dH_spreadBlock_45 : decode cH_spreadBlock 45 = .ok (.isub, 1) := by decide +kernel
theorem dH_spreadBlock_46 : decode cH_spreadBlock 46 = .ok (.iaload, 1) := by decide +kernel
theorem dH_spreadBlock_47 : decode cH_spreadBlock 47 = .ok (.istore_n 2, 1) := by decide +kernel
theorem dH_spreadBlock_48 : decode cH_spreadBlock 48 = .ok (.aload_n 0, 1) := by decide +kernel
theorem dH_spreadBlock_49 : decode cH_spreadBlock 49 = .ok (.getfield 13, 3) := by decide +kernel
theorem dH_spreadBlock_52 : decode cH_spreadBlock 52 = .ok (.iload_n 1, 1) := by decide +kernel
theorem dH_spreadBlock_53 : decode cH_spreadBlock 53 = .ok (.bipush 15, 2) := by decide +kernel
theorem dH_spreadBlock_55 : decode cH_spreadBlock 55 = .ok (.isub, 1) := by decide +kernel
theorem dH_spreadBlock_56 : decode cH_spreadBlock 56 = .ok (.iaload, 1) := by decide +kernel
theorem dH_spreadBlock_57 : decode cH_spreadBlock 57 = .ok (.istore_n 3, 1) := by decide +kernel
theorem dH_spreadBlock_58 : decode cH_spreadBlock 58 = .ok (.iload_n 2, 1) := by decide +kernel
theorem dH_spreadBlock_59 : decode cH_spreadBlock 59 = .ok (.bipush 17, 2) := by decide +kernel
theorem dH_spreadBlock_61 : decode cH_spreadBlock 61 = .ok (.invokestatic 59, 3) := by decide +kernel
theorem dH_spreadBlock_64 : decode cH_spreadBlock 64 = .ok (.iload_n 2, 1) := by decide +kernel
theorem dH_spreadBlock_65 : decode cH_spreadBlock 65 = .ok (.bipush 19, 2) := by decide +kernel
theorem dH_spreadBlock_67 : decode cH_spreadBlock 67 = .ok (.invokestatic 59, 3) := by decide +kernel
theorem dH_spreadBlock_70 : decode cH_spreadBlock 70 = .ok (.ixor, 1) := by decide +kernel
theorem dH_spreadBlock_71 : decode cH_spreadBlock 71 = .ok (.iload_n 2, 1) := by decide +kernel
theorem dH_spreadBlock_72 : decode cH_spreadBlock 72 = .ok (.bipush 10, 2) := by decide +kernel
theorem dH_spreadBlock_74 : decode cH_spreadBlock 74 = .ok (.iushr, 1) := by decide +kernel
theorem dH_spreadBlock_75 : decode cH_spreadBlock 75 = .ok (.ixor, 1) := by decide +kernel
theorem dH_spreadBlock_76 : decode cH_spreadBlock 76 = .ok (.istore 4, 2) := by decide +kernel
theorem dH_spreadBlock_78 : decode cH_spreadBlock 78 = .ok (.iload_n 3, 1) := by decide +kernel
theorem dH_spreadBlock_79 : decode cH_spreadBlock 79 = .ok (.bipush 7, 2) := by decide +kernel
theorem dH_spreadBlock_81 : decode cH_spreadBlock 81 = .ok (.invokestatic 59, 3) := by decide +kernel
theorem dH_spreadBlock_84 : decode cH_spreadBlock 84 = .ok (.iload_n 3, 1) := by decide +kernel
theorem dH_spreadBlock_85 : decode cH_spreadBlock 85 = .ok (.bipush 18, 2) := by decide +kernel
theorem dH_spreadBlock_87 : decode cH_spreadBlock 87 = .ok (.invokestatic 59, 3) := by decide +kernel
theorem dH_spreadBlock_90 : decode cH_spreadBlock 90 = .ok (.ixor, 1) := by decide +kernel
theorem dH_spreadBlock_91 : decode cH_spreadBlock 91 = .ok (.iload_n 3, 1) := by decide +kernel
theorem dH_spreadBlock_92 : decode cH_spreadBlock 92 = .ok (.iconst 3, 1) := by decide +kernel
theorem dH_spreadBlock_93 : decode cH_spreadBlock 93 = .ok (.iushr, 1) := by decide +kernel
theorem dH_spreadBlock_94 : decode cH_spreadBlock 94 = .ok (.ixor, 1) := by decide +kernel
theorem dH_spreadBlock_95 : decode cH_spreadBlock 95 = .ok (.istore 5, 2) := by decide +kernel
theorem dH_spreadBlock_97 : decode cH_spreadBlock 97 = .ok (.aload_n 0, 1) := by decide +kernel
theorem dH_spreadBlock_98 : decode cH_spreadBlock 98 = .ok (.getfield 13, 3) := by decide +kernel
theorem dH_spreadBlock_101 : decode cH_spreadBlock 101 = .ok (.iload_n 1, 1) := by decide +kernel
theorem dH_spreadBlock_102 : decode cH_spreadBlock 102 = .ok (.iload 4, 2) := by decide +kernel
theorem dH_spreadBlock_104 : decode cH_spreadBlock 104 = .ok (.aload_n 0, 1) := by decide +kernel
theorem dH_spreadBlock_105 : decode cH_spreadBlock 105 = .ok (.getfield 13, 3) := by decide +kernel
theorem dH_spreadBlock_108 : decode cH_spreadBlock 108 = .ok (.iload_n 1, 1) := by decide +kernel
theorem dH_spreadBlock_109 : decode cH_spreadBlock 109 = .ok (.bipush 7, 2) := by decide +kernel
theorem dH_spreadBlock_111 : decode cH_spreadBlock 111 = .ok (.isub, 1) := by decide +kernel
theorem dH_spreadBlock_112 : decode cH_spreadBlock 112 = .ok (.iaload, 1) := by decide +kernel
theorem dH_spreadBlock_113 : decode cH_spreadBlock 113 = .ok (.iadd, 1) := by decide +kernel
theorem dH_spreadBlock_114 : decode cH_spreadBlock 114 = .ok (.iload 5, 2) := by decide +kernel
theorem dH_spreadBlock_116 : decode cH_spreadBlock 116 = .ok (.iadd, 1) := by decide +kernel
theorem dH_spreadBlock_117 : decode cH_spreadBlock 117 = .ok (.aload_n 0, 1) := by decide +kernel
theorem dH_spreadBlock_118 : decode cH_spreadBlock 118 = .ok (.getfield 13, 3) := by decide +kernel
theorem dH_spreadBlock_121 : decode cH_spreadBlock 121 = .ok (.iload_n 1, 1) := by decide +kernel
theorem dH_spreadBlock_122 : decode cH_spreadBlock 122 = .ok (.bipush 16, 2) := by decide +kernel
theorem dH_spreadBlock_124 : decode cH_spreadBlock 124 = .ok (.isub, 1) := by decide +kernel
theorem dH_spreadBlock_125 : decode cH_spreadBlock 125 = .ok (.iaload, 1) := by decide +kernel
theorem dH_spreadBlock_126 : decode cH_spreadBlock 126 = .ok (.iadd, 1) := by decide +kernel
theorem dH_spreadBlock_127 : decode cH_spreadBlock 127 = .ok (.iastore, 1) := by decide +kernel
theorem dH_spreadBlock_128 : decode cH_spreadBlock 128 = .ok (.iinc 1 1, 3) := by decide +kernel
theorem dH_spreadBlock_131 : decode cH_spreadBlock 131 = .ok (.goto (-98), 3) := by decide +kernel
theorem dH_spreadBlock_134 : decode cH_spreadBlock 134 = .ok (.return_, 1) := by decide +kernel
theorem dH_mixBlock_0 : decode cH_mixBlock 0 = .ok (.aload_n 0, 1) := by decide +kernel
theorem dH_mixBlock_1 : decode cH_mixBlock 1 = .ok (.getfield 9, 3) := by decide +kernel
theorem dH_mixBlock_4 : decode cH_mixBlock 4 = .ok (.iconst 0, 1) := by decide +kernel
theorem dH_mixBlock_5 : decode cH_mixBlock 5 = .ok (.aload_n 0, 1) := by decide +kernel
theorem dH_mixBlock_6 : decode cH_mixBlock 6 = .ok (.getfield 16, 3) := by decide +kernel
theorem dH_mixBlock_9 : decode cH_mixBlock 9 = .ok (.iconst 0, 1) := by decide +kernel
theorem dH_mixBlock_10 : decode cH_mixBlock 10 = .ok (.bipush 8, 2) := by decide +kernel
theorem dH_mixBlock_12 : decode cH_mixBlock 12 = .ok (.invokestatic 33, 3) := by decide +kernel
theorem dH_mixBlock_15 : decode cH_mixBlock 15 = .ok (.iconst 0, 1) := by decide +kernel
theorem dH_mixBlock_16 : decode cH_mixBlock 16 = .ok (.istore_n 1, 1) := by decide +kernel
theorem dH_mixBlock_17 : decode cH_mixBlock 17 = .ok (.iload_n 1, 1) := by decide +kernel
theorem dH_mixBlock_18 : decode cH_mixBlock 18 = .ok (.bipush 64, 2) := by decide +kernel
theorem dH_mixBlock_20 : decode cH_mixBlock 20 = .ok (.if_icmp .ge 25, 3) := by decide +kernel
theorem dH_mixBlock_23 : decode cH_mixBlock 23 = .ok (.aload_n 0, 1) := by decide +kernel
theorem dH_mixBlock_24 : decode cH_mixBlock 24 = .ok (.aload_n 0, 1) := by decide +kernel
theorem dH_mixBlock_25 : decode cH_mixBlock 25 = .ok (.getfield 13, 3) := by decide +kernel
theorem dH_mixBlock_28 : decode cH_mixBlock 28 = .ok (.iload_n 1, 1) := by decide +kernel
theorem dH_mixBlock_29 : decode cH_mixBlock 29 = .ok (.iaload, 1) := by decide +kernel
theorem dH_mixBlock_30 : decode cH_mixBlock 30 = .ok (.getstatic 63, 3) := by decide +kernel
theorem dH_mixBlock_33 : decode cH_mixBlock 33 = .ok (.iload_n 1, 1) := by decide +kernel
theorem dH_mixBlock_34 : decode cH_mixBlock 34 = .ok (.iaload, 1) := by decide +kernel
theorem dH_mixBlock_35 : decode cH_mixBlock 35 = .ok (.iadd, 1) := by decide +kernel
theorem dH_mixBlock_36 : decode cH_mixBlock 36 = .ok (.invokevirtual 66, 3) := by decide +kernel
theorem dH_mixBlock_39 : decode cH_mixBlock 39 = .ok (.iinc 1 1, 3) := by decide +kernel
theorem dH_mixBlock_42 : decode cH_mixBlock 42 = .ok (.goto (-25), 3) := by decide +kernel
theorem dH_mixBlock_45 : decode cH_mixBlock 45 = .ok (.iconst 0, 1) := by decide +kernel
theorem dH_mixBlock_46 : decode cH_mixBlock 46 = .ok (.istore_n 1, 1) := by decide +kernel
theorem dH_mixBlock_47 : decode cH_mixBlock 47 = .ok (.iload_n 1, 1) := by decide +kernel
theorem dH_mixBlock_48 : decode cH_mixBlock 48 = .ok (.bipush 8, 2) := by decide +kernel
theorem dH_mixBlock_50 : decode cH_mixBlock 50 = .ok (.if_icmp .ge 24, 3) := by decide +kernel
theorem dH_mixBlock_53 : decode cH_mixBlock 53 = .ok (.aload_n 0, 1) := by decide +kernel
theorem dH_mixBlock_54 : decode cH_mixBlock 54 = .ok (.getfield 9, 3) := by decide +kernel
theorem dH_mixBlock_57 : decode cH_mixBlock 57 = .ok (.iload_n 1, 1) := by decide +kernel
theorem dH_mixBlock_58 : decode cH_mixBlock 58 = .ok (.dup2, 1) := by decide +kernel
theorem dH_mixBlock_59 : decode cH_mixBlock 59 = .ok (.iaload, 1) := by decide +kernel
theorem dH_mixBlock_60 : decode cH_mixBlock 60 = .ok (.aload_n 0, 1) := by decide +kernel
theorem dH_mixBlock_61 : decode cH_mixBlock 61 = .ok (.getfield 16, 3) := by decide +kernel
theorem dH_mixBlock_64 : decode cH_mixBlock 64 = .ok (.iload_n 1, 1) := by decide +kernel
theorem dH_mixBlock_65 : decode cH_mixBlock 65 = .ok (.iaload, 1) := by decide +kernel
theorem dH_mixBlock_66 : decode cH_mixBlock 66 = .ok (.iadd, 1) := by decide +kernel
theorem dH_mixBlock_67 : decode cH_mixBlock 67 = .ok (.iastore, 1) := by decide +kernel
theorem dH_mixBlock_68 : decode cH_mixBlock 68 = .ok (.iinc 1 1, 3) := by decide +kernel
theorem dH_mixBlock_71 : decode cH_mixBlock 71 = .ok (.goto (-24), 3) := by decide +kernel
theorem dH_mixBlock_74 : decode cH_mixBlock 74 = .ok (.return_, 1) := by decide +kernel
theorem dH_mixRound_0 : decode cH_mixRound 0 = .ok (.aload_n 0, 1) := by decide +kernel
theorem dH_mixRound_1 : decode cH_mixRound 1 = .ok (.getfield 16, 3) := by decide +kernel
theorem dH_mixRound_4 : decode cH_mixRound 4 = .ok (.iconst 0, 1) := by decide +kernel
theorem dH_mixRound_5 : decode cH_mixRound 5 = .ok (.iaload, 1) := by decide +kernel
theorem dH_mixRound_6 : decode cH_mixRound 6 = .ok (.istore_n 2, 1) := by decide +kernel
theorem dH_mixRound_7 : decode cH_mixRound 7 = .ok (.aload_n 0, 1) := by decide +kernel
theorem dH_mixRound_8 : decode cH_mixRound 8 = .ok (.getfield 16, 3) := by decide +kernel
theorem dH_mixRound_11 : decode cH_mixRound 11 = .ok (.iconst 4, 1) := by decide +kernel
theorem dH_mixRound_12 : decode cH_mixRound 12 = .ok (.iaload, 1) := by decide +kernel
theorem dH_mixRound_13 : decode cH_mixRound 13 = .ok (.istore_n 3, 1) := by decide +kernel
theorem dH_mixRound_14 : decode cH_mixRound 14 = .ok (.iload_n 3, 1) := by decide +kernel
theorem dH_mixRound_15 : decode cH_mixRound 15 = .ok (.aload_n 0, 1) := by decide +kernel
theorem dH_mixRound_16 : decode cH_mixRound 16 = .ok (.getfield 16, 3) := by decide +kernel
theorem dH_mixRound_19 : decode cH_mixRound 19 = .ok (.iconst 5, 1) := by decide +kernel
theorem dH_mixRound_20 : decode cH_mixRound 20 = .ok (.iaload, 1) := by decide +kernel
theorem dH_mixRound_21 : decode cH_mixRound 21 = .ok (.iand, 1) := by decide +kernel
theorem dH_mixRound_22 : decode cH_mixRound 22 = .ok (.iload_n 3, 1) := by decide +kernel
theorem dH_mixRound_23 : decode cH_mixRound 23 = .ok (.iconst (-1), 1) := by decide +kernel
theorem dH_mixRound_24 : decode cH_mixRound 24 = .ok (.ixor, 1) := by decide +kernel
theorem dH_mixRound_25 : decode cH_mixRound 25 = .ok (.aload_n 0, 1) := by decide +kernel
theorem dH_mixRound_26 : decode cH_mixRound 26 = .ok (.getfield 16, 3) := by decide +kernel
theorem dH_mixRound_29 : decode cH_mixRound 29 = .ok (.bipush 6, 2) := by decide +kernel
theorem dH_mixRound_31 : decode cH_mixRound 31 = .ok (.iaload, 1) := by decide +kernel
theorem dH_mixRound_32 : decode cH_mixRound 32 = .ok (.iand, 1) := by decide +kernel
theorem dH_mixRound_33 : decode cH_mixRound 33 = .ok (.ixor, 1) := by decide +kernel
theorem dH_mixRound_34 : decode cH_mixRound 34 = .ok (.istore 4, 2) := by decide +kernel
theorem dH_mixRound_36 : decode cH_mixRound 36 = .ok (.iload_n 2, 1) := by decide +kernel
theorem dH_mixRound_37 : decode cH_mixRound 37 = .ok (.aload_n 0, 1) := by decide +kernel
theorem dH_mixRound_38 : decode cH_mixRound 38 = .ok (.getfield 16, 3) := by decide +kernel
theorem dH_mixRound_41 : decode cH_mixRound 41 = .ok (.iconst 1, 1) := by decide +kernel
theorem dH_mixRound_42 : decode cH_mixRound 42 = .ok (.iaload, 1) := by decide +kernel
theorem dH_mixRound_43 : decode cH_mixRound 43 = .ok (.iand, 1) := by decide +kernel
theorem dH_mixRound_44 : decode cH_mixRound 44 = .ok (.iload_n 2, 1) := by decide +kernel
theorem dH_mixRound_45 : decode cH_mixRound 45 = .ok (.aload_n 0, 1) := by decide +kernel
theorem dH_mixRound_46 : decode cH_mixRound 46 = .ok (.getfield 16, 3) := by decide +kernel
theorem dH_mixRound_49 : decode cH_mixRound 49 = .ok (.iconst 2, 1) := by decide +kernel
theorem dH_mixRound_50 : decode cH_mixRound 50 = .ok (.iaload, 1) := by decide +kernel
theorem dH_mixRound_51 : decode cH_mixRound 51 = .ok (.iand, 1) := by decide +kernel
theorem dH_mixRound_52 : decode cH_mixRound 52 = .ok (.ixor, 1) := by decide +kernel
theorem dH_mixRound_53 : decode cH_mixRound 53 = .ok (.aload_n 0, 1) := by decide +kernel
theorem dH_mixRound_54 : decode cH_mixRound 54 = .ok (.getfield 16, 3) := by decide +kernel
theorem dH_mixRound_57 : decode cH_mixRound 57 = .ok (.iconst 1, 1) := by decide +kernel
theorem dH_mixRound_58 : decode cH_mixRound 58 = .ok (.iaload, 1) := by decide +kernel
theorem dH_mixRound_59 : decode cH_mixRound 59 = .ok (.aload_n 0, 1) := by decide +kernel
theorem dH_mixRound_60 : decode cH_mixRound 60 = .ok (.getfield 16, 3) := by decide +kernel
theorem dH_mixRound_63 : decode cH_mixRound 63 = .ok (.iconst 2, 1) := by decide +kernel
theorem dH_mixRound_64 : decode cH_mixRound 64 = .ok (.iaload, 1) := by decide +kernel
theorem dH_mixRound_65 : decode cH_mixRound 65 = .ok (.iand, 1) := by decide +kernel
theorem dH_mixRound_66 : decode cH_mixRound 66 = .ok (.ixor, 1) := by decide +kernel
theorem dH_mixRound_67 : decode cH_mixRound 67 = .ok (.istore 5, 2) := by decide +kernel
theorem dH_mixRound_69 : decode cH_mixRound 69 = .ok (.aload_n 0, 1) := by decide +kernel
theorem dH_mixRound_70 : decode cH_mixRound 70 = .ok (.getfield 16, 3) := by decide +kernel
theorem dH_mixRound_73 : decode cH_mixRound 73 = .ok (.bipush 7, 2) := by decide +kernel
theorem dH_mixRound_75 : decode cH_mixRound 75 = .ok (.iaload, 1) := by decide +kernel
theorem dH_mixRound_76 : decode cH_mixRound 76 = .ok (.iload_n 3, 1) := by decide +kernel
theorem dH_mixRound_77 : decode cH_mixRound 77 = .ok (.bipush 6, 2) := by decide +kernel
theorem dH_mixRound_79 : decode cH_mixRound 79 = .ok (.invokestatic 59, 3) := by decide +kernel
theorem dH_mixRound_82 : decode cH_mixRound 82 = .ok (.iload_n 3, 1) := by decide +kernel
theorem dH_mixRound_83 : decode cH_mixRound 83 = .ok (.bipush 11, 2) := by decide +kernel
theorem dH_mixRound_85 : decode cH_mixRound 85 = .ok (.invokestatic 59, 3) := by decide +kernel
theorem dH_mixRound_88 : decode cH_mixRound 88 = .ok (.ixor, 1) := by decide +kernel
theorem dH_mixRound_89 : decode cH_mixRound 89 = .ok (.iload_n 3, 1) := by decide +kernel
theorem dH_mixRound_90 : decode cH_mixRound 90 = .ok (.bipush 25, 2) := by decide +kernel
theorem dH_mixRound_92 : decode cH_mixRound 92 = .ok (.invokestatic 59, 3) := by decide +kernel
theorem dH_mixRound_95 : decode cH_mixRound 95 = .ok (.ixor, 1) := by decide +kernel
theorem dH_mixRound_96 : decode cH_mixRound 96 = .ok (.iadd, 1) := by decide +kernel
theorem dH_mixRound_97 : decode cH_mixRound 97 = .ok (.iload 4, 2) := by decide +kernel
theorem dH_mixRound_99 : decode cH_mixRound 99 = .ok (.iadd, 1) := by decide +kernel
theorem dH_mixRound_100 : decode cH_mixRound 100 = .ok (.iload_n 1, 1) := by decide +kernel
theorem dH_mixRound_101 : decode cH_mixRound 101 = .ok (.iadd, 1) := by decide +kernel
theorem dH_mixRound_102 : decode cH_mixRound 102 = .ok (.istore 6, 2) := by decide +kernel
theorem dH_mixRound_104 : decode cH_mixRound 104 = .ok (.iload_n 2, 1) := by decide +kernel
theorem dH_mixRound_105 : decode cH_mixRound 105 = .ok (.iconst 2, 1) := by decide +kernel
theorem dH_mixRound_106 : decode cH_mixRound 106 = .ok (.invokestatic 59, 3) := by decide +kernel
theorem dH_mixRound_109 : decode cH_mixRound 109 = .ok (.iload_n 2, 1) := by decide +kernel
theorem dH_mixRound_110 : decode cH_mixRound 110 = .ok (.bipush 13, 2) := by decide +kernel
theorem dH_mixRound_112 : decode cH_mixRound 112 = .ok (.invokestatic 59, 3) := by decide +kernel
theorem dH_mixRound_115 : decode cH_mixRound 115 = .ok (.ixor, 1) := by decide +kernel
theorem dH_mixRound_116 : decode cH_mixRound 116 = .ok (.iload_n 2, 1) := by decide +kernel
theorem dH_mixRound_117 : decode cH_mixRound 117 = .ok (.bipush 22, 2) := by decide +kernel
theorem dH_mixRound_119 : decode cH_mixRound 119 = .ok (.invokestatic 59, 3) := by decide +kernel
theorem dH_mixRound_122 : decode cH_mixRound 122 = .ok (.ixor, 1) := by decide +kernel
theorem dH_mixRound_123 : decode cH_mixRound 123 = .ok (.iload 5, 2) := by decide +kernel
theorem dH_mixRound_125 : decode cH_mixRound 125 = .ok (.iadd, 1) := by decide +kernel
theorem dH_mixRound_126 : decode cH_mixRound 126 = .ok (.istore 7, 2) := by decide +kernel
theorem dH_mixRound_128 : decode cH_mixRound 128 = .ok (.bipush 7, 2) := by decide +kernel
theorem dH_mixRound_130 : decode cH_mixRound 130 = .ok (.istore 8, 2) := by decide +kernel
theorem dH_mixRound_132 : decode cH_mixRound 132 = .ok (.iload 8, 2) := by decide +kernel
theorem dH_mixRound_134 : decode cH_mixRound 134 = .ok (.ifCond .le 25, 3) := by decide +kernel
theorem dH_mixRound_137 : decode cH_mixRound 137 = .ok (.aload_n 0, 1) := by decide +kernel
theorem dH_mixRound_138 : decode cH_mixRound 138 = .ok (.getfield 16, 3) := by decide +kernel
theorem dH_mixRound_141 : decode cH_mixRound 141 = .ok (.iload 8, 2) := by decide +kernel
theorem dH_mixRound_143 : decode cH_mixRound 143 = .ok (.aload_n 0, 1) := by decide +kernel
theorem dH_mixRound_144 : decode cH_mixRound 144 = .ok (.getfield 16, 3) := by decide +kernel
theorem dH_mixRound_147 : decode cH_mixRound 147 = .ok (.iload 8, 2) := by decide +kernel
theorem dH_mixRound_149 : decode cH_mixRound 149 = .ok (.iconst 1, 1) := by decide +kernel
theorem dH_mixRound_150 : decode cH_mixRound 150 = .ok (.isub, 1) := by decide +kernel
theorem dH_mixRound_151 : decode cH_mixRound 151 = .ok (.iaload, 1) := by decide +kernel
theorem dH_mixRound_152 : decode cH_mixRound 152 = .ok (.iastore, 1) := by decide +kernel
theorem dH_mixRound_153 : decode cH_mixRound 153 = .ok (.iinc 8 (-1), 3) := by decide +kernel
theorem dH_mixRound_156 : decode cH_mixRound 156 = .ok (.goto (-24), 3) := by decide +kernel
theorem dH_mixRound_159 : decode cH_mixRound 159 = .ok (.aload_n 0, 1) := by decide +kernel
theorem dH_mixRound_160 : decode cH_mixRound 160 = .ok (.getfield 16, 3) := by decide +kernel
theorem dH_mixRound_163 : decode cH_mixRound 163 = .ok (.iconst 4, 1) := by decide +kernel
theorem dH_mixRound_164 : decode cH_mixRound 164 = .ok (.dup2, 1) := by decide +kernel
theorem dH_mixRound_165 : decode cH_mixRound 165 = .ok (.iaload, 1) := by decide +kernel
theorem dH_mixRound_166 : decode cH_mixRound 166 = .ok (.iload 6, 2) := by decide +kernel
theorem dH_mixRound_168 : decode cH_mixRound 168 = .ok (.iadd, 1) := by decide +kernel
theorem dH_mixRound_169 : decode cH_mixRound 169 = .ok (.iastore, 1) := by decide +kernel
theorem dH_mixRound_170 : decode cH_mixRound 170 = .ok (.aload_n 0, 1) := by decide +kernel
theorem dH_mixRound_171 : decode cH_mixRound 171 = .ok (.getfield 16, 3) := by decide +kernel
theorem dH_mixRound_174 : decode cH_mixRound 174 = .ok (.iconst 0, 1) := by decide +kernel
theorem dH_mixRound_175 : decode cH_mixRound 175 = .ok (.iload 6, 2) := by decide +kernel
theorem dH_mixRound_177 : decode cH_mixRound 177 = .ok (.iload 7, 2) := by decide +kernel
theorem dH_mixRound_179 : decode cH_mixRound 179 = .ok (.iadd, 1) := by decide +kernel
theorem dH_mixRound_180 : decode cH_mixRound 180 = .ok (.iastore, 1) := by decide +kernel
theorem dH_mixRound_181 : decode cH_mixRound 181 = .ok (.return_, 1) := by decide +kernel
theorem dA_fill_0 : decode cA_fill 0 = .ok (.iconst 0, 1) := by decide +kernel
theorem dA_fill_1 : decode cA_fill 1 = .ok (.istore_n 2, 1) := by decide +kernel
theorem dA_fill_2 : decode cA_fill 2 = .ok (.aload_n 0, 1) := by decide +kernel
theorem dA_fill_3 : decode cA_fill 3 = .ok (.arraylength, 1) := by decide +kernel
theorem dA_fill_4 : decode cA_fill 4 = .ok (.istore_n 3, 1) := by decide +kernel
theorem dA_fill_5 : decode cA_fill 5 = .ok (.iload_n 2, 1) := by decide +kernel
theorem dA_fill_6 : decode cA_fill 6 = .ok (.iload_n 3, 1) := by decide +kernel
theorem dA_fill_7 : decode cA_fill 7 = .ok (.if_icmp .ge 13, 3) := by decide +kernel
theorem dA_fill_10 : decode cA_fill 10 = .ok (.aload_n 0, 1) := by decide +kernel
theorem dA_fill_11 : decode cA_fill 11 = .ok (.iload_n 2, 1) := by decide +kernel
theorem dA_fill_12 : decode cA_fill 12 = .ok (.iload_n 1, 1) := by decide +kernel
theorem dA_fill_13 : decode cA_fill 13 = .ok (.bastore, 1) := by decide +kernel
theorem dA_fill_14 : decode cA_fill 14 = .ok (.iinc 2 1, 3) := by decide +kernel
theorem dA_fill_17 : decode cA_fill 17 = .ok (.goto (-12), 3) := by decide +kernel
theorem dA_fill_20 : decode cA_fill 20 = .ok (.return_, 1) := by decide +kernel
