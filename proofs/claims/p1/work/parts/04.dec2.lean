theorem dX11_init_0 : decode cX11_init 0 = .ok (.aload_n 0, 1) := by decide +kernel
theorem dX11_init_1 : decode cX11_init 1 = .ok (.invokespecial 1, 3) := by decide +kernel
theorem dX11_init_4 : decode cX11_init 4 = .ok (.aload_n 0, 1) := by decide +kernel
theorem dX11_init_5 : decode cX11_init 5 = .ok (.iconst 4, 1) := by decide +kernel
theorem dX11_init_6 : decode cX11_init 6 = .ok (.anewarray 9, 3) := by decide +kernel
theorem dX11_init_9 : decode cX11_init 9 = .ok (.putfield 11, 3) := by decide +kernel
theorem dX11_init_12 : decode cX11_init 12 = .ok (.aload_n 0, 1) := by decide +kernel
theorem dX11_init_13 : decode cX11_init 13 = .ok (.sipush 1000, 3) := by decide +kernel
theorem dX11_init_16 : decode cX11_init 16 = .ok (.newarray .int, 2) := by decide +kernel
theorem dX11_init_18 : decode cX11_init 18 = .ok (.putfield 15, 3) := by decide +kernel
theorem dX11_init_21 : decode cX11_init 21 = .ok (.iconst 0, 1) := by decide +kernel
theorem dX11_init_22 : decode cX11_init 22 = .ok (.istore_n 1, 1) := by decide +kernel
theorem dX11_init_23 : decode cX11_init 23 = .ok (.iload_n 1, 1) := by decide +kernel
theorem dX11_init_24 : decode cX11_init 24 = .ok (.iconst 4, 1) := by decide +kernel
theorem dX11_init_25 : decode cX11_init 25 = .ok (.if_icmp .ge 26, 3) := by decide +kernel
theorem dX11_init_28 : decode cX11_init 28 = .ok (.aload_n 0, 1) := by decide +kernel
theorem dX11_init_29 : decode cX11_init 29 = .ok (.getfield 11, 3) := by decide +kernel
theorem dX11_init_32 : decode cX11_init 32 = .ok (.iload_n 1, 1) := by decide +kernel
theorem dX11_init_33 : decode cX11_init 33 = .ok (.new 9, 3) := by decide +kernel
theorem dX11_init_36 : decode cX11_init 36 = .ok (.dup, 1) := by decide +kernel
theorem dX11_init_37 : decode cX11_init 37 = .ok (.iload_n 1, 1) := by decide +kernel
theorem dX11_init_38 : decode cX11_init 38 = .ok (.iconst 1, 1) := by decide +kernel
theorem dX11_init_39 : decode cX11_init 39 = .ok (.iadd, 1) := by decide +kernel
theorem dX11_init_40 : decode cX11_init 40 = .ok (.iload_n 1, 1) := by decide +kernel
theorem dX11_init_41 : decode cX11_init 41 = .ok (.invokespecial 19, 3) := by decide +kernel
theorem dX11_init_44 : decode cX11_init 44 = .ok (.aastore, 1) := by decide +kernel
theorem dX11_init_45 : decode cX11_init 45 = .ok (.iinc 1 1, 3) := by decide +kernel
theorem dX11_init_48 : decode cX11_init 48 = .ok (.goto (-25), 3) := by decide +kernel
theorem dX11_init_51 : decode cX11_init 51 = .ok (.return_, 1) := by decide +kernel
theorem dX11_device_0 : decode cX11_device 0 = .ok (.aload_n 0, 1) := by decide +kernel
theorem dX11_device_1 : decode cX11_device 1 = .ok (.iload_n 1, 1) := by decide +kernel
theorem dX11_device_2 : decode cX11_device 2 = .ok (.invokevirtual 22, 3) := by decide +kernel
theorem dX11_device_5 : decode cX11_device 5 = .ok (.astore 4, 2) := by decide +kernel
theorem dX11_device_7 : decode cX11_device 7 = .ok (.aload 4, 2) := by decide +kernel
theorem dX11_device_9 : decode cX11_device 9 = .ok (.ifnull 11, 3) := by decide +kernel
theorem dX11_device_12 : decode cX11_device 12 = .ok (.aload 4, 2) := by decide +kernel
theorem dX11_device_14 : decode cX11_device 14 = .ok (.getfield 26, 3) := by decide +kernel
theorem dX11_device_17 : decode cX11_device 17 = .ok (.ifCond .eq 5, 3) := by decide +kernel
theorem dX11_device_20 : decode cX11_device 20 = .ok (.iconst 0, 1) := by decide +kernel
theorem dX11_device_21 : decode cX11_device 21 = .ok (.ireturn, 1) := by decide +kernel
theorem dX11_device_22 : decode cX11_device 22 = .ok (.aload 4, 2) := by decide +kernel
theorem dX11_device_24 : decode cX11_device 24 = .ok (.iload_n 2, 1) := by decide +kernel
theorem dX11_device_25 : decode cX11_device 25 = .ok (.putfield 30, 3) := by decide +kernel
theorem dX11_device_28 : decode cX11_device 28 = .ok (.aload 4, 2) := by decide +kernel
theorem dX11_device_30 : decode cX11_device 30 = .ok (.iload_n 3, 1) := by decide +kernel
theorem dX11_device_31 : decode cX11_device 31 = .ok (.putfield 33, 3) := by decide +kernel
theorem dX11_device_34 : decode cX11_device 34 = .ok (.iconst 1, 1) := by decide +kernel
theorem dX11_device_35 : decode cX11_device 35 = .ok (.ireturn, 1) := by decide +kernel
theorem dX11_feed_0 : decode cX11_feed 0 = .ok (.aload_n 0, 1) := by decide +kernel
theorem dX11_feed_1 : decode cX11_feed 1 = .ok (.getfield 36, 3) := by decide +kernel
theorem dX11_feed_4 : decode cX11_feed 4 = .ok (.sipush 980, 3) := by decide +kernel
theorem dX11_feed_7 : decode cX11_feed 7 = .ok (.if_icmp .le 5, 3) := by decide +kernel
theorem dX11_feed_10 : decode cX11_feed 10 = .ok (.iconst (-1), 1) := by decide +kernel
theorem dX11_feed_11 : decode cX11_feed 11 = .ok (.ireturn, 1) := by decide +kernel
theorem dX11_feed_12 : decode cX11_feed 12 = .ok (.aload_n 0, 1) := by decide +kernel
theorem dX11_feed_13 : decode cX11_feed 13 = .ok (.iload_n 1, 1) := by decide +kernel
theorem dX11_feed_14 : decode cX11_feed 14 = .ok (.invokevirtual 39, 3) := by decide +kernel
theorem dX11_feed_17 : decode cX11_feed 17 = .ok (.aload_n 0, 1) := by decide +kernel
theorem dX11_feed_18 : decode cX11_feed 18 = .ok (.iload_n 2, 1) := by decide +kernel
theorem dX11_feed_19 : decode cX11_feed 19 = .ok (.invokevirtual 39, 3) := by decide +kernel
theorem dX11_feed_22 : decode cX11_feed 22 = .ok (.aload_n 0, 1) := by decide +kernel
theorem dX11_feed_23 : decode cX11_feed 23 = .ok (.iload_n 3, 1) := by decide +kernel
theorem dX11_feed_24 : decode cX11_feed 24 = .ok (.invokevirtual 39, 3) := by decide +kernel
theorem dX11_feed_27 : decode cX11_feed 27 = .ok (.aload_n 0, 1) := by decide +kernel
theorem dX11_feed_28 : decode cX11_feed 28 = .ok (.iload 4, 2) := by decide +kernel
theorem dX11_feed_30 : decode cX11_feed 30 = .ok (.invokevirtual 39, 3) := by decide +kernel
theorem dX11_feed_33 : decode cX11_feed 33 = .ok (.aload_n 0, 1) := by decide +kernel
theorem dX11_feed_34 : decode cX11_feed 34 = .ok (.iload 5, 2) := by decide +kernel
theorem dX11_feed_36 : decode cX11_feed 36 = .ok (.invokevirtual 39, 3) := by decide +kernel
theorem dX11_feed_39 : decode cX11_feed 39 = .ok (.aload_n 0, 1) := by decide +kernel
theorem dX11_feed_40 : decode cX11_feed 40 = .ok (.getfield 36, 3) := by decide +kernel
theorem dX11_feed_43 : decode cX11_feed 43 = .ok (.ireturn, 1) := by decide +kernel
theorem dX11_bend_0 : decode cX11_bend 0 = .ok (.iload_n 1, 1) := by decide +kernel
theorem dX11_bend_1 : decode cX11_bend 1 = .ok (.ifCond .lt 11, 3) := by decide +kernel
theorem dX11_bend_4 : decode cX11_bend 4 = .ok (.iload_n 1, 1) := by decide +kernel
theorem dX11_bend_5 : decode cX11_bend 5 = .ok (.aload_n 0, 1) := by decide +kernel
theorem dX11_bend_6 : decode cX11_bend 6 = .ok (.getfield 36, 3) := by decide +kernel
theorem dX11_bend_9 : decode cX11_bend 9 = .ok (.if_icmp .lt 5, 3) := by decide +kernel
theorem dX11_bend_12 : decode cX11_bend 12 = .ok (.iconst (-1), 1) := by decide +kernel
theorem dX11_bend_13 : decode cX11_bend 13 = .ok (.ireturn, 1) := by decide +kernel
theorem dX11_bend_14 : decode cX11_bend 14 = .ok (.aload_n 0, 1) := by decide +kernel
theorem dX11_bend_15 : decode cX11_bend 15 = .ok (.getfield 15, 3) := by decide +kernel
theorem dX11_bend_18 : decode cX11_bend 18 = .ok (.iload_n 1, 1) := by decide +kernel
theorem dX11_bend_19 : decode cX11_bend 19 = .ok (.iaload, 1) := by decide +kernel
theorem dX11_bend_20 : decode cX11_bend 20 = .ok (.istore_n 3, 1) := by decide +kernel
theorem dX11_bend_21 : decode cX11_bend 21 = .ok (.aload_n 0, 1) := by decide +kernel
theorem dX11_bend_22 : decode cX11_bend 22 = .ok (.getfield 15, 3) := by decide +kernel
theorem dX11_bend_25 : decode cX11_bend 25 = .ok (.iload_n 1, 1) := by decide +kernel
theorem dX11_bend_26 : decode cX11_bend 26 = .ok (.iload_n 3, 1) := by decide +kernel
theorem dX11_bend_27 : decode cX11_bend 27 = .ok (.iload_n 2, 1) := by decide +kernel
theorem dX11_bend_28 : decode cX11_bend 28 = .ok (.sipush 255, 3) := by decide +kernel
theorem dX11_bend_31 : decode cX11_bend 31 = .ok (.iand, 1) := by decide +kernel
theorem dX11_bend_32 : decode cX11_bend 32 = .ok (.ixor, 1) := by decide +kernel
theorem dX11_bend_33 : decode cX11_bend 33 = .ok (.iastore, 1) := by decide +kernel
theorem dX11_bend_34 : decode cX11_bend 34 = .ok (.iload_n 3, 1) := by decide +kernel
theorem dX11_bend_35 : decode cX11_bend 35 = .ok (.ireturn, 1) := by decide +kernel
theorem dX11_take_0 : decode cX11_take 0 = .ok (.aload_n 0, 1) := by decide +kernel
theorem dX11_take_1 : decode cX11_take 1 = .ok (.iload_n 1, 1) := by decide +kernel
theorem dX11_take_2 : decode cX11_take 2 = .ok (.invokevirtual 22, 3) := by decide +kernel
theorem dX11_take_5 : decode cX11_take 5 = .ok (.astore_n 2, 1) := by decide +kernel
theorem dX11_take_6 : decode cX11_take 6 = .ok (.aload_n 2, 1) := by decide +kernel
theorem dX11_take_7 : decode cX11_take 7 = .ok (.ifnonnull 5, 3) := by decide +kernel
theorem dX11_take_10 : decode cX11_take 10 = .ok (.iconst (-1), 1) := by decide +kernel
theorem dX11_take_11 : decode cX11_take 11 = .ok (.ireturn, 1) := by decide +kernel
theorem dX11_take_12 : decode cX11_take 12 = .ok (.aload_n 0, 1) := by decide +kernel
theorem dX11_take_13 : decode cX11_take 13 = .ok (.aload_n 2, 1) := by decide +kernel
theorem dX11_take_14 : decode cX11_take 14 = .ok (.getfield 43, 3) := by decide +kernel
theorem dX11_take_17 : decode cX11_take 17 = .ok (.aload_n 0, 1) := by decide +kernel
theorem dX11_take_18 : decode cX11_take 18 = .ok (.getfield 15, 3) := by decide +kernel
theorem dX11_take_21 : decode cX11_take 21 = .ok (.invokevirtual 47, 3) := by decide +kernel
theorem dX11_take_24 : decode cX11_take 24 = .ok (.putfield 36, 3) := by decide +kernel
theorem dX11_take_27 : decode cX11_take 27 = .ok (.aload_n 0, 1) := by decide +kernel
theorem dX11_take_28 : decode cX11_take 28 = .ok (.getfield 36, 3) := by decide +kernel
theorem dX11_take_31 : decode cX11_take 31 = .ok (.ireturn, 1) := by decide +kernel
theorem dX11_hear_0 : decode cX11_hear 0 = .ok (.aload_n 0, 1) := by decide +kernel
theorem dX11_hear_1 : decode cX11_hear 1 = .ok (.iload_n 1, 1) := by decide +kernel
theorem dX11_hear_2 : decode cX11_hear 2 = .ok (.invokevirtual 22, 3) := by decide +kernel
theorem dX11_hear_5 : decode cX11_hear 5 = .ok (.astore 4, 2) := by decide +kernel
theorem dX11_hear_7 : decode cX11_hear 7 = .ok (.aload 4, 2) := by decide +kernel
theorem dX11_hear_9 : decode cX11_hear 9 = .ok (.ifnonnull 5, 3) := by decide +kernel
theorem dX11_hear_12 : decode cX11_hear 12 = .ok (.iconst (-1), 1) := by decide +kernel
theorem dX11_hear_13 : decode cX11_hear 13 = .ok (.ireturn, 1) := by decide +kernel
theorem dX11_hear_14 : decode cX11_hear 14 = .ok (.iload_n 2, 1) := by decide +kernel
theorem dX11_hear_15 : decode cX11_hear 15 = .ok (.ifCond .lt 25, 3) := by decide +kernel
theorem dX11_hear_18 : decode cX11_hear 18 = .ok (.iload_n 3, 1) := by decide +kernel
theorem dX11_hear_19 : decode cX11_hear 19 = .ok (.ifCond .lt 21, 3) := by decide +kernel
theorem dX11_hear_22 : decode cX11_hear 22 = .ok (.iload_n 3, 1) := by decide +kernel
theorem dX11_hear_23 : decode cX11_hear 23 = .ok (.aload_n 0, 1) := by decide +kernel
theorem dX11_hear_24 : decode cX11_hear 24 = .ok (.getfield 36, 3) := by decide +kernel
theorem dX11_hear_27 : decode cX11_hear 27 = .ok (.if_icmp .gt 13, 3) := by decide +kernel
theorem dX11_hear_30 : decode cX11_hear 30 = .ok (.iload_n 2, 1) := by decide +kernel
theorem dX11_hear_31 : decode cX11_hear 31 = .ok (.aload_n 0, 1) := by decide +kernel
theorem dX11_hear_32 : decode cX11_hear 32 = .ok (.getfield 36, 3) := by decide +kernel
theorem dX11_hear_35 : decode cX11_hear 35 = .ok (.iload_n 3, 1) := by decide +kernel
theorem dX11_hear_36 : decode cX11_hear 36 = .ok (.isub, 1) := by decide +kernel
theorem dX11_hear_37 : decode cX11_hear 37 = .ok (.if_icmp .le 6, 3) := by decide +kernel
theorem dX11_hear_40 : decode cX11_hear 40 = .ok (.bipush (-2), 2) := by decide +kernel
theorem dX11_hear_42 : decode cX11_hear 42 = .ok (.ireturn, 1) := by decide +kernel
theorem dX11_hear_43 : decode cX11_hear 43 = .ok (.aload 4, 2) := by decide +kernel
theorem dX11_hear_45 : decode cX11_hear 45 = .ok (.aload_n 0, 1) := by decide +kernel
theorem dX11_hear_46 : decode cX11_hear 46 = .ok (.getfield 15, 3) := by decide +kernel
theorem dX11_hear_49 : decode cX11_hear 49 = .ok (.iload_n 2, 1) := by decide +kernel
theorem dX11_hear_50 : decode cX11_hear 50 = .ok (.iload_n 3, 1) := by decide +kernel
theorem dX11_hear_51 : decode cX11_hear 51 = .ok (.invokevirtual 53, 3) := by decide +kernel
theorem dX11_hear_54 : decode cX11_hear 54 = .ok (.ireturn, 1) := by decide +kernel
theorem dX11_talk_0 : decode cX11_talk 0 = .ok (.aload_n 0, 1) := by decide +kernel
theorem dX11_talk_1 : decode cX11_talk 1 = .ok (.iload_n 1, 1) := by decide +kernel
theorem dX11_talk_2 : decode cX11_talk 2 = .ok (.invokevirtual 22, 3) := by decide +kernel
theorem dX11_talk_5 : decode cX11_talk 5 = .ok (.astore 4, 2) := by decide +kernel
theorem dX11_talk_7 : decode cX11_talk 7 = .ok (.aload_n 0, 1) := by decide +kernel
theorem dX11_talk_8 : decode cX11_talk 8 = .ok (.iload_n 2, 1) := by decide +kernel
theorem dX11_talk_9 : decode cX11_talk 9 = .ok (.invokevirtual 22, 3) := by decide +kernel
theorem dX11_talk_12 : decode cX11_talk 12 = .ok (.astore 5, 2) := by decide +kernel
theorem dX11_talk_14 : decode cX11_talk 14 = .ok (.aload 4, 2) := by decide +kernel
theorem dX11_talk_16 : decode cX11_talk 16 = .ok (.ifnull 13, 3) := by decide +kernel
theorem dX11_talk_19 : decode cX11_talk 19 = .ok (.aload 5, 2) := by decide +kernel
theorem dX11_talk_21 : decode cX11_talk 21 = .ok (.ifnull 8, 3) := by decide +kernel
theorem dX11_talk_24 : decode cX11_talk 24 = .ok (.iload_n 1, 1) := by decide +kernel
theorem dX11_talk_25 : decode cX11_talk 25 = .ok (.iload_n 2, 1) := by decide +kernel
theorem dX11_talk_26 : decode cX11_talk 26 = .ok (.if_icmp .ne 5, 3) := by decide +kernel
theorem dX11_talk_29 : decode cX11_talk 29 = .ok (.iconst (-1), 1) := by decide +kernel
theorem dX11_talk_30 : decode cX11_talk 30 = .ok (.ireturn, 1) := by decide +kernel
theorem dX11_talk_31 : decode cX11_talk 31 = .ok (.iload_n 3, 1) := by decide +kernel
theorem dX11_talk_32 : decode cX11_talk 32 = .ok (.iconst 1, 1) := by decide +kernel
theorem dX11_talk_33 : decode cX11_talk 33 = .ok (.if_icmp .lt 9, 3) := by decide +kernel
theorem dX11_talk_36 : decode cX11_talk 36 = .ok (.iload_n 3, 1) := by decide +kernel
theorem dX11_talk_37 : decode cX11_talk 37 = .ok (.bipush 20, 2) := by decide +kernel
theorem dX11_talk_39 : decode cX11_talk 39 = .ok (.if_icmp .le 6, 3) := by decide +kernel
theorem dX11_talk_42 : decode cX11_talk 42 = .ok (.bipush (-2), 2) := by decide +kernel
theorem dX11_talk_44 : decode cX11_talk 44 = .ok (.ireturn, 1) := by decide +kernel
theorem dX11_talk_45 : decode cX11_talk 45 = .ok (.iconst 0, 1) := by decide +kernel
theorem dX11_talk_46 : decode cX11_talk 46 = .ok (.istore 6, 2) := by decide +kernel
theorem dX11_talk_48 : decode cX11_talk 48 = .ok (.iconst 0, 1) := by decide +kernel
theorem dX11_talk_49 : decode cX11_talk 49 = .ok (.istore 7, 2) := by decide +kernel
theorem dX11_talk_51 : decode cX11_talk 51 = .ok (.iload 7, 2) := by decide +kernel
theorem dX11_talk_53 : decode cX11_talk 53 = .ok (.iload_n 3, 1) := by decide +kernel
theorem dX11_talk_54 : decode cX11_talk 54 = .ok (.if_icmp .ge 83, 3) := by decide +kernel
theorem dX11_talk_57 : decode cX11_talk 57 = .ok (.aload 4, 2) := by decide +kernel
theorem dX11_talk_59 : decode cX11_talk 59 = .ok (.getfield 43, 3) := by decide +kernel
theorem dX11_talk_62 : decode cX11_talk 62 = .ok (.getfield 57, 3) := by decide +kernel
theorem dX11_talk_65 : decode cX11_talk 65 = .ok (.aload 5, 2) := by decide +kernel
theorem dX11_talk_67 : decode cX11_talk 67 = .ok (.getfield 43, 3) := by decide +kernel
theorem dX11_talk_70 : decode cX11_talk 70 = .ok (.getfield 57, 3) := by decide +kernel
theorem dX11_talk_73 : decode cX11_talk 73 = .ok (.iadd, 1) := by decide +kernel
theorem dX11_talk_74 : decode cX11_talk 74 = .ok (.ifCond .le 63, 3) := by decide +kernel
theorem dX11_talk_77 : decode cX11_talk 77 = .ok (.iload 6, 2) := by decide +kernel
theorem dX11_talk_79 : decode cX11_talk 79 = .ok (.aload 5, 2) := by decide +kernel
theorem dX11_talk_81 : decode cX11_talk 81 = .ok (.aload 4, 2) := by decide +kernel
theorem dX11_talk_83 : decode cX11_talk 83 = .ok (.getfield 43, 3) := by decide +kernel
theorem dX11_talk_86 : decode cX11_talk 86 = .ok (.getfield 60, 3) := by decide +kernel
theorem dX11_talk_89 : decode cX11_talk 89 = .ok (.iconst 0, 1) := by decide +kernel
theorem dX11_talk_90 : decode cX11_talk 90 = .ok (.aload 4, 2) := by decide +kernel
theorem dX11_talk_92 : decode cX11_talk 92 = .ok (.getfield 43, 3) := by decide +kernel
theorem dX11_talk_95 : decode cX11_talk 95 = .ok (.invokevirtual 63, 3) := by decide +kernel
theorem dX11_talk_98 : decode cX11_talk 98 = .ok (.invokevirtual 53, 3) := by decide +kernel
theorem dX11_talk_101 : decode cX11_talk 101 = .ok (.iadd, 1) := by decide +kernel
theorem dX11_talk_102 : decode cX11_talk 102 = .ok (.istore 6, 2) := by decide +kernel
theorem dX11_talk_104 : decode cX11_talk 104 = .ok (.iload 6, 2) := by decide +kernel
theorem dX11_talk_106 : decode cX11_talk 106 = .ok (.aload 4, 2) := by decide +kernel
theorem dX11_talk_108 : decode cX11_talk 108 = .ok (.aload 5, 2) := by decide +kernel
theorem dX11_talk_110 : decode cX11_talk 110 = .ok (.getfield 43, 3) := by decide +kernel
theorem dX11_talk_113 : decode cX11_talk 113 = .ok (.getfield 60, 3) := by decide +kernel
theorem dX11_talk_116 : decode cX11_talk 116 = .ok (.iconst 0, 1) := by decide +kernel
theorem dX11_talk_117 : decode cX11_talk 117 = .ok (.aload 5, 2) := by decide +kernel
theorem dX11_talk_119 : decode cX11_talk 119 = .ok (.getfield 43, 3) := by decide +kernel
theorem dX11_talk_122 : decode cX11_talk 122 = .ok (.invokevirtual 63, 3) := by decide +kernel
theorem dX11_talk_125 : decode cX11_talk 125 = .ok (.invokevirtual 53, 3) := by decide +kernel
theorem dX11_talk_128 : decode cX11_talk 128 = .ok (.iadd, 1) := by decide +kernel
theorem dX11_talk_129 : decode cX11_talk 129 = .ok (.istore 6, 2) := by decide +kernel
theorem dX11_talk_131 : decode cX11_talk 131 = .ok (.iinc 7 1, 3) := by decide +kernel
theorem dX11_talk_134 : decode cX11_talk 134 = .ok (.goto (-83), 3) := by decide +kernel
theorem dX11_talk_137 : decode cX11_talk 137 = .ok (.iload 6, 2) := by decide +kernel
theorem dX11_talk_139 : decode cX11_talk 139 = .ok (.ireturn, 1) := by decide +kernel
theorem dX11_tick_0 : decode cX11_tick 0 = .ok (.aload_n 0, 1) := by decide +kernel
theorem dX11_tick_1 : decode cX11_tick 1 = .ok (.iload_n 1, 1) := by decide +kernel
theorem dX11_tick_2 : decode cX11_tick 2 = .ok (.invokevirtual 22, 3) := by decide +kernel
theorem dX11_tick_5 : decode cX11_tick 5 = .ok (.astore_n 2, 1) := by decide +kernel
theorem dX11_tick_6 : decode cX11_tick 6 = .ok (.aload_n 2, 1) := by decide +kernel
theorem dX11_tick_7 : decode cX11_tick 7 = .ok (.ifnonnull 5, 3) := by decide +kernel
theorem dX11_tick_10 : decode cX11_tick 10 = .ok (.iconst (-1), 1) := by decide +kernel
theorem dX11_tick_11 : decode cX11_tick 11 = .ok (.ireturn, 1) := by decide +kernel
theorem dX11_tick_12 : decode cX11_tick 12 = .ok (.aload_n 2, 1) := by decide +kernel
theorem dX11_tick_13 : decode cX11_tick 13 = .ok (.invokevirtual 67, 3) := by decide +kernel
theorem dX11_tick_16 : decode cX11_tick 16 = .ok (.aload_n 2, 1) := by decide +kernel
theorem dX11_tick_17 : decode cX11_tick 17 = .ok (.getfield 26, 3) := by decide +kernel
theorem dX11_tick_20 : decode cX11_tick 20 = .ok (.ireturn, 1) := by decide +kernel
theorem dX11_discover_0 : decode cX11_discover 0 = .ok (.aload_n 0, 1) := by decide +kernel
theorem dX11_discover_1 : decode cX11_discover 1 = .ok (.iload_n 1, 1) := by decide +kernel
theorem dX11_discover_2 : decode cX11_discover 2 = .ok (.invokevirtual 22, 3) := by decide +kernel
theorem dX11_discover_5 : decode cX11_discover 5 = .ok (.astore_n 3, 1) := by decide +kernel
theorem dX11_discover_6 : decode cX11_discover 6 = .ok (.aload_n 3, 1) := by decide +kernel
theorem dX11_discover_7 : decode cX11_discover 7 = .ok (.ifnonnull 5, 3) := by decide +kernel
theorem dX11_discover_10 : decode cX11_discover 10 = .ok (.iconst (-1), 1) := by decide +kernel
theorem dX11_discover_11 : decode cX11_discover 11 = .ok (.ireturn, 1) := by decide +kernel
theorem dX11_discover_12 : decode cX11_discover 12 = .ok (.aload_n 3, 1) := by decide +kernel
theorem dX11_discover_13 : decode cX11_discover 13 = .ok (.getfield 26, 3) := by decide +kernel
theorem dX11_discover_16 : decode cX11_discover 16 = .ok (.ifCond .eq 6, 3) := by decide +kernel
theorem dX11_discover_19 : decode cX11_discover 19 = .ok (.bipush (-2), 2) := by decide +kernel
theorem dX11_discover_21 : decode cX11_discover 21 = .ok (.ireturn, 1) := by decide +kernel
theorem dX11_discover_22 : decode cX11_discover 22 = .ok (.iload_n 2, 1) := by decide +kernel
theorem dX11_discover_23 : decode cX11_discover 23 = .ok (.invokestatic 70, 3) := by decide +kernel
theorem dX11_discover_26 : decode cX11_discover 26 = .ok (.ifCond .ne 6, 3) := by decide +kernel
theorem dX11_discover_29 : decode cX11_discover 29 = .ok (.bipush (-3), 2) := by decide +kernel
theorem dX11_discover_31 : decode cX11_discover 31 = .ok (.ireturn, 1) := by decide +kernel
theorem dX11_discover_32 : decode cX11_discover 32 = .ok (.aload_n 3, 1) := by decide +kernel
theorem dX11_discover_33 : decode cX11_discover 33 = .ok (.iconst 1, 1) := by decide +kernel
theorem dX11_discover_34 : decode cX11_discover 34 = .ok (.putfield 26, 3) := by decide +kernel
theorem dX11_discover_37 : decode cX11_discover 37 = .ok (.aload_n 3, 1) := by decide +kernel
theorem dX11_discover_38 : decode cX11_discover 38 = .ok (.getfield 74, 3) := by decide +kernel
theorem dX11_discover_41 : decode cX11_discover 41 = .ok (.iload_n 2, 1) := by decide +kernel
theorem dX11_discover_42 : decode cX11_discover 42 = .ok (.invokevirtual 78, 3) := by decide +kernel
theorem dX11_discover_45 : decode cX11_discover 45 = .ok (.iconst 1, 1) := by decide +kernel
theorem dX11_discover_46 : decode cX11_discover 46 = .ok (.ireturn, 1) := by decide +kernel
theorem dX11_listed_0 : decode cX11_listed 0 = .ok (.aload_n 0, 1) := by decide +kernel
theorem dX11_listed_1 : decode cX11_listed 1 = .ok (.iload_n 1, 1) := by decide +kernel
theorem dX11_listed_2 : decode cX11_listed 2 = .ok (.invokevirtual 22, 3) := by decide +kernel
theorem dX11_listed_5 : decode cX11_listed 5 = .ok (.astore_n 3, 1) := by decide +kernel
theorem dX11_listed_6 : decode cX11_listed 6 = .ok (.aload_n 3, 1) := by decide +kernel
theorem dX11_listed_7 : decode cX11_listed 7 = .ok (.ifnull 18, 3) := by decide +kernel
theorem dX11_listed_10 : decode cX11_listed 10 = .ok (.iload_n 2, 1) := by decide +kernel
theorem dX11_listed_11 : decode cX11_listed 11 = .ok (.ifCond .lt 14, 3) := by decide +kernel
theorem dX11_listed_14 : decode cX11_listed 14 = .ok (.iload_n 2, 1) := by decide +kernel
theorem dX11_listed_15 : decode cX11_listed 15 = .ok (.aload_n 3, 1) := by decide +kernel
theorem dX11_listed_16 : decode cX11_listed 16 = .ok (.getfield 74, 3) := by decide +kernel
theorem dX11_listed_19 : decode cX11_listed 19 = .ok (.getfield 83, 3) := by decide +kernel
theorem dX11_listed_22 : decode cX11_listed 22 = .ok (.if_icmp .lt 5, 3) := by decide +kernel
theorem dX11_listed_25 : decode cX11_listed 25 = .ok (.iconst 0, 1) := by decide +kernel
theorem dX11_listed_26 : decode cX11_listed 26 = .ok (.ireturn, 1) := by decide +kernel
theorem dX11_listed_27 : decode cX11_listed 27 = .ok (.aload_n 3, 1) := by decide +kernel
theorem dX11_listed_28 : decode cX11_listed 28 = .ok (.getfield 74, 3) := by decide +kernel
theorem dX11_listed_31 : decode cX11_listed 31 = .ok (.getfield 86, 3) := by decide +kernel
theorem dX11_listed_34 : decode cX11_listed 34 = .ok (.iload_n 2, 1) := by decide +kernel
theorem dX11_listed_35 : decode cX11_listed 35 = .ok (.iaload, 1) := by decide +kernel
theorem dX11_listed_36 : decode cX11_listed 36 = .ok (.ireturn, 1) := by decide +kernel
theorem dX11_call_0 : decode cX11_call 0 = .ok (.aload_n 0, 1) := by decide +kernel
theorem dX11_call_1 : decode cX11_call 1 = .ok (.iload_n 1, 1) := by decide +kernel
theorem dX11_call_2 : decode cX11_call 2 = .ok (.invokevirtual 22, 3) := by decide +kernel
theorem dX11_call_5 : decode cX11_call 5 = .ok (.astore 4, 2) := by decide +kernel
theorem dX11_call_7 : decode cX11_call 7 = .ok (.aload 4, 2) := by decide +kernel
theorem dX11_call_9 : decode cX11_call 9 = .ok (.ifnonnull 5, 3) := by decide +kernel
theorem dX11_call_12 : decode cX11_call 12 = .ok (.iconst (-1), 1) := by decide +kernel
theorem dX11_call_13 : decode cX11_call 13 = .ok (.ireturn, 1) := by decide +kernel
theorem dX11_call_14 : decode cX11_call 14 = .ok (.aload 4, 2) := by decide +kernel
theorem dX11_call_16 : decode cX11_call 16 = .ok (.getfield 26, 3) := by decide +kernel
theorem dX11_call_19 : decode cX11_call 19 = .ok (.ifCond .eq 6, 3) := by decide +kernel
theorem dX11_call_22 : decode cX11_call 22 = .ok (.bipush (-2), 2) := by decide +kernel
theorem dX11_call_24 : decode cX11_call 24 = .ok (.ireturn, 1) := by decide +kernel
theorem dX11_call_25 : decode cX11_call 25 = .ok (.iload_n 3, 1) := by decide +kernel
theorem dX11_call_26 : decode cX11_call 26 = .ok (.invokestatic 89, 3) := by decide +kernel
theorem dX11_call_29 : decode cX11_call 29 = .ok (.ifCond .ne 6, 3) := by decide +kernel
theorem dX11_call_32 : decode cX11_call 32 = .ok (.bipush (-3), 2) := by decide +kernel
theorem dX11_call_34 : decode cX11_call 34 = .ok (.ireturn, 1) := by decide +kernel
theorem dX11_call_35 : decode cX11_call 35 = .ok (.aload 4, 2) := by decide +kernel
theorem dX11_call_37 : decode cX11_call 37 = .ok (.getfield 92, 3) := by decide +kernel
theorem dX11_call_40 : decode cX11_call 40 = .ok (.iconst 1, 1) := by decide +kernel
theorem dX11_call_41 : decode cX11_call 41 = .ok (.aload 4, 2) := by decide +kernel
theorem dX11_call_43 : decode cX11_call 43 = .ok (.bipush 126, 2) := by decide +kernel
theorem dX11_call_45 : decode cX11_call 45 = .ok (.invokevirtual 96, 3) := by decide +kernel
theorem dX11_call_48 : decode cX11_call 48 = .ok (.iadd, 1) := by decide +kernel
theorem dX11_call_49 : decode cX11_call 49 = .ok (.iload_n 3, 1) := by decide +kernel
theorem dX11_call_50 : decode cX11_call 50 = .ok (.iload_n 2, 1) := by decide +kernel
theorem dX11_call_51 : decode cX11_call 51 = .ok (.invokevirtual 100, 3) := by decide +kernel
theorem dX11_call_54 : decode cX11_call 54 = .ok (.aload 4, 2) := by decide +kernel
theorem dX11_call_56 : decode cX11_call 56 = .ok (.iconst 2, 1) := by decide +kernel
theorem dX11_call_57 : decode cX11_call 57 = .ok (.putfield 26, 3) := by decide +kernel
theorem dX11_call_60 : decode cX11_call 60 = .ok (.aload 4, 2) := by decide +kernel
theorem dX11_call_62 : decode cX11_call 62 = .ok (.invokevirtual 105, 3) := by decide +kernel
theorem dX11_call_65 : decode cX11_call 65 = .ok (.aload 4, 2) := by decide +kernel
theorem dX11_call_67 : decode cX11_call 67 = .ok (.getfield 92, 3) := by decide +kernel
theorem dX11_call_70 : decode cX11_call 70 = .ok (.getfield 108, 3) := by decide +kernel
theorem dX11_call_73 : decode cX11_call 73 = .ok (.ireturn, 1) := by decide +kernel
theorem dX11_end_0 : decode cX11_end 0 = .ok (.aload_n 0, 1) := by decide +kernel
theorem dX11_end_1 : decode cX11_end 1 = .ok (.iload_n 1, 1) := by decide +kernel
theorem dX11_end_2 : decode cX11_end 2 = .ok (.invokevirtual 22, 3) := by decide +kernel
theorem dX11_end_5 : decode cX11_end 5 = .ok (.astore_n 2, 1) := by decide +kernel
theorem dX11_end_6 : decode cX11_end 6 = .ok (.aload_n 2, 1) := by decide +kernel
theorem dX11_end_7 : decode cX11_end 7 = .ok (.ifnonnull 5, 3) := by decide +kernel
theorem dX11_end_10 : decode cX11_end 10 = .ok (.iconst (-1), 1) := by decide +kernel
theorem dX11_end_11 : decode cX11_end 11 = .ok (.ireturn, 1) := by decide +kernel
theorem dX11_end_12 : decode cX11_end 12 = .ok (.aload_n 2, 1) := by decide +kernel
theorem dX11_end_13 : decode cX11_end 13 = .ok (.getfield 26, 3) := by decide +kernel
theorem dX11_end_16 : decode cX11_end 16 = .ok (.iconst 3, 1) := by decide +kernel
theorem dX11_end_17 : decode cX11_end 17 = .ok (.if_icmp .eq 6, 3) := by decide +kernel
theorem dX11_end_20 : decode cX11_end 20 = .ok (.bipush (-2), 2) := by decide +kernel
theorem dX11_end_22 : decode cX11_end 22 = .ok (.ireturn, 1) := by decide +kernel
theorem dX11_end_23 : decode cX11_end 23 = .ok (.aload_n 2, 1) := by decide +kernel
theorem dX11_end_24 : decode cX11_end 24 = .ok (.getfield 92, 3) := by decide +kernel
theorem dX11_end_27 : decode cX11_end 27 = .ok (.iconst 1, 1) := by decide +kernel
theorem dX11_end_28 : decode cX11_end 28 = .ok (.putfield 111, 3) := by decide +kernel
theorem dX11_end_31 : decode cX11_end 31 = .ok (.iconst 1, 1) := by decide +kernel
theorem dX11_end_32 : decode cX11_end 32 = .ok (.ireturn, 1) := by decide +kernel
theorem dX11_store_0 : decode cX11_store 0 = .ok (.aload_n 0, 1) := by decide +kernel
theorem dX11_store_1 : decode cX11_store 1 = .ok (.iload_n 1, 1) := by decide +kernel
theorem dX11_store_2 : decode cX11_store 2 = .ok (.invokevirtual 22, 3) := by decide +kernel
theorem dX11_store_5 : decode cX11_store 5 = .ok (.astore 8, 2) := by decide +kernel
theorem dX11_store_7 : decode cX11_store 7 = .ok (.aload 8, 2) := by decide +kernel
theorem dX11_store_9 : decode cX11_store 9 = .ok (.ifnonnull 5, 3) := by decide +kernel
theorem dX11_store_12 : decode cX11_store 12 = .ok (.iconst (-1), 1) := by decide +kernel
theorem dX11_store_13 : decode cX11_store 13 = .ok (.ireturn, 1) := by decide +kernel
theorem dX11_store_14 : decode cX11_store 14 = .ok (.lload_n 2, 1) := by decide +kernel
theorem dX11_store_15 : decode cX11_store 15 = .ok (.iload 4, 2) := by decide +kernel
theorem dX11_store_17 : decode cX11_store 17 = .ok (.invokestatic 115, 3) := by decide +kernel
theorem dX11_store_20 : decode cX11_store 20 = .ok (.lstore 9, 2) := by decide +kernel
theorem dX11_store_22 : decode cX11_store 22 = .ok (.lload 9, 2) := by decide +kernel
theorem dX11_store_24 : decode cX11_store 24 = .ok (.lconst 0, 1) := by decide +kernel
theorem dX11_store_25 : decode cX11_store 25 = .ok (.lcmp, 1) := by decide +kernel
theorem dX11_store_26 : decode cX11_store 26 = .ok (.ifCond .eq 15, 3) := by decide +kernel
theorem dX11_store_29 : decode cX11_store 29 = .ok (.iload 5, 2) := by decide +kernel
theorem dX11_store_31 : decode cX11_store 31 = .ok (.ifCond .lt 10, 3) := by decide +kernel
theorem dX11_store_34 : decode cX11_store 34 = .ok (.iload 5, 2) := by decide +kernel
theorem dX11_store_36 : decode cX11_store 36 = .ok (.bipush 120, 2) := by decide +kernel
theorem dX11_store_38 : decode cX11_store 38 = .ok (.if_icmp .le 6, 3) := by decide +kernel
theorem dX11_store_41 : decode cX11_store 41 = .ok (.bipush (-4), 2) := by decide +kernel
theorem dX11_store_43 : decode cX11_store 43 = .ok (.ireturn, 1) := by decide +kernel
theorem dX11_store_44 : decode cX11_store 44 = .ok (.aload 8, 2) := by decide +kernel
theorem dX11_store_46 : decode cX11_store 46 = .ok (.getfield 119, 3) := by decide +kernel
theorem dX11_store_49 : decode cX11_store 49 = .ok (.getfield 123, 3) := by decide +kernel
theorem dX11_store_52 : decode cX11_store 52 = .ok (.lload 9, 2) := by decide +kernel
theorem dX11_store_54 : decode cX11_store 54 = .ok (.invokevirtual 129, 3) := by decide +kernel
theorem dX11_store_57 : decode cX11_store 57 = .ok (.astore 11, 2) := by decide +kernel
theorem dX11_store_59 : decode cX11_store 59 = .ok (.aload 11, 2) := by decide +kernel
theorem dX11_store_61 : decode cX11_store 61 = .ok (.ifnonnull 6, 3) := by decide +kernel
theorem dX11_store_64 : decode cX11_store 64 = .ok (.bipush (-5), 2) := by decide +kernel
theorem dX11_store_66 : decode cX11_store 66 = .ok (.ireturn, 1) := by decide +kernel
theorem dX11_store_67 : decode cX11_store 67 = .ok (.aload 11, 2) := by decide +kernel
theorem dX11_store_69 : decode cX11_store 69 = .ok (.lload 9, 2) := by decide +kernel
theorem dX11_store_71 : decode cX11_store 71 = .ok (.invokevirtual 135, 3) := by decide +kernel
theorem dX11_store_74 : decode cX11_store 74 = .ok (.iconst 0, 1) := by decide +kernel
theorem dX11_store_75 : decode cX11_store 75 = .ok (.istore 12, 2) := by decide +kernel
theorem dX11_store_77 : decode cX11_store 77 = .ok (.iload 12, 2) := by decide +kernel
theorem dX11_store_79 : decode cX11_store 79 = .ok (.iload 5, 2) := by decide +kernel
theorem dX11_store_81 : decode cX11_store 81 = .ok (.if_icmp .ge 22, 3) := by decide +kernel
theorem dX11_store_84 : decode cX11_store 84 = .ok (.aload 11, 2) := by decide +kernel
theorem dX11_store_86 : decode cX11_store 86 = .ok (.iload 12, 2) := by decide +kernel
theorem dX11_store_88 : decode cX11_store 88 = .ok (.iload 7, 2) := by decide +kernel
theorem dX11_store_90 : decode cX11_store 90 = .ok (.imul, 1) := by decide +kernel
theorem dX11_store_91 : decode cX11_store 91 = .ok (.iload 6, 2) := by decide +kernel
theorem dX11_store_93 : decode cX11_store 93 = .ok (.iadd, 1) := by decide +kernel
theorem dX11_store_94 : decode cX11_store 94 = .ok (.invokevirtual 140, 3) := by decide +kernel
theorem dX11_store_97 : decode cX11_store 97 = .ok (.iinc 12 1, 3) := by decide +kernel
theorem dX11_store_100 : decode cX11_store 100 = .ok (.goto (-23), 3) := by decide +kernel
theorem dX11_store_103 : decode cX11_store 103 = .ok (.iconst 1, 1) := by decide +kernel
theorem dX11_store_104 : decode cX11_store 104 = .ok (.ireturn, 1) := by decide +kernel
theorem dX11_put_0 : decode cX11_put 0 = .ok (.aload_n 0, 1) := by decide +kernel
theorem dX11_put_1 : decode cX11_put 1 = .ok (.iload_n 1, 1) := by decide +kernel
theorem dX11_put_2 : decode cX11_put 2 = .ok (.invokevirtual 22, 3) := by decide +kernel
theorem dX11_put_5 : decode cX11_put 5 = .ok (.astore 5, 2) := by decide +kernel
theorem dX11_put_7 : decode cX11_put 7 = .ok (.aload 5, 2) := by decide +kernel
theorem dX11_put_9 : decode cX11_put 9 = .ok (.ifnonnull 5, 3) := by decide +kernel
theorem dX11_put_12 : decode cX11_put 12 = .ok (.iconst (-1), 1) := by decide +kernel
theorem dX11_put_13 : decode cX11_put 13 = .ok (.ireturn, 1) := by decide +kernel
theorem dX11_put_14 : decode cX11_put 14 = .ok (.aload 5, 2) := by decide +kernel
theorem dX11_put_16 : decode cX11_put 16 = .ok (.invokevirtual 143, 3) := by decide +kernel
theorem dX11_put_19 : decode cX11_put 19 = .ok (.ifCond .ne 6, 3) := by decide +kernel
theorem dX11_put_22 : decode cX11_put 22 = .ok (.bipush (-2), 2) := by decide +kernel
theorem dX11_put_24 : decode cX11_put 24 = .ok (.ireturn, 1) := by decide +kernel
theorem dX11_put_25 : decode cX11_put 25 = .ok (.aload 5, 2) := by decide +kernel
theorem dX11_put_27 : decode cX11_put 27 = .ok (.getfield 119, 3) := by decide +kernel
theorem dX11_put_30 : decode cX11_put 30 = .ok (.getfield 123, 3) := by decide +kernel
theorem dX11_put_33 : decode cX11_put 33 = .ok (.lload_n 2, 1) := by decide +kernel
theorem dX11_put_34 : decode cX11_put 34 = .ok (.iload 4, 2) := by decide +kernel
theorem dX11_put_36 : decode cX11_put 36 = .ok (.invokestatic 115, 3) := by decide +kernel
theorem dX11_put_39 : decode cX11_put 39 = .ok (.invokevirtual 147, 3) := by decide +kernel
theorem dX11_put_42 : decode cX11_put 42 = .ok (.astore 6, 2) := by decide +kernel
theorem dX11_put_44 : decode cX11_put 44 = .ok (.aload 6, 2) := by decide +kernel
theorem dX11_put_46 : decode cX11_put 46 = .ok (.ifnonnull 6, 3) := by decide +kernel
theorem dX11_put_49 : decode cX11_put 49 = .ok (.bipush (-4), 2) := by decide +kernel
theorem dX11_put_51 : decode cX11_put 51 = .ok (.ireturn, 1) := by decide +kernel
theorem dX11_put_52 : decode cX11_put 52 = .ok (.aload 5, 2) := by decide +kernel
theorem dX11_put_54 : decode cX11_put 54 = .ok (.getfield 119, 3) := by decide +kernel
theorem dX11_put_57 : decode cX11_put 57 = .ok (.aload 6, 2) := by decide +kernel
theorem dX11_put_59 : decode cX11_put 59 = .ok (.invokevirtual 150, 3) := by decide +kernel
theorem dX11_put_62 : decode cX11_put 62 = .ok (.aload 5, 2) := by decide +kernel
theorem dX11_put_64 : decode cX11_put 64 = .ok (.invokevirtual 154, 3) := by decide +kernel
theorem dX11_put_67 : decode cX11_put 67 = .ok (.iconst 1, 1) := by decide +kernel
theorem dX11_put_68 : decode cX11_put 68 = .ok (.ireturn, 1) := by decide +kernel
theorem dX11_get_0 : decode cX11_get 0 = .ok (.aload_n 0, 1) := by decide +kernel
theorem dX11_get_1 : decode cX11_get 1 = .ok (.iload_n 1, 1) := by decide +kernel
theorem dX11_get_2 : decode cX11_get 2 = .ok (.invokevirtual 22, 3) := by decide +kernel
theorem dX11_get_5 : decode cX11_get 5 = .ok (.astore 5, 2) := by decide +kernel
theorem dX11_get_7 : decode cX11_get 7 = .ok (.aload 5, 2) := by decide +kernel
theorem dX11_get_9 : decode cX11_get 9 = .ok (.ifnonnull 5, 3) := by decide +kernel
theorem dX11_get_12 : decode cX11_get 12 = .ok (.iconst (-1), 1) := by decide +kernel
theorem dX11_get_13 : decode cX11_get 13 = .ok (.ireturn, 1) := by decide +kernel
theorem dX11_get_14 : decode cX11_get 14 = .ok (.aload 5, 2) := by decide +kernel
theorem dX11_get_16 : decode cX11_get 16 = .ok (.invokevirtual 143, 3) := by decide +kernel
theorem dX11_get_19 : decode cX11_get 19 = .ok (.ifCond .ne 6, 3) := by decide +kernel
theorem dX11_get_22 : decode cX11_get 22 = .ok (.bipush (-2), 2) := by decide +kernel
theorem dX11_get_24 : decode cX11_get 24 = .ok (.ireturn, 1) := by decide +kernel
theorem dX11_get_25 : decode cX11_get 25 = .ok (.lload_n 2, 1) := by decide +kernel
theorem dX11_get_26 : decode cX11_get 26 = .ok (.iload 4, 2) := by decide +kernel
theorem dX11_get_28 : decode cX11_get 28 = .ok (.invokestatic 115, 3) := by decide +kernel
theorem dX11_get_31 : decode cX11_get 31 = .ok (.lstore 6, 2) := by decide +kernel
theorem dX11_get_33 : decode cX11_get 33 = .ok (.lload 6, 2) := by decide +kernel
theorem dX11_get_35 : decode cX11_get 35 = .ok (.lconst 0, 1) := by decide +kernel
theorem dX11_get_36 : decode cX11_get 36 = .ok (.lcmp, 1) := by decide +kernel
theorem dX11_get_37 : decode cX11_get 37 = .ok (.ifCond .ne 6, 3) := by decide +kernel
theorem dX11_get_40 : decode cX11_get 40 = .ok (.bipush (-4), 2) := by decide +kernel
theorem dX11_get_42 : decode cX11_get 42 = .ok (.ireturn, 1) := by decide +kernel
theorem dX11_get_43 : decode cX11_get 43 = .ok (.aload 5, 2) := by decide +kernel
theorem dX11_get_45 : decode cX11_get 45 = .ok (.getfield 119, 3) := by decide +kernel
theorem dX11_get_48 : decode cX11_get 48 = .ok (.lload 6, 2) := by decide +kernel
theorem dX11_get_50 : decode cX11_get 50 = .ok (.invokevirtual 157, 3) := by decide +kernel
theorem dX11_get_53 : decode cX11_get 53 = .ok (.aload 5, 2) := by decide +kernel
theorem dX11_get_55 : decode cX11_get 55 = .ok (.invokevirtual 154, 3) := by decide +kernel
theorem dX11_get_58 : decode cX11_get 58 = .ok (.iconst 1, 1) := by decide +kernel
theorem dX11_get_59 : decode cX11_get 59 = .ok (.ireturn, 1) := by decide +kernel
theorem dX11_size_0 : decode cX11_size 0 = .ok (.aload_n 0, 1) := by decide +kernel
theorem dX11_size_1 : decode cX11_size 1 = .ok (.iload_n 1, 1) := by decide +kernel
theorem dX11_size_2 : decode cX11_size 2 = .ok (.lload_n 2, 1) := by decide +kernel
theorem dX11_size_3 : decode cX11_size 3 = .ok (.iload 4, 2) := by decide +kernel
theorem dX11_size_5 : decode cX11_size 5 = .ok (.invokevirtual 160, 3) := by decide +kernel
theorem dX11_size_8 : decode cX11_size 8 = .ok (.astore 5, 2) := by decide +kernel
theorem dX11_size_10 : decode cX11_size 10 = .ok (.aload 5, 2) := by decide +kernel
theorem dX11_size_12 : decode cX11_size 12 = .ok (.ifnonnull 7, 3) := by decide +kernel
theorem dX11_size_15 : decode cX11_size 15 = .ok (.iconst (-1), 1) := by decide +kernel
theorem dX11_size_16 : decode cX11_size 16 = .ok (.goto 8, 3) := by decide +kernel
theorem dX11_size_19 : decode cX11_size 19 = .ok (.aload 5, 2) := by decide +kernel
theorem dX11_size_21 : decode cX11_size 21 = .ok (.getfield 164, 3) := by decide +kernel
theorem dX11_size_24 : decode cX11_size 24 = .ok (.ireturn, 1) := by decide +kernel
theorem dX11_octet_0 : decode cX11_octet 0 = .ok (.aload_n 0, 1) := by decide +kernel
theorem dX11_octet_1 : decode cX11_octet 1 = .ok (.iload_n 1, 1) := by decide +kernel
theorem dX11_octet_2 : decode cX11_octet 2 = .ok (.lload_n 2, 1) := by decide +kernel
theorem dX11_octet_3 : decode cX11_octet 3 = .ok (.iload 4, 2) := by decide +kernel
theorem dX11_octet_5 : decode cX11_octet 5 = .ok (.invokevirtual 160, 3) := by decide +kernel
theorem dX11_octet_8 : decode cX11_octet 8 = .ok (.astore 6, 2) := by decide +kernel
theorem dX11_octet_10 : decode cX11_octet 10 = .ok (.aload 6, 2) := by decide +kernel
theorem dX11_octet_12 : decode cX11_octet 12 = .ok (.ifnull 25, 3) := by decide +kernel
theorem dX11_octet_15 : decode cX11_octet 15 = .ok (.iload 5, 2) := by decide +kernel
theorem dX11_octet_17 : decode cX11_octet 17 = .ok (.ifCond .lt 20, 3) := by decide +kernel
theorem dX11_octet_20 : decode cX11_octet 20 = .ok (.iload 5, 2) := by decide +kernel
theorem dX11_octet_22 : decode cX11_octet 22 = .ok (.aload 6, 2) := by decide +kernel
theorem dX11_octet_24 : decode cX11_octet 24 = .ok (.getfield 164, 3) := by decide +kernel
theorem dX11_octet_27 : decode cX11_octet 27 = .ok (.if_icmp .ge 10, 3) := by decide +kernel
theorem dX11_octet_30 : decode cX11_octet 30 = .ok (.iload 5, 2) := by decide +kernel
theorem dX11_octet_32 : decode cX11_octet 32 = .ok (.bipush 120, 2) := by decide +kernel
theorem dX11_octet_34 : decode cX11_octet 34 = .ok (.if_icmp .lt 5, 3) := by decide +kernel
theorem dX11_octet_37 : decode cX11_octet 37 = .ok (.iconst (-1), 1) := by decide +kernel
theorem dX11_octet_38 : decode cX11_octet 38 = .ok (.ireturn, 1) := by decide +kernel
theorem dX11_octet_39 : decode cX11_octet 39 = .ok (.aload 6, 2) := by decide +kernel
theorem dX11_octet_41 : decode cX11_octet 41 = .ok (.getfield 165, 3) := by decide +kernel
theorem dX11_octet_44 : decode cX11_octet 44 = .ok (.iload 5, 2) := by decide +kernel
theorem dX11_octet_46 : decode cX11_octet 46 = .ok (.iaload, 1) := by decide +kernel
theorem dX11_octet_47 : decode cX11_octet 47 = .ok (.ireturn, 1) := by decide +kernel
theorem dX11_of_0 : decode cX11_of 0 = .ok (.aload_n 0, 1) := by decide +kernel
theorem dX11_of_1 : decode cX11_of 1 = .ok (.iload_n 1, 1) := by decide +kernel
theorem dX11_of_2 : decode cX11_of 2 = .ok (.invokevirtual 22, 3) := by decide +kernel
theorem dX11_of_5 : decode cX11_of 5 = .ok (.astore_n 3, 1) := by decide +kernel
theorem dX11_of_6 : decode cX11_of 6 = .ok (.aload_n 3, 1) := by decide +kernel
theorem dX11_of_7 : decode cX11_of 7 = .ok (.ifnull 13, 3) := by decide +kernel
theorem dX11_of_10 : decode cX11_of 10 = .ok (.iload_n 2, 1) := by decide +kernel
theorem dX11_of_11 : decode cX11_of 11 = .ok (.ifCond .lt 9, 3) := by decide +kernel
theorem dX11_of_14 : decode cX11_of 14 = .ok (.iload_n 2, 1) := by decide +kernel
theorem dX11_of_15 : decode cX11_of 15 = .ok (.bipush 16, 2) := by decide +kernel
theorem dX11_of_17 : decode cX11_of 17 = .ok (.if_icmp .le 6, 3) := by decide +kernel
theorem dX11_of_20 : decode cX11_of 20 = .ok (.bipush (-9), 2) := by decide +kernel
theorem dX11_of_22 : decode cX11_of 22 = .ok (.ireturn, 1) := by decide +kernel
theorem dX11_of_23 : decode cX11_of 23 = .ok (.iload_n 2, 1) := by decide +kernel
theorem dX11_of_24 : decode cX11_of 24 = .ok (.bipush 10, 2) := by decide +kernel
theorem dX11_of_26 : decode cX11_of 26 = .ok (.if_icmp .ge 11, 3) := by decide +kernel
theorem dX11_of_29 : decode cX11_of 29 = .ok (.aload_n 3, 1) := by decide +kernel
theorem dX11_of_30 : decode cX11_of 30 = .ok (.iload_n 2, 1) := by decide +kernel
theorem dX11_of_31 : decode cX11_of 31 = .ok (.invokestatic 166, 3) := by decide +kernel
theorem dX11_of_34 : decode cX11_of 34 = .ok (.goto 8, 3) := by decide +kernel
theorem dX11_of_37 : decode cX11_of 37 = .ok (.aload_n 3, 1) := by decide +kernel
theorem dX11_of_38 : decode cX11_of 38 = .ok (.iload_n 2, 1) := by decide +kernel
theorem dX11_of_39 : decode cX11_of 39 = .ok (.invokestatic 170, 3) := by decide +kernel
theorem dX11_of_42 : decode cX11_of 42 = .ok (.ireturn, 1) := by decide +kernel
theorem dX11_tape_0 : decode cX11_tape 0 = .ok (.iload_n 1, 1) := by decide +kernel
theorem dX11_tape_1 : decode cX11_tape 1 = .ok (.ifCond .ne 8, 3) := by decide +kernel
theorem dX11_tape_4 : decode cX11_tape 4 = .ok (.aload_n 0, 1) := by decide +kernel
theorem dX11_tape_5 : decode cX11_tape 5 = .ok (.getfield 36, 3) := by decide +kernel
theorem dX11_tape_8 : decode cX11_tape 8 = .ok (.ireturn, 1) := by decide +kernel
theorem dX11_tape_9 : decode cX11_tape 9 = .ok (.iload_n 1, 1) := by decide +kernel
theorem dX11_tape_10 : decode cX11_tape 10 = .ok (.iconst 1, 1) := by decide +kernel
theorem dX11_tape_11 : decode cX11_tape 11 = .ok (.if_icmp .eq 6, 3) := by decide +kernel
theorem dX11_tape_14 : decode cX11_tape 14 = .ok (.bipush (-9), 2) := by decide +kernel
theorem dX11_tape_16 : decode cX11_tape 16 = .ok (.ireturn, 1) := by decide +kernel
theorem dX11_tape_17 : decode cX11_tape 17 = .ok (.iload_n 2, 1) := by decide +kernel
theorem dX11_tape_18 : decode cX11_tape 18 = .ok (.ifCond .lt 11, 3) := by decide +kernel
theorem dX11_tape_21 : decode cX11_tape 21 = .ok (.iload_n 2, 1) := by decide +kernel
theorem dX11_tape_22 : decode cX11_tape 22 = .ok (.aload_n 0, 1) := by decide +kernel
theorem dX11_tape_23 : decode cX11_tape 23 = .ok (.getfield 36, 3) := by decide +kernel
theorem dX11_tape_26 : decode cX11_tape 26 = .ok (.if_icmp .le 7, 3) := by decide +kernel
theorem dX11_tape_29 : decode cX11_tape 29 = .ok (.iconst (-1), 1) := by decide +kernel
theorem dX11_tape_30 : decode cX11_tape 30 = .ok (.goto 11, 3) := by decide +kernel
theorem dX11_tape_33 : decode cX11_tape 33 = .ok (.aload_n 0, 1) := by decide +kernel
theorem dX11_tape_34 : decode cX11_tape 34 = .ok (.getfield 15, 3) := by decide +kernel
theorem dX11_tape_37 : decode cX11_tape 37 = .ok (.iload_n 2, 1) := by decide +kernel
theorem dX11_tape_38 : decode cX11_tape 38 = .ok (.invokestatic 173, 3) := by decide +kernel
theorem dX11_tape_41 : decode cX11_tape 41 = .ok (.ireturn, 1) := by decide +kernel
theorem dX11_linkFact_0 : decode cX11_linkFact 0 = .ok (.aload_n 0, 1) := by decide +kernel
theorem dX11_linkFact_1 : decode cX11_linkFact 1 = .ok (.getfield 92, 3) := by decide +kernel
theorem dX11_linkFact_4 : decode cX11_linkFact 4 = .ok (.astore_n 2, 1) := by decide +kernel
theorem dX11_linkFact_5 : decode cX11_linkFact 5 = .ok (.aload_n 0, 1) := by decide +kernel
theorem dX11_linkFact_6 : decode cX11_linkFact 6 = .ok (.invokevirtual 177, 3) := by decide +kernel
theorem dX11_linkFact_9 : decode cX11_linkFact 9 = .ok (.istore_n 3, 1) := by decide +kernel
theorem dX11_linkFact_10 : decode cX11_linkFact 10 = .ok (.iload_n 1, 1) := by decide +kernel
theorem dX11_linkFact_11 : decode cX11_linkFact 11 = .ok (.tableswitch 138 0 8 #[49, 54, 59, 80, 93, 98, 103, 111, 122], 49) := by decide +kernel
theorem dX11_linkFact_60 : decode cX11_linkFact 60 = .ok (.aload_n 0, 1) := by decide +kernel
theorem dX11_linkFact_61 : decode cX11_linkFact 61 = .ok (.getfield 26, 3) := by decide +kernel
theorem dX11_linkFact_64 : decode cX11_linkFact 64 = .ok (.ireturn, 1) := by decide +kernel
theorem dX11_linkFact_65 : decode cX11_linkFact 65 = .ok (.aload_n 0, 1) := by decide +kernel
theorem dX11_linkFact_66 : decode cX11_linkFact 66 = .ok (.getfield 30, 3) := by decide +kernel
theorem dX11_linkFact_69 : decode cX11_linkFact 69 = .ok (.ireturn, 1) := by decide +kernel
theorem dX11_linkFact_70 : decode cX11_linkFact 70 = .ok (.iload_n 3, 1) := by decide +kernel
theorem dX11_linkFact_71 : decode cX11_linkFact 71 = .ok (.ifCond .ne 11, 3) := by decide +kernel
theorem dX11_linkFact_74 : decode cX11_linkFact 74 = .ok (.aload_n 0, 1) := by decide +kernel
theorem dX11_linkFact_75 : decode cX11_linkFact 75 = .ok (.getfield 26, 3) := by decide +kernel
theorem dX11_linkFact_78 : decode cX11_linkFact 78 = .ok (.iconst 2, 1) := by decide +kernel
theorem dX11_linkFact_79 : decode cX11_linkFact 79 = .ok (.if_icmp .ne 10, 3) := by decide +kernel
theorem dX11_linkFact_82 : decode cX11_linkFact 82 = .ok (.aload_n 2, 1) := by decide +kernel
theorem dX11_linkFact_83 : decode cX11_linkFact 83 = .ok (.getfield 108, 3) := by decide +kernel
theorem dX11_linkFact_86 : decode cX11_linkFact 86 = .ok (.goto 4, 3) := by decide +kernel
theorem dX11_linkFact_89 : decode cX11_linkFact 89 = .ok (.iconst 0, 1) := by decide +kernel
theorem dX11_linkFact_90 : decode cX11_linkFact 90 = .ok (.ireturn, 1) := by decide +kernel
theorem dX11_linkFact_91 : decode cX11_linkFact 91 = .ok (.iload_n 3, 1) := by decide +kernel
theorem dX11_linkFact_92 : decode cX11_linkFact 92 = .ok (.ifCond .eq 10, 3) := by decide +kernel
theorem dX11_linkFact_95 : decode cX11_linkFact 95 = .ok (.aload_n 2, 1) := by decide +kernel
theorem dX11_linkFact_96 : decode cX11_linkFact 96 = .ok (.getfield 180, 3) := by decide +kernel
theorem dX11_linkFact_99 : decode cX11_linkFact 99 = .ok (.goto 4, 3) := by decide +kernel
theorem dX11_linkFact_102 : decode cX11_linkFact 102 = .ok (.iconst 0, 1) := by decide +kernel
theorem dX11_linkFact_103 : decode cX11_linkFact 103 = .ok (.ireturn, 1) := by decide +kernel
theorem dX11_linkFact_104 : decode cX11_linkFact 104 = .ok (.aload_n 2, 1) := by decide +kernel
theorem dX11_linkFact_105 : decode cX11_linkFact 105 = .ok (.getfield 183, 3) := by decide +kernel
theorem dX11_linkFact_108 : decode cX11_linkFact 108 = .ok (.ireturn, 1) := by decide +kernel
theorem dX11_linkFact_109 : decode cX11_linkFact 109 = .ok (.aload_n 2, 1) := by decide +kernel
theorem dX11_linkFact_110 : decode cX11_linkFact 110 = .ok (.getfield 186, 3) := by decide +kernel
theorem dX11_linkFact_113 : decode cX11_linkFact 113 = .ok (.ireturn, 1) := by decide +kernel
theorem dX11_linkFact_114 : decode cX11_linkFact 114 = .ok (.aload_n 2, 1) := by decide +kernel
theorem dX11_linkFact_115 : decode cX11_linkFact 115 = .ok (.getfield 189, 3) := by decide +kernel
theorem dX11_linkFact_118 : decode cX11_linkFact 118 = .ok (.getfield 193, 3) := by decide +kernel
theorem dX11_linkFact_121 : decode cX11_linkFact 121 = .ok (.ireturn, 1) := by decide +kernel
theorem dX11_linkFact_122 : decode cX11_linkFact 122 = .ok (.aload_n 0, 1) := by decide +kernel
theorem dX11_linkFact_123 : decode cX11_linkFact 123 = .ok (.getfield 198, 3) := by decide +kernel
theorem dX11_linkFact_126 : decode cX11_linkFact 126 = .ok (.getfield 202, 3) := by decide +kernel
theorem dX11_linkFact_129 : decode cX11_linkFact 129 = .ok (.getfield 193, 3) := by decide +kernel
theorem dX11_linkFact_132 : decode cX11_linkFact 132 = .ok (.ireturn, 1) := by decide +kernel
theorem dX11_linkFact_133 : decode cX11_linkFact 133 = .ok (.iload_n 3, 1) := by decide +kernel
theorem dX11_linkFact_134 : decode cX11_linkFact 134 = .ok (.ifCond .eq 13, 3) := by decide +kernel
theorem dX11_linkFact_137 : decode cX11_linkFact 137 = .ok (.aload_n 0, 1) := by decide +kernel
theorem dX11_linkFact_138 : decode cX11_linkFact 138 = .ok (.getfield 198, 3) := by decide +kernel
theorem dX11_linkFact_141 : decode cX11_linkFact 141 = .ok (.getfield 207, 3) := by decide +kernel
theorem dX11_linkFact_144 : decode cX11_linkFact 144 = .ok (.goto 4, 3) := by decide +kernel
theorem dX11_linkFact_147 : decode cX11_linkFact 147 = .ok (.iconst 0, 1) := by decide +kernel
theorem dX11_linkFact_148 : decode cX11_linkFact 148 = .ok (.ireturn, 1) := by decide +kernel
theorem dX11_linkFact_149 : decode cX11_linkFact 149 = .ok (.aload_n 0, 1) := by decide +kernel
theorem dX11_linkFact_150 : decode cX11_linkFact 150 = .ok (.getfield 198, 3) := by decide +kernel
theorem dX11_linkFact_153 : decode cX11_linkFact 153 = .ok (.getfield 210, 3) := by decide +kernel
theorem dX11_linkFact_156 : decode cX11_linkFact 156 = .ok (.ireturn, 1) := by decide +kernel
theorem dX11_deviceFact_0 : decode cX11_deviceFact 0 = .ok (.iload_n 1, 1) := by decide +kernel
theorem dX11_deviceFact_1 : decode cX11_deviceFact 1 = .ok (.tableswitch 98 10 15 #[39, 47, 55, 63, 74, 82], 39) := by decide +kernel
theorem dX11_deviceFact_40 : decode cX11_deviceFact 40 = .ok (.aload_n 0, 1) := by decide +kernel
theorem dX11_deviceFact_41 : decode cX11_deviceFact 41 = .ok (.getfield 43, 3) := by decide +kernel
theorem dX11_deviceFact_44 : decode cX11_deviceFact 44 = .ok (.getfield 57, 3) := by decide +kernel
theorem dX11_deviceFact_47 : decode cX11_deviceFact 47 = .ok (.ireturn, 1) := by decide +kernel
theorem dX11_deviceFact_48 : decode cX11_deviceFact 48 = .ok (.aload_n 0, 1) := by decide +kernel
theorem dX11_deviceFact_49 : decode cX11_deviceFact 49 = .ok (.getfield 213, 3) := by decide +kernel
theorem dX11_deviceFact_52 : decode cX11_deviceFact 52 = .ok (.getfield 217, 3) := by decide +kernel
theorem dX11_deviceFact_55 : decode cX11_deviceFact 55 = .ok (.ireturn, 1) := by decide +kernel
theorem dX11_deviceFact_56 : decode cX11_deviceFact 56 = .ok (.aload_n 0, 1) := by decide +kernel
theorem dX11_deviceFact_57 : decode cX11_deviceFact 57 = .ok (.getfield 213, 3) := by decide +kernel
theorem dX11_deviceFact_60 : decode cX11_deviceFact 60 = .ok (.getfield 222, 3) := by decide +kernel
theorem dX11_deviceFact_63 : decode cX11_deviceFact 63 = .ok (.ireturn, 1) := by decide +kernel
theorem dX11_deviceFact_64 : decode cX11_deviceFact 64 = .ok (.aload_n 0, 1) := by decide +kernel
theorem dX11_deviceFact_65 : decode cX11_deviceFact 65 = .ok (.getfield 119, 3) := by decide +kernel
theorem dX11_deviceFact_68 : decode cX11_deviceFact 68 = .ok (.getfield 123, 3) := by decide +kernel
theorem dX11_deviceFact_71 : decode cX11_deviceFact 71 = .ok (.getfield 225, 3) := by decide +kernel
theorem dX11_deviceFact_74 : decode cX11_deviceFact 74 = .ok (.ireturn, 1) := by decide +kernel
theorem dX11_deviceFact_75 : decode cX11_deviceFact 75 = .ok (.aload_n 0, 1) := by decide +kernel
theorem dX11_deviceFact_76 : decode cX11_deviceFact 76 = .ok (.getfield 119, 3) := by decide +kernel
theorem dX11_deviceFact_79 : decode cX11_deviceFact 79 = .ok (.getfield 226, 3) := by decide +kernel
theorem dX11_deviceFact_82 : decode cX11_deviceFact 82 = .ok (.ireturn, 1) := by decide +kernel
theorem dX11_deviceFact_83 : decode cX11_deviceFact 83 = .ok (.aload_n 0, 1) := by decide +kernel
theorem dX11_deviceFact_84 : decode cX11_deviceFact 84 = .ok (.getfield 92, 3) := by decide +kernel
theorem dX11_deviceFact_87 : decode cX11_deviceFact 87 = .ok (.getfield 229, 3) := by decide +kernel
theorem dX11_deviceFact_90 : decode cX11_deviceFact 90 = .ok (.ifCond .eq 7, 3) := by decide +kernel
theorem dX11_deviceFact_93 : decode cX11_deviceFact 93 = .ok (.iconst 1, 1) := by decide +kernel
theorem dX11_deviceFact_94 : decode cX11_deviceFact 94 = .ok (.goto 4, 3) := by decide +kernel
theorem dX11_deviceFact_97 : decode cX11_deviceFact 97 = .ok (.iconst 0, 1) := by decide +kernel
theorem dX11_deviceFact_98 : decode cX11_deviceFact 98 = .ok (.ireturn, 1) := by decide +kernel
theorem dX11_deviceFact_99 : decode cX11_deviceFact 99 = .ok (.aload_n 0, 1) := by decide +kernel
theorem dX11_deviceFact_100 : decode cX11_deviceFact 100 = .ok (.getfield 74, 3) := by decide +kernel
theorem dX11_deviceFact_103 : decode cX11_deviceFact 103 = .ok (.getfield 83, 3) := by decide +kernel
theorem dX11_deviceFact_106 : decode cX11_deviceFact 106 = .ok (.ireturn, 1) := by decide +kernel
theorem dX11_deviceAt_0 : decode cX11_deviceAt 0 = .ok (.iload_n 1, 1) := by decide +kernel
theorem dX11_deviceAt_1 : decode cX11_deviceAt 1 = .ok (.ifCond .lt 8, 3) := by decide +kernel
theorem dX11_deviceAt_4 : decode cX11_deviceAt 4 = .ok (.iload_n 1, 1) := by decide +kernel
theorem dX11_deviceAt_5 : decode cX11_deviceAt 5 = .ok (.iconst 4, 1) := by decide +kernel
theorem dX11_deviceAt_6 : decode cX11_deviceAt 6 = .ok (.if_icmp .lt 7, 3) := by decide +kernel
theorem dX11_deviceAt_9 : decode cX11_deviceAt 9 = .ok (.aconst_null, 1) := by decide +kernel
theorem dX11_deviceAt_10 : decode cX11_deviceAt 10 = .ok (.goto 9, 3) := by decide +kernel
theorem dX11_deviceAt_13 : decode cX11_deviceAt 13 = .ok (.aload_n 0, 1) := by decide +kernel
theorem dX11_deviceAt_14 : decode cX11_deviceAt 14 = .ok (.getfield 11, 3) := by decide +kernel
theorem dX11_deviceAt_17 : decode cX11_deviceAt 17 = .ok (.iload_n 1, 1) := by decide +kernel
theorem dX11_deviceAt_18 : decode cX11_deviceAt 18 = .ok (.aaload, 1) := by decide +kernel
theorem dX11_deviceAt_19 : decode cX11_deviceAt 19 = .ok (.areturn, 1) := by decide +kernel
theorem dX11_thingAt_0 : decode cX11_thingAt 0 = .ok (.aload_n 0, 1) := by decide +kernel
theorem dX11_thingAt_1 : decode cX11_thingAt 1 = .ok (.iload_n 1, 1) := by decide +kernel
theorem dX11_thingAt_2 : decode cX11_thingAt 2 = .ok (.invokevirtual 22, 3) := by decide +kernel
theorem dX11_thingAt_5 : decode cX11_thingAt 5 = .ok (.astore 5, 2) := by decide +kernel
theorem dX11_thingAt_7 : decode cX11_thingAt 7 = .ok (.aload 5, 2) := by decide +kernel
theorem dX11_thingAt_9 : decode cX11_thingAt 9 = .ok (.ifnonnull 7, 3) := by decide +kernel
theorem dX11_thingAt_12 : decode cX11_thingAt 12 = .ok (.aconst_null, 1) := by decide +kernel
theorem dX11_thingAt_13 : decode cX11_thingAt 13 = .ok (.goto 20, 3) := by decide +kernel
theorem dX11_thingAt_16 : decode cX11_thingAt 16 = .ok (.aload 5, 2) := by decide +kernel
theorem dX11_thingAt_18 : decode cX11_thingAt 18 = .ok (.getfield 119, 3) := by decide +kernel
theorem dX11_thingAt_21 : decode cX11_thingAt 21 = .ok (.getfield 123, 3) := by decide +kernel
theorem dX11_thingAt_24 : decode cX11_thingAt 24 = .ok (.lload_n 2, 1) := by decide +kernel
theorem dX11_thingAt_25 : decode cX11_thingAt 25 = .ok (.iload 4, 2) := by decide +kernel
theorem dX11_thingAt_27 : decode cX11_thingAt 27 = .ok (.invokestatic 115, 3) := by decide +kernel
theorem dX11_thingAt_30 : decode cX11_thingAt 30 = .ok (.invokevirtual 147, 3) := by decide +kernel
theorem dX11_thingAt_33 : decode cX11_thingAt 33 = .ok (.areturn, 1) := by decide +kernel
theorem dX11_feedFour_0 : decode cX11_feedFour 0 = .ok (.bipush 24, 2) := by decide +kernel
theorem dX11_feedFour_2 : decode cX11_feedFour 2 = .ok (.istore_n 2, 1) := by decide +kernel
theorem dX11_feedFour_3 : decode cX11_feedFour 3 = .ok (.iload_n 2, 1) := by decide +kernel
theorem dX11_feedFour_4 : decode cX11_feedFour 4 = .ok (.ifCond .lt 45, 3) := by decide +kernel
theorem dX11_feedFour_7 : decode cX11_feedFour 7 = .ok (.aload_n 0, 1) := by decide +kernel
theorem dX11_feedFour_8 : decode cX11_feedFour 8 = .ok (.getfield 36, 3) := by decide +kernel
theorem dX11_feedFour_11 : decode cX11_feedFour 11 = .ok (.sipush 1000, 3) := by decide +kernel
theorem dX11_feedFour_14 : decode cX11_feedFour 14 = .ok (.if_icmp .ge 35, 3) := by decide +kernel
theorem dX11_feedFour_17 : decode cX11_feedFour 17 = .ok (.aload_n 0, 1) := by decide +kernel
theorem dX11_feedFour_18 : decode cX11_feedFour 18 = .ok (.getfield 15, 3) := by decide +kernel
theorem dX11_feedFour_21 : decode cX11_feedFour 21 = .ok (.aload_n 0, 1) := by decide +kernel
theorem dX11_feedFour_22 : decode cX11_feedFour 22 = .ok (.getfield 36, 3) := by decide +kernel
theorem dX11_feedFour_25 : decode cX11_feedFour 25 = .ok (.iload_n 1, 1) := by decide +kernel
theorem dX11_feedFour_26 : decode cX11_feedFour 26 = .ok (.iload_n 2, 1) := by decide +kernel
theorem dX11_feedFour_27 : decode cX11_feedFour 27 = .ok (.iushr, 1) := by decide +kernel
theorem dX11_feedFour_28 : decode cX11_feedFour 28 = .ok (.sipush 255, 3) := by decide +kernel
theorem dX11_feedFour_31 : decode cX11_feedFour 31 = .ok (.iand, 1) := by decide +kernel
theorem dX11_feedFour_32 : decode cX11_feedFour 32 = .ok (.iastore, 1) := by decide +kernel
theorem dX11_feedFour_33 : decode cX11_feedFour 33 = .ok (.aload_n 0, 1) := by decide +kernel
theorem dX11_feedFour_34 : decode cX11_feedFour 34 = .ok (.dup, 1) := by decide +kernel
theorem dX11_feedFour_35 : decode cX11_feedFour 35 = .ok (.getfield 36, 3) := by decide +kernel
theorem dX11_feedFour_38 : decode cX11_feedFour 38 = .ok (.iconst 1, 1) := by decide +kernel
theorem dX11_feedFour_39 : decode cX11_feedFour 39 = .ok (.iadd, 1) := by decide +kernel
theorem dX11_feedFour_40 : decode cX11_feedFour 40 = .ok (.putfield 36, 3) := by decide +kernel
theorem dX11_feedFour_43 : decode cX11_feedFour 43 = .ok (.iinc 2 (-8), 3) := by decide +kernel
theorem dX11_feedFour_46 : decode cX11_feedFour 46 = .ok (.goto (-43), 3) := by decide +kernel
theorem dX11_feedFour_49 : decode cX11_feedFour 49 = .ok (.return_, 1) := by decide +kernel
theorem dX11_mayBeSlots_0 : decode cX11_mayBeSlots 0 = .ok (.iload_n 0, 1) := by decide +kernel
theorem dX11_mayBeSlots_1 : decode cX11_mayBeSlots 1 = .ok (.iconst 1, 1) := by decide +kernel
theorem dX11_mayBeSlots_2 : decode cX11_mayBeSlots 2 = .ok (.if_icmp .eq 21, 3) := by decide +kernel
theorem dX11_mayBeSlots_5 : decode cX11_mayBeSlots 5 = .ok (.iload_n 0, 1) := by decide +kernel
theorem dX11_mayBeSlots_6 : decode cX11_mayBeSlots 6 = .ok (.bipush 6, 2) := by decide +kernel
theorem dX11_mayBeSlots_8 : decode cX11_mayBeSlots 8 = .ok (.if_icmp .eq 15, 3) := by decide +kernel
theorem dX11_mayBeSlots_11 : decode cX11_mayBeSlots 11 = .ok (.iload_n 0, 1) := by decide +kernel
theorem dX11_mayBeSlots_12 : decode cX11_mayBeSlots 12 = .ok (.bipush 8, 2) := by decide +kernel
theorem dX11_mayBeSlots_14 : decode cX11_mayBeSlots 14 = .ok (.if_icmp .eq 9, 3) := by decide +kernel
theorem dX11_mayBeSlots_17 : decode cX11_mayBeSlots 17 = .ok (.iload_n 0, 1) := by decide +kernel
theorem dX11_mayBeSlots_18 : decode cX11_mayBeSlots 18 = .ok (.bipush 16, 2) := by decide +kernel
theorem dX11_mayBeSlots_20 : decode cX11_mayBeSlots 20 = .ok (.if_icmp .ne 7, 3) := by decide +kernel
theorem dX11_mayBeSlots_23 : decode cX11_mayBeSlots 23 = .ok (.iconst 1, 1) := by decide +kernel
theorem dX11_mayBeSlots_24 : decode cX11_mayBeSlots 24 = .ok (.goto 4, 3) := by decide +kernel
theorem dX11_mayBeSlots_27 : decode cX11_mayBeSlots 27 = .ok (.iconst 0, 1) := by decide +kernel
theorem dX11_mayBeSlots_28 : decode cX11_mayBeSlots 28 = .ok (.ireturn, 1) := by decide +kernel
theorem dX11_mayBeWindow_0 : decode cX11_mayBeWindow 0 = .ok (.iload_n 0, 1) := by decide +kernel
theorem dX11_mayBeWindow_1 : decode cX11_mayBeWindow 1 = .ok (.iconst 1, 1) := by decide +kernel
theorem dX11_mayBeWindow_2 : decode cX11_mayBeWindow 2 = .ok (.if_icmp .lt 13, 3) := by decide +kernel
theorem dX11_mayBeWindow_5 : decode cX11_mayBeWindow 5 = .ok (.iload_n 0, 1) := by decide +kernel
theorem dX11_mayBeWindow_6 : decode cX11_mayBeWindow 6 = .ok (.bipush 7, 2) := by decide +kernel
theorem dX11_mayBeWindow_8 : decode cX11_mayBeWindow 8 = .ok (.if_icmp .gt 7, 3) := by decide +kernel
theorem dX11_mayBeWindow_11 : decode cX11_mayBeWindow 11 = .ok (.iconst 1, 1) := by decide +kernel
theorem dX11_mayBeWindow_12 : decode cX11_mayBeWindow 12 = .ok (.goto 4, 3) := by decide +kernel
theorem dX11_mayBeWindow_15 : decode cX11_mayBeWindow 15 = .ok (.iconst 0, 1) := by decide +kernel
theorem dX11_mayBeWindow_16 : decode cX11_mayBeWindow 16 = .ok (.ireturn, 1) := by decide +kernel
theorem dX11_nameKey_0 : decode cX11_nameKey 0 = .ok (.iload_n 2, 1) := by decide +kernel
theorem dX11_nameKey_1 : decode cX11_nameKey 1 = .ok (.iconst 1, 1) := by decide +kernel
theorem dX11_nameKey_2 : decode cX11_nameKey 2 = .ok (.if_icmp .lt 9, 3) := by decide +kernel
theorem dX11_nameKey_5 : decode cX11_nameKey 5 = .ok (.iload_n 2, 1) := by decide +kernel
theorem dX11_nameKey_6 : decode cX11_nameKey 6 = .ok (.bipush 8, 2) := by decide +kernel
theorem dX11_nameKey_8 : decode cX11_nameKey 8 = .ok (.if_icmp .le 5, 3) := by decide +kernel
theorem dX11_nameKey_11 : decode cX11_nameKey 11 = .ok (.lconst 0, 1) := by decide +kernel
theorem dX11_nameKey_12 : decode cX11_nameKey 12 = .ok (.lreturn, 1) := by decide +kernel
theorem dX11_nameKey_13 : decode cX11_nameKey 13 = .ok (.lconst 0, 1) := by decide +kernel
theorem dX11_nameKey_14 : decode cX11_nameKey 14 = .ok (.lstore_n 3, 1) := by decide +kernel
theorem dX11_nameKey_15 : decode cX11_nameKey 15 = .ok (.bipush 8, 2) := by decide +kernel
theorem dX11_nameKey_17 : decode cX11_nameKey 17 = .ok (.iload_n 2, 1) := by decide +kernel
theorem dX11_nameKey_18 : decode cX11_nameKey 18 = .ok (.iconst 1, 1) := by decide +kernel
theorem dX11_nameKey_19 : decode cX11_nameKey 19 = .ok (.isub, 1) := by decide +kernel
theorem dX11_nameKey_20 : decode cX11_nameKey 20 = .ok (.imul, 1) := by decide +kernel
theorem dX11_nameKey_21 : decode cX11_nameKey 21 = .ok (.istore 5, 2) := by decide +kernel
theorem dX11_nameKey_23 : decode cX11_nameKey 23 = .ok (.iload 5, 2) := by decide +kernel
theorem dX11_nameKey_25 : decode cX11_nameKey 25 = .ok (.ifCond .lt 36, 3) := by decide +kernel
theorem dX11_nameKey_28 : decode cX11_nameKey 28 = .ok (.lload_n 0, 1) := by decide +kernel
theorem dX11_nameKey_29 : decode cX11_nameKey 29 = .ok (.iload 5, 2) := by decide +kernel
theorem dX11_nameKey_31 : decode cX11_nameKey 31 = .ok (.lushr, 1) := by decide +kernel
theorem dX11_nameKey_32 : decode cX11_nameKey 32 = .ok (.ldc2_w 232, 3) := by decide +kernel
theorem dX11_nameKey_35 : decode cX11_nameKey 35 = .ok (.land, 1) := by decide +kernel
theorem dX11_nameKey_36 : decode cX11_nameKey 36 = .ok (.lstore 6, 2) := by decide +kernel
theorem dX11_nameKey_38 : decode cX11_nameKey 38 = .ok (.lload 6, 2) := by decide +kernel
theorem dX11_nameKey_40 : decode cX11_nameKey 40 = .ok (.lconst 0, 1) := by decide +kernel
theorem dX11_nameKey_41 : decode cX11_nameKey 41 = .ok (.lcmp, 1) := by decide +kernel
theorem dX11_nameKey_42 : decode cX11_nameKey 42 = .ok (.ifCond .ne 5, 3) := by decide +kernel
theorem dX11_nameKey_45 : decode cX11_nameKey 45 = .ok (.lconst 0, 1) := by decide +kernel
theorem dX11_nameKey_46 : decode cX11_nameKey 46 = .ok (.lreturn, 1) := by decide +kernel
theorem dX11_nameKey_47 : decode cX11_nameKey 47 = .ok (.lload_n 3, 1) := by decide +kernel
theorem dX11_nameKey_48 : decode cX11_nameKey 48 = .ok (.bipush 8, 2) := by decide +kernel
theorem dX11_nameKey_50 : decode cX11_nameKey 50 = .ok (.lshl, 1) := by decide +kernel
theorem dX11_nameKey_51 : decode cX11_nameKey 51 = .ok (.lload 6, 2) := by decide +kernel
theorem dX11_nameKey_53 : decode cX11_nameKey 53 = .ok (.lor, 1) := by decide +kernel
theorem dX11_nameKey_54 : decode cX11_nameKey 54 = .ok (.lstore_n 3, 1) := by decide +kernel
theorem dX11_nameKey_55 : decode cX11_nameKey 55 = .ok (.iinc 5 (-8), 3) := by decide +kernel
theorem dX11_nameKey_58 : decode cX11_nameKey 58 = .ok (.goto (-35), 3) := by decide +kernel
theorem dX11_nameKey_61 : decode cX11_nameKey 61 = .ok (.lload_n 3, 1) := by decide +kernel
theorem dX11_nameKey_62 : decode cX11_nameKey 62 = .ok (.lreturn, 1) := by decide +kernel
theorem dX11_check_0 : decode cX11_check 0 = .ok (.ldc 234, 2) := by decide +kernel
theorem dX11_check_2 : decode cX11_check 2 = .ok (.istore_n 2, 1) := by decide +kernel
theorem dX11_check_3 : decode cX11_check 3 = .ok (.iconst 0, 1) := by decide +kernel
theorem dX11_check_4 : decode cX11_check 4 = .ok (.istore_n 3, 1) := by decide +kernel
theorem dX11_check_5 : decode cX11_check 5 = .ok (.iload_n 3, 1) := by decide +kernel
theorem dX11_check_6 : decode cX11_check 6 = .ok (.iload_n 1, 1) := by decide +kernel
theorem dX11_check_7 : decode cX11_check 7 = .ok (.if_icmp .ge 56, 3) := by decide +kernel
theorem dX11_check_10 : decode cX11_check 10 = .ok (.iload_n 3, 1) := by decide +kernel
theorem dX11_check_11 : decode cX11_check 11 = .ok (.aload_n 0, 1) := by decide +kernel
theorem dX11_check_12 : decode cX11_check 12 = .ok (.arraylength, 1) := by decide +kernel
theorem dX11_check_13 : decode cX11_check 13 = .ok (.if_icmp .ge 50, 3) := by decide +kernel
theorem dX11_check_16 : decode cX11_check 16 = .ok (.iload_n 2, 1) := by decide +kernel
theorem dX11_check_17 : decode cX11_check 17 = .ok (.aload_n 0, 1) := by decide +kernel
theorem dX11_check_18 : decode cX11_check 18 = .ok (.iload_n 3, 1) := by decide +kernel
theorem dX11_check_19 : decode cX11_check 19 = .ok (.iaload, 1) := by decide +kernel
theorem dX11_check_20 : decode cX11_check 20 = .ok (.ixor, 1) := by decide +kernel
theorem dX11_check_21 : decode cX11_check 21 = .ok (.istore_n 2, 1) := by decide +kernel
theorem dX11_check_22 : decode cX11_check 22 = .ok (.iconst 0, 1) := by decide +kernel
theorem dX11_check_23 : decode cX11_check 23 = .ok (.istore 4, 2) := by decide +kernel
theorem dX11_check_25 : decode cX11_check 25 = .ok (.iload 4, 2) := by decide +kernel
theorem dX11_check_27 : decode cX11_check 27 = .ok (.bipush 8, 2) := by decide +kernel
theorem dX11_check_29 : decode cX11_check 29 = .ok (.if_icmp .ge 28, 3) := by decide +kernel
theorem dX11_check_32 : decode cX11_check 32 = .ok (.iload_n 2, 1) := by decide +kernel
theorem dX11_check_33 : decode cX11_check 33 = .ok (.iconst 1, 1) := by decide +kernel
theorem dX11_check_34 : decode cX11_check 34 = .ok (.iand, 1) := by decide +kernel
theorem dX11_check_35 : decode cX11_check 35 = .ok (.ifCond .ne 9, 3) := by decide +kernel
theorem dX11_check_38 : decode cX11_check 38 = .ok (.iload_n 2, 1) := by decide +kernel
theorem dX11_check_39 : decode cX11_check 39 = .ok (.iconst 1, 1) := by decide +kernel
theorem dX11_check_40 : decode cX11_check 40 = .ok (.iushr, 1) := by decide +kernel
theorem dX11_check_41 : decode cX11_check 41 = .ok (.goto 9, 3) := by decide +kernel
theorem dX11_check_44 : decode cX11_check 44 = .ok (.iload_n 2, 1) := by decide +kernel
theorem dX11_check_45 : decode cX11_check 45 = .ok (.iconst 1, 1) := by decide +kernel
theorem dX11_check_46 : decode cX11_check 46 = .ok (.iushr, 1) := by decide +kernel
theorem dX11_check_47 : decode cX11_check 47 = .ok (.ldc 235, 2) := by decide +kernel
theorem dX11_check_49 : decode cX11_check 49 = .ok (.ixor, 1) := by decide +kernel
theorem dX11_check_50 : decode cX11_check 50 = .ok (.istore_n 2, 1) := by decide +kernel
theorem dX11_check_51 : decode cX11_check 51 = .ok (.iinc 4 1, 3) := by decide +kernel
theorem dX11_check_54 : decode cX11_check 54 = .ok (.goto (-29), 3) := by decide +kernel
theorem dX11_check_57 : decode cX11_check 57 = .ok (.iinc 3 1, 3) := by decide +kernel
theorem dX11_check_60 : decode cX11_check 60 = .ok (.goto (-55), 3) := by decide +kernel
theorem dX11_check_63 : decode cX11_check 63 = .ok (.ldc 234, 2) := by decide +kernel
theorem dX11_check_65 : decode cX11_check 65 = .ok (.iload_n 2, 1) := by decide +kernel
theorem dX11_check_66 : decode cX11_check 66 = .ok (.isub, 1) := by decide +kernel
theorem dX11_check_67 : decode cX11_check 67 = .ok (.ireturn, 1) := by decide +kernel
