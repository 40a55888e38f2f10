theorem dX0_init_0 : decode cX0_init 0 = .ok (.aload_n 0, 1) := by decide +kernel
theorem dX0_init_1 : decode cX0_init 1 = .ok (.invokespecial 3, 3) := by decide +kernel
theorem dX0_init_4 : decode cX0_init 4 = .ok (.aload_n 0, 1) := by decide +kernel
theorem dX0_init_5 : decode cX0_init 5 = .ok (.sipush 4000, 3) := by decide +kernel
theorem dX0_init_8 : decode cX0_init 8 = .ok (.newarray .int, 2) := by decide +kernel
theorem dX0_init_10 : decode cX0_init 10 = .ok (.putfield 9, 3) := by decide +kernel
theorem dX0_init_13 : decode cX0_init 13 = .ok (.aload_n 0, 1) := by decide +kernel
theorem dX0_init_14 : decode cX0_init 14 = .ok (.bipush 74, 2) := by decide +kernel
theorem dX0_init_16 : decode cX0_init 16 = .ok (.newarray .int, 2) := by decide +kernel
theorem dX0_init_18 : decode cX0_init 18 = .ok (.putfield 15, 3) := by decide +kernel
theorem dX0_init_21 : decode cX0_init 21 = .ok (.return_, 1) := by decide +kernel
theorem dX0_begins_0 : decode cX0_begins 0 = .ok (.aload_n 0, 1) := by decide +kernel
theorem dX0_begins_1 : decode cX0_begins 1 = .ok (.iconst 0, 1) := by decide +kernel
theorem dX0_begins_2 : decode cX0_begins 2 = .ok (.putfield 18, 3) := by decide +kernel
theorem dX0_begins_5 : decode cX0_begins 5 = .ok (.aload_n 0, 1) := by decide +kernel
theorem dX0_begins_6 : decode cX0_begins 6 = .ok (.iload_n 1, 1) := by decide +kernel
theorem dX0_begins_7 : decode cX0_begins 7 = .ok (.invokevirtual 22, 3) := by decide +kernel
theorem dX0_begins_10 : decode cX0_begins 10 = .ok (.aload_n 0, 1) := by decide +kernel
theorem dX0_begins_11 : decode cX0_begins 11 = .ok (.iload_n 2, 1) := by decide +kernel
theorem dX0_begins_12 : decode cX0_begins 12 = .ok (.invokevirtual 22, 3) := by decide +kernel
theorem dX0_begins_15 : decode cX0_begins 15 = .ok (.return_, 1) := by decide +kernel
theorem dX0_adds_0 : decode cX0_adds 0 = .ok (.aload_n 0, 1) := by decide +kernel
theorem dX0_adds_1 : decode cX0_adds 1 = .ok (.getfield 18, 3) := by decide +kernel
theorem dX0_adds_4 : decode cX0_adds 4 = .ok (.bipush 72, 2) := by decide +kernel
theorem dX0_adds_6 : decode cX0_adds 6 = .ok (.if_icmp .ge 27, 3) := by decide +kernel
theorem dX0_adds_9 : decode cX0_adds 9 = .ok (.aload_n 0, 1) := by decide +kernel
theorem dX0_adds_10 : decode cX0_adds 10 = .ok (.getfield 15, 3) := by decide +kernel
theorem dX0_adds_13 : decode cX0_adds 13 = .ok (.aload_n 0, 1) := by decide +kernel
theorem dX0_adds_14 : decode cX0_adds 14 = .ok (.getfield 18, 3) := by decide +kernel
theorem dX0_adds_17 : decode cX0_adds 17 = .ok (.iload_n 1, 1) := by decide +kernel
theorem dX0_adds_18 : decode cX0_adds 18 = .ok (.sipush 255, 3) := by decide +kernel
theorem dX0_adds_21 : decode cX0_adds 21 = .ok (.iand, 1) := by decide +kernel
theorem dX0_adds_22 : decode cX0_adds 22 = .ok (.iastore, 1) := by decide +kernel
theorem dX0_adds_23 : decode cX0_adds 23 = .ok (.aload_n 0, 1) := by decide +kernel
theorem dX0_adds_24 : decode cX0_adds 24 = .ok (.dup, 1) := by decide +kernel
theorem dX0_adds_25 : decode cX0_adds 25 = .ok (.getfield 18, 3) := by decide +kernel
theorem dX0_adds_28 : decode cX0_adds 28 = .ok (.iconst 1, 1) := by decide +kernel
theorem dX0_adds_29 : decode cX0_adds 29 = .ok (.iadd, 1) := by decide +kernel
theorem dX0_adds_30 : decode cX0_adds 30 = .ok (.putfield 18, 3) := by decide +kernel
theorem dX0_adds_33 : decode cX0_adds 33 = .ok (.return_, 1) := by decide +kernel
theorem dX0_addsAddress_0 : decode cX0_addsAddress 0 = .ok (.iconst 0, 1) := by decide +kernel
theorem dX0_addsAddress_1 : decode cX0_addsAddress 1 = .ok (.istore_n 2, 1) := by decide +kernel
theorem dX0_addsAddress_2 : decode cX0_addsAddress 2 = .ok (.iload_n 2, 1) := by decide +kernel
theorem dX0_addsAddress_3 : decode cX0_addsAddress 3 = .ok (.bipush 32, 2) := by decide +kernel
theorem dX0_addsAddress_5 : decode cX0_addsAddress 5 = .ok (.if_icmp .ge 16, 3) := by decide +kernel
theorem dX0_addsAddress_8 : decode cX0_addsAddress 8 = .ok (.aload_n 0, 1) := by decide +kernel
theorem dX0_addsAddress_9 : decode cX0_addsAddress 9 = .ok (.iload_n 1, 1) := by decide +kernel
theorem dX0_addsAddress_10 : decode cX0_addsAddress 10 = .ok (.iload_n 2, 1) := by decide +kernel
theorem dX0_addsAddress_11 : decode cX0_addsAddress 11 = .ok (.iushr, 1) := by decide +kernel
theorem dX0_addsAddress_12 : decode cX0_addsAddress 12 = .ok (.invokevirtual 22, 3) := by decide +kernel
theorem dX0_addsAddress_15 : decode cX0_addsAddress 15 = .ok (.iinc 2 8, 3) := by decide +kernel
theorem dX0_addsAddress_18 : decode cX0_addsAddress 18 = .ok (.goto (-16), 3) := by decide +kernel
theorem dX0_addsAddress_21 : decode cX0_addsAddress 21 = .ok (.return_, 1) := by decide +kernel
theorem dX0_closes_0 : decode cX0_closes 0 = .ok (.aload_n 0, 1) := by decide +kernel
theorem dX0_closes_1 : decode cX0_closes 1 = .ok (.getfield 15, 3) := by decide +kernel
theorem dX0_closes_4 : decode cX0_closes 4 = .ok (.aload_n 0, 1) := by decide +kernel
theorem dX0_closes_5 : decode cX0_closes 5 = .ok (.getfield 18, 3) := by decide +kernel
theorem dX0_closes_8 : decode cX0_closes 8 = .ok (.invokestatic 26, 3) := by decide +kernel
theorem dX0_closes_11 : decode cX0_closes 11 = .ok (.istore_n 1, 1) := by decide +kernel
theorem dX0_closes_12 : decode cX0_closes 12 = .ok (.aload_n 0, 1) := by decide +kernel
theorem dX0_closes_13 : decode cX0_closes 13 = .ok (.getfield 18, 3) := by decide +kernel
theorem dX0_closes_16 : decode cX0_closes 16 = .ok (.iconst 2, 1) := by decide +kernel
theorem dX0_closes_17 : decode cX0_closes 17 = .ok (.iadd, 1) := by decide +kernel
theorem dX0_closes_18 : decode cX0_closes 18 = .ok (.istore_n 2, 1) := by decide +kernel
theorem dX0_closes_19 : decode cX0_closes 19 = .ok (.iload_n 2, 1) := by decide +kernel
theorem dX0_closes_20 : decode cX0_closes 20 = .ok (.bipush 74, 2) := by decide +kernel
theorem dX0_closes_22 : decode cX0_closes 22 = .ok (.if_icmp .le 4, 3) := by decide +kernel
theorem dX0_closes_25 : decode cX0_closes 25 = .ok (.return_, 1) := by decide +kernel
theorem dX0_closes_26 : decode cX0_closes 26 = .ok (.aload_n 0, 1) := by decide +kernel
theorem dX0_closes_27 : decode cX0_closes 27 = .ok (.getfield 15, 3) := by decide +kernel
theorem dX0_closes_30 : decode cX0_closes 30 = .ok (.aload_n 0, 1) := by decide +kernel
theorem dX0_closes_31 : decode cX0_closes 31 = .ok (.getfield 18, 3) := by decide +kernel
theorem dX0_closes_34 : decode cX0_closes 34 = .ok (.iload_n 1, 1) := by decide +kernel
theorem dX0_closes_35 : decode cX0_closes 35 = .ok (.sipush 255, 3) := by decide +kernel
theorem dX0_closes_38 : decode cX0_closes 38 = .ok (.iand, 1) := by decide +kernel
theorem dX0_closes_39 : decode cX0_closes 39 = .ok (.iastore, 1) := by decide +kernel
theorem dX0_closes_40 : decode cX0_closes 40 = .ok (.aload_n 0, 1) := by decide +kernel
theorem dX0_closes_41 : decode cX0_closes 41 = .ok (.getfield 15, 3) := by decide +kernel
theorem dX0_closes_44 : decode cX0_closes 44 = .ok (.aload_n 0, 1) := by decide +kernel
theorem dX0_closes_45 : decode cX0_closes 45 = .ok (.getfield 18, 3) := by decide +kernel
theorem dX0_closes_48 : decode cX0_closes 48 = .ok (.iconst 1, 1) := by decide +kernel
theorem dX0_closes_49 : decode cX0_closes 49 = .ok (.iadd, 1) := by decide +kernel
theorem dX0_closes_50 : decode cX0_closes 50 = .ok (.iload_n 1, 1) := by decide +kernel
theorem dX0_closes_51 : decode cX0_closes 51 = .ok (.bipush 8, 2) := by decide +kernel
theorem dX0_closes_53 : decode cX0_closes 53 = .ok (.iushr, 1) := by decide +kernel
theorem dX0_closes_54 : decode cX0_closes 54 = .ok (.iastore, 1) := by decide +kernel
theorem dX0_closes_55 : decode cX0_closes 55 = .ok (.aload_n 0, 1) := by decide +kernel
theorem dX0_closes_56 : decode cX0_closes 56 = .ok (.getfield 30, 3) := by decide +kernel
theorem dX0_closes_59 : decode cX0_closes 59 = .ok (.aload_n 0, 1) := by decide +kernel
theorem dX0_closes_60 : decode cX0_closes 60 = .ok (.iload_n 2, 1) := by decide +kernel
theorem dX0_closes_61 : decode cX0_closes 61 = .ok (.invokevirtual 33, 3) := by decide +kernel
theorem dX0_closes_64 : decode cX0_closes 64 = .ok (.iadd, 1) := by decide +kernel
theorem dX0_closes_65 : decode cX0_closes 65 = .ok (.sipush 4000, 3) := by decide +kernel
theorem dX0_closes_68 : decode cX0_closes 68 = .ok (.if_icmp .le 4, 3) := by decide +kernel
theorem dX0_closes_71 : decode cX0_closes 71 = .ok (.return_, 1) := by decide +kernel
theorem dX0_closes_72 : decode cX0_closes 72 = .ok (.aload_n 0, 1) := by decide +kernel
theorem dX0_closes_73 : decode cX0_closes 73 = .ok (.sipush 192, 3) := by decide +kernel
theorem dX0_closes_76 : decode cX0_closes 76 = .ok (.invokevirtual 37, 3) := by decide +kernel
theorem dX0_closes_79 : decode cX0_closes 79 = .ok (.iconst 0, 1) := by decide +kernel
theorem dX0_closes_80 : decode cX0_closes 80 = .ok (.istore_n 3, 1) := by decide +kernel
theorem dX0_closes_81 : decode cX0_closes 81 = .ok (.iload_n 3, 1) := by decide +kernel
theorem dX0_closes_82 : decode cX0_closes 82 = .ok (.iload_n 2, 1) := by decide +kernel
theorem dX0_closes_83 : decode cX0_closes 83 = .ok (.if_icmp .ge 53, 3) := by decide +kernel
theorem dX0_closes_86 : decode cX0_closes 86 = .ok (.aload_n 0, 1) := by decide +kernel
theorem dX0_closes_87 : decode cX0_closes 87 = .ok (.getfield 15, 3) := by decide +kernel
theorem dX0_closes_90 : decode cX0_closes 90 = .ok (.iload_n 3, 1) := by decide +kernel
theorem dX0_closes_91 : decode cX0_closes 91 = .ok (.iaload, 1) := by decide +kernel
theorem dX0_closes_92 : decode cX0_closes 92 = .ok (.invokestatic 40, 3) := by decide +kernel
theorem dX0_closes_95 : decode cX0_closes 95 = .ok (.ifCond .eq 25, 3) := by decide +kernel
theorem dX0_closes_98 : decode cX0_closes 98 = .ok (.aload_n 0, 1) := by decide +kernel
theorem dX0_closes_99 : decode cX0_closes 99 = .ok (.bipush 125, 2) := by decide +kernel
theorem dX0_closes_101 : decode cX0_closes 101 = .ok (.invokevirtual 37, 3) := by decide +kernel
theorem dX0_closes_104 : decode cX0_closes 104 = .ok (.aload_n 0, 1) := by decide +kernel
theorem dX0_closes_105 : decode cX0_closes 105 = .ok (.aload_n 0, 1) := by decide +kernel
theorem dX0_closes_106 : decode cX0_closes 106 = .ok (.getfield 15, 3) := by decide +kernel
theorem dX0_closes_109 : decode cX0_closes 109 = .ok (.iload_n 3, 1) := by decide +kernel
theorem dX0_closes_110 : decode cX0_closes 110 = .ok (.iaload, 1) := by decide +kernel
theorem dX0_closes_111 : decode cX0_closes 111 = .ok (.bipush 32, 2) := by decide +kernel
theorem dX0_closes_113 : decode cX0_closes 113 = .ok (.ixor, 1) := by decide +kernel
theorem dX0_closes_114 : decode cX0_closes 114 = .ok (.invokevirtual 37, 3) := by decide +kernel
theorem dX0_closes_117 : decode cX0_closes 117 = .ok (.goto 13, 3) := by decide +kernel
theorem dX0_closes_120 : decode cX0_closes 120 = .ok (.aload_n 0, 1) := by decide +kernel
theorem dX0_closes_121 : decode cX0_closes 121 = .ok (.aload_n 0, 1) := by decide +kernel
theorem dX0_closes_122 : decode cX0_closes 122 = .ok (.getfield 15, 3) := by decide +kernel
theorem dX0_closes_125 : decode cX0_closes 125 = .ok (.iload_n 3, 1) := by decide +kernel
theorem dX0_closes_126 : decode cX0_closes 126 = .ok (.iaload, 1) := by decide +kernel
theorem dX0_closes_127 : decode cX0_closes 127 = .ok (.invokevirtual 37, 3) := by decide +kernel
theorem dX0_closes_130 : decode cX0_closes 130 = .ok (.iinc 3 1, 3) := by decide +kernel
theorem dX0_closes_133 : decode cX0_closes 133 = .ok (.goto (-52), 3) := by decide +kernel
theorem dX0_closes_136 : decode cX0_closes 136 = .ok (.aload_n 0, 1) := by decide +kernel
theorem dX0_closes_137 : decode cX0_closes 137 = .ok (.sipush 193, 3) := by decide +kernel
theorem dX0_closes_140 : decode cX0_closes 140 = .ok (.invokevirtual 37, 3) := by decide +kernel
theorem dX0_closes_143 : decode cX0_closes 143 = .ok (.return_, 1) := by decide +kernel
theorem dX0_movesTo_0 : decode cX0_movesTo 0 = .ok (.aload_n 0, 1) := by decide +kernel
theorem dX0_movesTo_1 : decode cX0_movesTo 1 = .ok (.getfield 30, 3) := by decide +kernel
theorem dX0_movesTo_4 : decode cX0_movesTo 4 = .ok (.aload_n 1, 1) := by decide +kernel
theorem dX0_movesTo_5 : decode cX0_movesTo 5 = .ok (.arraylength, 1) := by decide +kernel
theorem dX0_movesTo_6 : decode cX0_movesTo 6 = .ok (.invokestatic 44, 3) := by decide +kernel
theorem dX0_movesTo_9 : decode cX0_movesTo 9 = .ok (.istore_n 2, 1) := by decide +kernel
theorem dX0_movesTo_10 : decode cX0_movesTo 10 = .ok (.iconst 0, 1) := by decide +kernel
theorem dX0_movesTo_11 : decode cX0_movesTo 11 = .ok (.istore_n 3, 1) := by decide +kernel
theorem dX0_movesTo_12 : decode cX0_movesTo 12 = .ok (.iload_n 3, 1) := by decide +kernel
theorem dX0_movesTo_13 : decode cX0_movesTo 13 = .ok (.iload_n 2, 1) := by decide +kernel
theorem dX0_movesTo_14 : decode cX0_movesTo 14 = .ok (.if_icmp .ge 18, 3) := by decide +kernel
theorem dX0_movesTo_17 : decode cX0_movesTo 17 = .ok (.aload_n 1, 1) := by decide +kernel
theorem dX0_movesTo_18 : decode cX0_movesTo 18 = .ok (.iload_n 3, 1) := by decide +kernel
theorem dX0_movesTo_19 : decode cX0_movesTo 19 = .ok (.aload_n 0, 1) := by decide +kernel
theorem dX0_movesTo_20 : decode cX0_movesTo 20 = .ok (.getfield 9, 3) := by decide +kernel
theorem dX0_movesTo_23 : decode cX0_movesTo 23 = .ok (.iload_n 3, 1) := by decide +kernel
theorem dX0_movesTo_24 : decode cX0_movesTo 24 = .ok (.iaload, 1) := by decide +kernel
theorem dX0_movesTo_25 : decode cX0_movesTo 25 = .ok (.iastore, 1) := by decide +kernel
theorem dX0_movesTo_26 : decode cX0_movesTo 26 = .ok (.iinc 3 1, 3) := by decide +kernel
theorem dX0_movesTo_29 : decode cX0_movesTo 29 = .ok (.goto (-17), 3) := by decide +kernel
theorem dX0_movesTo_32 : decode cX0_movesTo 32 = .ok (.iload_n 2, 1) := by decide +kernel
theorem dX0_movesTo_33 : decode cX0_movesTo 33 = .ok (.istore_n 3, 1) := by decide +kernel
theorem dX0_movesTo_34 : decode cX0_movesTo 34 = .ok (.iload_n 3, 1) := by decide +kernel
theorem dX0_movesTo_35 : decode cX0_movesTo 35 = .ok (.aload_n 0, 1) := by decide +kernel
theorem dX0_movesTo_36 : decode cX0_movesTo 36 = .ok (.getfield 30, 3) := by decide +kernel
theorem dX0_movesTo_39 : decode cX0_movesTo 39 = .ok (.if_icmp .ge 23, 3) := by decide +kernel
theorem dX0_movesTo_42 : decode cX0_movesTo 42 = .ok (.aload_n 0, 1) := by decide +kernel
theorem dX0_movesTo_43 : decode cX0_movesTo 43 = .ok (.getfield 9, 3) := by decide +kernel
theorem dX0_movesTo_46 : decode cX0_movesTo 46 = .ok (.iload_n 3, 1) := by decide +kernel
theorem dX0_movesTo_47 : decode cX0_movesTo 47 = .ok (.iload_n 2, 1) := by decide +kernel
theorem dX0_movesTo_48 : decode cX0_movesTo 48 = .ok (.isub, 1) := by decide +kernel
theorem dX0_movesTo_49 : decode cX0_movesTo 49 = .ok (.aload_n 0, 1) := by decide +kernel
theorem dX0_movesTo_50 : decode cX0_movesTo 50 = .ok (.getfield 9, 3) := by decide +kernel
theorem dX0_movesTo_53 : decode cX0_movesTo 53 = .ok (.iload_n 3, 1) := by decide +kernel
theorem dX0_movesTo_54 : decode cX0_movesTo 54 = .ok (.iaload, 1) := by decide +kernel
theorem dX0_movesTo_55 : decode cX0_movesTo 55 = .ok (.iastore, 1) := by decide +kernel
theorem dX0_movesTo_56 : decode cX0_movesTo 56 = .ok (.iinc 3 1, 3) := by decide +kernel
theorem dX0_movesTo_59 : decode cX0_movesTo 59 = .ok (.goto (-25), 3) := by decide +kernel
theorem dX0_movesTo_62 : decode cX0_movesTo 62 = .ok (.aload_n 0, 1) := by decide +kernel
theorem dX0_movesTo_63 : decode cX0_movesTo 63 = .ok (.dup, 1) := by decide +kernel
theorem dX0_movesTo_64 : decode cX0_movesTo 64 = .ok (.getfield 30, 3) := by decide +kernel
theorem dX0_movesTo_67 : decode cX0_movesTo 67 = .ok (.iload_n 2, 1) := by decide +kernel
theorem dX0_movesTo_68 : decode cX0_movesTo 68 = .ok (.isub, 1) := by decide +kernel
theorem dX0_movesTo_69 : decode cX0_movesTo 69 = .ok (.putfield 30, 3) := by decide +kernel
theorem dX0_movesTo_72 : decode cX0_movesTo 72 = .ok (.iload_n 2, 1) := by decide +kernel
theorem dX0_movesTo_73 : decode cX0_movesTo 73 = .ok (.ireturn, 1) := by decide +kernel
theorem dX0_wrappedLength_0 : decode cX0_wrappedLength 0 = .ok (.iconst 2, 1) := by decide +kernel
theorem dX0_wrappedLength_1 : decode cX0_wrappedLength 1 = .ok (.istore_n 2, 1) := by decide +kernel
theorem dX0_wrappedLength_2 : decode cX0_wrappedLength 2 = .ok (.iconst 0, 1) := by decide +kernel
theorem dX0_wrappedLength_3 : decode cX0_wrappedLength 3 = .ok (.istore_n 3, 1) := by decide +kernel
theorem dX0_wrappedLength_4 : decode cX0_wrappedLength 4 = .ok (.iload_n 3, 1) := by decide +kernel
theorem dX0_wrappedLength_5 : decode cX0_wrappedLength 5 = .ok (.iload_n 1, 1) := by decide +kernel
theorem dX0_wrappedLength_6 : decode cX0_wrappedLength 6 = .ok (.if_icmp .ge 29, 3) := by decide +kernel
theorem dX0_wrappedLength_9 : decode cX0_wrappedLength 9 = .ok (.iload_n 2, 1) := by decide +kernel
theorem dX0_wrappedLength_10 : decode cX0_wrappedLength 10 = .ok (.aload_n 0, 1) := by decide +kernel
theorem dX0_wrappedLength_11 : decode cX0_wrappedLength 11 = .ok (.getfield 15, 3) := by decide +kernel
theorem dX0_wrappedLength_14 : decode cX0_wrappedLength 14 = .ok (.iload_n 3, 1) := by decide +kernel
theorem dX0_wrappedLength_15 : decode cX0_wrappedLength 15 = .ok (.iaload, 1) := by decide +kernel
theorem dX0_wrappedLength_16 : decode cX0_wrappedLength 16 = .ok (.invokestatic 40, 3) := by decide +kernel
theorem dX0_wrappedLength_19 : decode cX0_wrappedLength 19 = .ok (.ifCond .eq 7, 3) := by decide +kernel
theorem dX0_wrappedLength_22 : decode cX0_wrappedLength 22 = .ok (.iconst 2, 1) := by decide +kernel
theorem dX0_wrappedLength_23 : decode cX0_wrappedLength 23 = .ok (.goto 4, 3) := by decide +kernel
theorem dX0_wrappedLength_26 : decode cX0_wrappedLength 26 = .ok (.iconst 1, 1) := by decide +kernel
theorem dX0_wrappedLength_27 : decode cX0_wrappedLength 27 = .ok (.iadd, 1) := by decide +kernel
theorem dX0_wrappedLength_28 : decode cX0_wrappedLength 28 = .ok (.istore_n 2, 1) := by decide +kernel
theorem dX0_wrappedLength_29 : decode cX0_wrappedLength 29 = .ok (.iinc 3 1, 3) := by decide +kernel
theorem dX0_wrappedLength_32 : decode cX0_wrappedLength 32 = .ok (.goto (-28), 3) := by decide +kernel
theorem dX0_wrappedLength_35 : decode cX0_wrappedLength 35 = .ok (.iload_n 2, 1) := by decide +kernel
theorem dX0_wrappedLength_36 : decode cX0_wrappedLength 36 = .ok (.ireturn, 1) := by decide +kernel
theorem dX0_puts_0 : decode cX0_puts 0 = .ok (.aload_n 0, 1) := by decide +kernel
theorem dX0_puts_1 : decode cX0_puts 1 = .ok (.getfield 30, 3) := by decide +kernel
theorem dX0_puts_4 : decode cX0_puts 4 = .ok (.sipush 4000, 3) := by decide +kernel
theorem dX0_puts_7 : decode cX0_puts 7 = .ok (.if_icmp .ge 23, 3) := by decide +kernel
theorem dX0_puts_10 : decode cX0_puts 10 = .ok (.aload_n 0, 1) := by decide +kernel
theorem dX0_puts_11 : decode cX0_puts 11 = .ok (.getfield 9, 3) := by decide +kernel
theorem dX0_puts_14 : decode cX0_puts 14 = .ok (.aload_n 0, 1) := by decide +kernel
theorem dX0_puts_15 : decode cX0_puts 15 = .ok (.getfield 30, 3) := by decide +kernel
theorem dX0_puts_18 : decode cX0_puts 18 = .ok (.iload_n 1, 1) := by decide +kernel
theorem dX0_puts_19 : decode cX0_puts 19 = .ok (.iastore, 1) := by decide +kernel
theorem dX0_puts_20 : decode cX0_puts 20 = .ok (.aload_n 0, 1) := by decide +kernel
theorem dX0_puts_21 : decode cX0_puts 21 = .ok (.dup, 1) := by decide +kernel
theorem dX0_puts_22 : decode cX0_puts 22 = .ok (.getfield 30, 3) := by decide +kernel
theorem dX0_puts_25 : decode cX0_puts 25 = .ok (.iconst 1, 1) := by decide +kernel
theorem dX0_puts_26 : decode cX0_puts 26 = .ok (.iadd, 1) := by decide +kernel
theorem dX0_puts_27 : decode cX0_puts 27 = .ok (.putfield 30, 3) := by decide +kernel
theorem dX0_puts_30 : decode cX0_puts 30 = .ok (.return_, 1) := by decide +kernel
theorem dX0_isSpecial_0 : decode cX0_isSpecial 0 = .ok (.iload_n 0, 1) := by decide +kernel
theorem dX0_isSpecial_1 : decode cX0_isSpecial 1 = .ok (.sipush 192, 3) := by decide +kernel
theorem dX0_isSpecial_4 : decode cX0_isSpecial 4 = .ok (.if_icmp .eq 16, 3) := by decide +kernel
theorem dX0_isSpecial_7 : decode cX0_isSpecial 7 = .ok (.iload_n 0, 1) := by decide +kernel
theorem dX0_isSpecial_8 : decode cX0_isSpecial 8 = .ok (.sipush 193, 3) := by decide +kernel
theorem dX0_isSpecial_11 : decode cX0_isSpecial 11 = .ok (.if_icmp .eq 9, 3) := by decide +kernel
theorem dX0_isSpecial_14 : decode cX0_isSpecial 14 = .ok (.iload_n 0, 1) := by decide +kernel
theorem dX0_isSpecial_15 : decode cX0_isSpecial 15 = .ok (.bipush 125, 2) := by decide +kernel
theorem dX0_isSpecial_17 : decode cX0_isSpecial 17 = .ok (.if_icmp .ne 7, 3) := by decide +kernel
theorem dX0_isSpecial_20 : decode cX0_isSpecial 20 = .ok (.iconst 1, 1) := by decide +kernel
theorem dX0_isSpecial_21 : decode cX0_isSpecial 21 = .ok (.goto 4, 3) := by decide +kernel
theorem dX0_isSpecial_24 : decode cX0_isSpecial 24 = .ok (.iconst 0, 1) := by decide +kernel
theorem dX0_isSpecial_25 : decode cX0_isSpecial 25 = .ok (.ireturn, 1) := by decide +kernel
theorem dX1_init_0 : decode cX1_init 0 = .ok (.aload_n 0, 1) := by decide +kernel
theorem dX1_init_1 : decode cX1_init 1 = .ok (.invokespecial 3, 3) := by decide +kernel
theorem dX1_init_4 : decode cX1_init 4 = .ok (.aload_n 0, 1) := by decide +kernel
theorem dX1_init_5 : decode cX1_init 5 = .ok (.new 9, 3) := by decide +kernel
theorem dX1_init_8 : decode cX1_init 8 = .ok (.dup, 1) := by decide +kernel
theorem dX1_init_9 : decode cX1_init 9 = .ok (.invokespecial 11, 3) := by decide +kernel
theorem dX1_init_12 : decode cX1_init 12 = .ok (.putfield 12, 3) := by decide +kernel
theorem dX1_init_15 : decode cX1_init 15 = .ok (.aload_n 0, 1) := by decide +kernel
theorem dX1_init_16 : decode cX1_init 16 = .ok (.new 18, 3) := by decide +kernel
theorem dX1_init_19 : decode cX1_init 19 = .ok (.dup, 1) := by decide +kernel
theorem dX1_init_20 : decode cX1_init 20 = .ok (.invokespecial 20, 3) := by decide +kernel
theorem dX1_init_23 : decode cX1_init 23 = .ok (.putfield 21, 3) := by decide +kernel
theorem dX1_init_26 : decode cX1_init 26 = .ok (.aload_n 0, 1) := by decide +kernel
theorem dX1_init_27 : decode cX1_init 27 = .ok (.new 25, 3) := by decide +kernel
theorem dX1_init_30 : decode cX1_init 30 = .ok (.dup, 1) := by decide +kernel
theorem dX1_init_31 : decode cX1_init 31 = .ok (.invokespecial 27, 3) := by decide +kernel
theorem dX1_init_34 : decode cX1_init 34 = .ok (.putfield 28, 3) := by decide +kernel
theorem dX1_init_37 : decode cX1_init 37 = .ok (.aload_n 0, 1) := by decide +kernel
theorem dX1_init_38 : decode cX1_init 38 = .ok (.new 32, 3) := by decide +kernel
theorem dX1_init_41 : decode cX1_init 41 = .ok (.dup, 1) := by decide +kernel
theorem dX1_init_42 : decode cX1_init 42 = .ok (.invokespecial 34, 3) := by decide +kernel
theorem dX1_init_45 : decode cX1_init 45 = .ok (.putfield 35, 3) := by decide +kernel
theorem dX1_init_48 : decode cX1_init 48 = .ok (.aload_n 0, 1) := by decide +kernel
theorem dX1_init_49 : decode cX1_init 49 = .ok (.new 39, 3) := by decide +kernel
theorem dX1_init_52 : decode cX1_init 52 = .ok (.dup, 1) := by decide +kernel
theorem dX1_init_53 : decode cX1_init 53 = .ok (.invokespecial 41, 3) := by decide +kernel
theorem dX1_init_56 : decode cX1_init 56 = .ok (.putfield 42, 3) := by decide +kernel
theorem dX1_init_59 : decode cX1_init 59 = .ok (.aload_n 0, 1) := by decide +kernel
theorem dX1_init_60 : decode cX1_init 60 = .ok (.new 46, 3) := by decide +kernel
theorem dX1_init_63 : decode cX1_init 63 = .ok (.dup, 1) := by decide +kernel
theorem dX1_init_64 : decode cX1_init 64 = .ok (.invokespecial 48, 3) := by decide +kernel
theorem dX1_init_67 : decode cX1_init 67 = .ok (.putfield 49, 3) := by decide +kernel
theorem dX1_init_70 : decode cX1_init 70 = .ok (.aload_n 0, 1) := by decide +kernel
theorem dX1_init_71 : decode cX1_init 71 = .ok (.iload_n 1, 1) := by decide +kernel
theorem dX1_init_72 : decode cX1_init 72 = .ok (.putfield 53, 3) := by decide +kernel
theorem dX1_init_75 : decode cX1_init 75 = .ok (.aload_n 0, 1) := by decide +kernel
theorem dX1_init_76 : decode cX1_init 76 = .ok (.iload_n 2, 1) := by decide +kernel
theorem dX1_init_77 : decode cX1_init 77 = .ok (.putfield 57, 3) := by decide +kernel
theorem dX1_init_80 : decode cX1_init 80 = .ok (.return_, 1) := by decide +kernel
theorem dX1_isLinked_0 : decode cX1_isLinked 0 = .ok (.aload_n 0, 1) := by decide +kernel
theorem dX1_isLinked_1 : decode cX1_isLinked 1 = .ok (.getfield 60, 3) := by decide +kernel
theorem dX1_isLinked_4 : decode cX1_isLinked 4 = .ok (.iconst 3, 1) := by decide +kernel
theorem dX1_isLinked_5 : decode cX1_isLinked 5 = .ok (.if_icmp .eq 11, 3) := by decide +kernel
theorem dX1_isLinked_8 : decode cX1_isLinked 8 = .ok (.aload_n 0, 1) := by decide +kernel
theorem dX1_isLinked_9 : decode cX1_isLinked 9 = .ok (.getfield 60, 3) := by decide +kernel
theorem dX1_isLinked_12 : decode cX1_isLinked 12 = .ok (.iconst 4, 1) := by decide +kernel
theorem dX1_isLinked_13 : decode cX1_isLinked 13 = .ok (.if_icmp .ne 7, 3) := by decide +kernel
theorem dX1_isLinked_16 : decode cX1_isLinked 16 = .ok (.iconst 1, 1) := by decide +kernel
theorem dX1_isLinked_17 : decode cX1_isLinked 17 = .ok (.goto 4, 3) := by decide +kernel
theorem dX1_isLinked_20 : decode cX1_isLinked 20 = .ok (.iconst 0, 1) := by decide +kernel
theorem dX1_isLinked_21 : decode cX1_isLinked 21 = .ok (.ireturn, 1) := by decide +kernel
theorem dX1_mayAsk_0 : decode cX1_mayAsk 0 = .ok (.aload_n 0, 1) := by decide +kernel
theorem dX1_mayAsk_1 : decode cX1_mayAsk 1 = .ok (.invokevirtual 63, 3) := by decide +kernel
theorem dX1_mayAsk_4 : decode cX1_mayAsk 4 = .ok (.ifCond .eq 18, 3) := by decide +kernel
theorem dX1_mayAsk_7 : decode cX1_mayAsk 7 = .ok (.aload_n 0, 1) := by decide +kernel
theorem dX1_mayAsk_8 : decode cX1_mayAsk 8 = .ok (.getfield 49, 3) := by decide +kernel
theorem dX1_mayAsk_11 : decode cX1_mayAsk 11 = .ok (.getfield 67, 3) := by decide +kernel
theorem dX1_mayAsk_14 : decode cX1_mayAsk 14 = .ok (.iconst 1, 1) := by decide +kernel
theorem dX1_mayAsk_15 : decode cX1_mayAsk 15 = .ok (.if_icmp .eq 7, 3) := by decide +kernel
theorem dX1_mayAsk_18 : decode cX1_mayAsk 18 = .ok (.iconst 1, 1) := by decide +kernel
theorem dX1_mayAsk_19 : decode cX1_mayAsk 19 = .ok (.goto 4, 3) := by decide +kernel
theorem dX1_mayAsk_22 : decode cX1_mayAsk 22 = .ok (.iconst 0, 1) := by decide +kernel
theorem dX1_mayAsk_23 : decode cX1_mayAsk 23 = .ok (.ireturn, 1) := by decide +kernel
theorem dX1_draws_0 : decode cX1_draws 0 = .ok (.aload_n 0, 1) := by decide +kernel
theorem dX1_draws_1 : decode cX1_draws 1 = .ok (.aload_n 0, 1) := by decide +kernel
theorem dX1_draws_2 : decode cX1_draws 2 = .ok (.getfield 57, 3) := by decide +kernel
theorem dX1_draws_5 : decode cX1_draws 5 = .ok (.ldc 70, 2) := by decide +kernel
theorem dX1_draws_7 : decode cX1_draws 7 = .ok (.imul, 1) := by decide +kernel
theorem dX1_draws_8 : decode cX1_draws 8 = .ok (.sipush 12345, 3) := by decide +kernel
theorem dX1_draws_11 : decode cX1_draws 11 = .ok (.iadd, 1) := by decide +kernel
theorem dX1_draws_12 : decode cX1_draws 12 = .ok (.putfield 57, 3) := by decide +kernel
theorem dX1_draws_15 : decode cX1_draws 15 = .ok (.iload_n 1, 1) := by decide +kernel
theorem dX1_draws_16 : decode cX1_draws 16 = .ok (.iconst 1, 1) := by decide +kernel
theorem dX1_draws_17 : decode cX1_draws 17 = .ok (.if_icmp .ge 7, 3) := by decide +kernel
theorem dX1_draws_20 : decode cX1_draws 20 = .ok (.iconst 0, 1) := by decide +kernel
theorem dX1_draws_21 : decode cX1_draws 21 = .ok (.goto 12, 3) := by decide +kernel
theorem dX1_draws_24 : decode cX1_draws 24 = .ok (.aload_n 0, 1) := by decide +kernel
theorem dX1_draws_25 : decode cX1_draws 25 = .ok (.getfield 57, 3) := by decide +kernel
theorem dX1_draws_28 : decode cX1_draws 28 = .ok (.bipush 16, 2) := by decide +kernel
theorem dX1_draws_30 : decode cX1_draws 30 = .ok (.iushr, 1) := by decide +kernel
theorem dX1_draws_31 : decode cX1_draws 31 = .ok (.iload_n 1, 1) := by decide +kernel
theorem dX1_draws_32 : decode cX1_draws 32 = .ok (.irem, 1) := by decide +kernel
theorem dX1_draws_33 : decode cX1_draws 33 = .ok (.ireturn, 1) := by decide +kernel
theorem dX1_hears_0 : decode cX1_hears 0 = .ok (.aload_n 0, 1) := by decide +kernel
theorem dX1_hears_1 : decode cX1_hears 1 = .ok (.getfield 21, 3) := by decide +kernel
theorem dX1_hears_4 : decode cX1_hears 4 = .ok (.getfield 71, 3) := by decide +kernel
theorem dX1_hears_7 : decode cX1_hears 7 = .ok (.istore 4, 2) := by decide +kernel
theorem dX1_hears_9 : decode cX1_hears 9 = .ok (.iconst 0, 1) := by decide +kernel
theorem dX1_hears_10 : decode cX1_hears 10 = .ok (.iload_n 2, 1) := by decide +kernel
theorem dX1_hears_11 : decode cX1_hears 11 = .ok (.invokestatic 74, 3) := by decide +kernel
theorem dX1_hears_14 : decode cX1_hears 14 = .ok (.istore 5, 2) := by decide +kernel
theorem dX1_hears_16 : decode cX1_hears 16 = .ok (.iload 5, 2) := by decide +kernel
theorem dX1_hears_18 : decode cX1_hears 18 = .ok (.iload_n 2, 1) := by decide +kernel
theorem dX1_hears_19 : decode cX1_hears 19 = .ok (.iload_n 3, 1) := by decide +kernel
theorem dX1_hears_20 : decode cX1_hears 20 = .ok (.iadd, 1) := by decide +kernel
theorem dX1_hears_21 : decode cX1_hears 21 = .ok (.if_icmp .ge 83, 3) := by decide +kernel
theorem dX1_hears_24 : decode cX1_hears 24 = .ok (.iload 5, 2) := by decide +kernel
theorem dX1_hears_26 : decode cX1_hears 26 = .ok (.aload_n 1, 1) := by decide +kernel
theorem dX1_hears_27 : decode cX1_hears 27 = .ok (.arraylength, 1) := by decide +kernel
theorem dX1_hears_28 : decode cX1_hears 28 = .ok (.if_icmp .ge 76, 3) := by decide +kernel
theorem dX1_hears_31 : decode cX1_hears 31 = .ok (.aload_n 0, 1) := by decide +kernel
theorem dX1_hears_32 : decode cX1_hears 32 = .ok (.getfield 21, 3) := by decide +kernel
theorem dX1_hears_35 : decode cX1_hears 35 = .ok (.aload_n 1, 1) := by decide +kernel
theorem dX1_hears_36 : decode cX1_hears 36 = .ok (.iload 5, 2) := by decide +kernel
theorem dX1_hears_38 : decode cX1_hears 38 = .ok (.iaload, 1) := by decide +kernel
theorem dX1_hears_39 : decode cX1_hears 39 = .ok (.invokevirtual 80, 3) := by decide +kernel
theorem dX1_hears_42 : decode cX1_hears 42 = .ok (.ifCond .eq 56, 3) := by decide +kernel
theorem dX1_hears_45 : decode cX1_hears 45 = .ok (.aload_n 0, 1) := by decide +kernel
theorem dX1_hears_46 : decode cX1_hears 46 = .ok (.getfield 21, 3) := by decide +kernel
theorem dX1_hears_49 : decode cX1_hears 49 = .ok (.invokevirtual 84, 3) := by decide +kernel
theorem dX1_hears_52 : decode cX1_hears 52 = .ok (.ifCond .eq 26, 3) := by decide +kernel
theorem dX1_hears_55 : decode cX1_hears 55 = .ok (.aload_n 0, 1) := by decide +kernel
theorem dX1_hears_56 : decode cX1_hears 56 = .ok (.aload_n 0, 1) := by decide +kernel
theorem dX1_hears_57 : decode cX1_hears 57 = .ok (.getfield 21, 3) := by decide +kernel
theorem dX1_hears_60 : decode cX1_hears 60 = .ok (.getfield 87, 3) := by decide +kernel
theorem dX1_hears_63 : decode cX1_hears 63 = .ok (.iconst 1, 1) := by decide +kernel
theorem dX1_hears_64 : decode cX1_hears 64 = .ok (.iaload, 1) := by decide +kernel
theorem dX1_hears_65 : decode cX1_hears 65 = .ok (.aload_n 0, 1) := by decide +kernel
theorem dX1_hears_66 : decode cX1_hears 66 = .ok (.getfield 21, 3) := by decide +kernel
theorem dX1_hears_69 : decode cX1_hears 69 = .ok (.invokevirtual 91, 3) := by decide +kernel
theorem dX1_hears_72 : decode cX1_hears 72 = .ok (.invokevirtual 95, 3) := by decide +kernel
theorem dX1_hears_75 : decode cX1_hears 75 = .ok (.goto 23, 3) := by decide +kernel
theorem dX1_hears_78 : decode cX1_hears 78 = .ok (.aload_n 0, 1) := by decide +kernel
theorem dX1_hears_79 : decode cX1_hears 79 = .ok (.aload_n 0, 1) := by decide +kernel
theorem dX1_hears_80 : decode cX1_hears 80 = .ok (.getfield 21, 3) := by decide +kernel
theorem dX1_hears_83 : decode cX1_hears 83 = .ok (.getfield 87, 3) := by decide +kernel
theorem dX1_hears_86 : decode cX1_hears 86 = .ok (.iconst 1, 1) := by decide +kernel
theorem dX1_hears_87 : decode cX1_hears 87 = .ok (.iaload, 1) := by decide +kernel
theorem dX1_hears_88 : decode cX1_hears 88 = .ok (.aload_n 0, 1) := by decide +kernel
theorem dX1_hears_89 : decode cX1_hears 89 = .ok (.getfield 21, 3) := by decide +kernel
theorem dX1_hears_92 : decode cX1_hears 92 = .ok (.invokevirtual 91, 3) := by decide +kernel
theorem dX1_hears_95 : decode cX1_hears 95 = .ok (.invokevirtual 99, 3) := by decide +kernel
theorem dX1_hears_98 : decode cX1_hears 98 = .ok (.iinc 5 1, 3) := by decide +kernel
theorem dX1_hears_101 : decode cX1_hears 101 = .ok (.goto (-85), 3) := by decide +kernel
theorem dX1_hears_104 : decode cX1_hears 104 = .ok (.aload_n 0, 1) := by decide +kernel
theorem dX1_hears_105 : decode cX1_hears 105 = .ok (.getfield 21, 3) := by decide +kernel
theorem dX1_hears_108 : decode cX1_hears 108 = .ok (.getfield 71, 3) := by decide +kernel
theorem dX1_hears_111 : decode cX1_hears 111 = .ok (.iload 4, 2) := by decide +kernel
theorem dX1_hears_113 : decode cX1_hears 113 = .ok (.isub, 1) := by decide +kernel
theorem dX1_hears_114 : decode cX1_hears 114 = .ok (.ireturn, 1) := by decide +kernel
theorem dX1_ticks_0 : decode cX1_ticks 0 = .ok (.aload_n 0, 1) := by decide +kernel
theorem dX1_ticks_1 : decode cX1_ticks 1 = .ok (.getfield 60, 3) := by decide +kernel
theorem dX1_ticks_4 : decode cX1_ticks 4 = .ok (.tableswitch 60 1 4 #[32, 39, 46, 53], 32) := by decide +kernel
theorem dX1_ticks_36 : decode cX1_ticks 36 = .ok (.aload_n 0, 1) := by decide +kernel
theorem dX1_ticks_37 : decode cX1_ticks 37 = .ok (.invokevirtual 102, 3) := by decide +kernel
theorem dX1_ticks_40 : decode cX1_ticks 40 = .ok (.goto 24, 3) := by decide +kernel
theorem dX1_ticks_43 : decode cX1_ticks 43 = .ok (.aload_n 0, 1) := by decide +kernel
theorem dX1_ticks_44 : decode cX1_ticks 44 = .ok (.invokevirtual 105, 3) := by decide +kernel
theorem dX1_ticks_47 : decode cX1_ticks 47 = .ok (.goto 17, 3) := by decide +kernel
theorem dX1_ticks_50 : decode cX1_ticks 50 = .ok (.aload_n 0, 1) := by decide +kernel
theorem dX1_ticks_51 : decode cX1_ticks 51 = .ok (.invokevirtual 108, 3) := by decide +kernel
theorem dX1_ticks_54 : decode cX1_ticks 54 = .ok (.goto 10, 3) := by decide +kernel
theorem dX1_ticks_57 : decode cX1_ticks 57 = .ok (.aload_n 0, 1) := by decide +kernel
theorem dX1_ticks_58 : decode cX1_ticks 58 = .ok (.invokevirtual 111, 3) := by decide +kernel
theorem dX1_ticks_61 : decode cX1_ticks 61 = .ok (.goto 3, 3) := by decide +kernel
theorem dX1_ticks_64 : decode cX1_ticks 64 = .ok (.return_, 1) := by decide +kernel
theorem dX1_sendsCall_0 : decode cX1_sendsCall 0 = .ok (.aload_n 0, 1) := by decide +kernel
theorem dX1_sendsCall_1 : decode cX1_sendsCall 1 = .ok (.getfield 12, 3) := by decide +kernel
theorem dX1_sendsCall_4 : decode cX1_sendsCall 4 = .ok (.sipush 255, 3) := by decide +kernel
theorem dX1_sendsCall_7 : decode cX1_sendsCall 7 = .ok (.sipush 147, 3) := by decide +kernel
theorem dX1_sendsCall_10 : decode cX1_sendsCall 10 = .ok (.invokevirtual 114, 3) := by decide +kernel
theorem dX1_sendsCall_13 : decode cX1_sendsCall 13 = .ok (.aload_n 0, 1) := by decide +kernel
theorem dX1_sendsCall_14 : decode cX1_sendsCall 14 = .ok (.getfield 12, 3) := by decide +kernel
theorem dX1_sendsCall_17 : decode cX1_sendsCall 17 = .ok (.aload_n 0, 1) := by decide +kernel
theorem dX1_sendsCall_18 : decode cX1_sendsCall 18 = .ok (.getfield 53, 3) := by decide +kernel
theorem dX1_sendsCall_21 : decode cX1_sendsCall 21 = .ok (.invokevirtual 117, 3) := by decide +kernel
theorem dX1_sendsCall_24 : decode cX1_sendsCall 24 = .ok (.aload_n 0, 1) := by decide +kernel
theorem dX1_sendsCall_25 : decode cX1_sendsCall 25 = .ok (.getfield 12, 3) := by decide +kernel
theorem dX1_sendsCall_28 : decode cX1_sendsCall 28 = .ok (.aload_n 0, 1) := by decide +kernel
theorem dX1_sendsCall_29 : decode cX1_sendsCall 29 = .ok (.getfield 35, 3) := by decide +kernel
theorem dX1_sendsCall_32 : decode cX1_sendsCall 32 = .ok (.getfield 121, 3) := by decide +kernel
theorem dX1_sendsCall_35 : decode cX1_sendsCall 35 = .ok (.invokevirtual 117, 3) := by decide +kernel
theorem dX1_sendsCall_38 : decode cX1_sendsCall 38 = .ok (.aload_n 0, 1) := by decide +kernel
theorem dX1_sendsCall_39 : decode cX1_sendsCall 39 = .ok (.getfield 12, 3) := by decide +kernel
theorem dX1_sendsCall_42 : decode cX1_sendsCall 42 = .ok (.aload_n 0, 1) := by decide +kernel
theorem dX1_sendsCall_43 : decode cX1_sendsCall 43 = .ok (.getfield 35, 3) := by decide +kernel
theorem dX1_sendsCall_46 : decode cX1_sendsCall 46 = .ok (.getfield 124, 3) := by decide +kernel
theorem dX1_sendsCall_49 : decode cX1_sendsCall 49 = .ok (.invokevirtual 127, 3) := by decide +kernel
theorem dX1_sendsCall_52 : decode cX1_sendsCall 52 = .ok (.aload_n 0, 1) := by decide +kernel
theorem dX1_sendsCall_53 : decode cX1_sendsCall 53 = .ok (.getfield 12, 3) := by decide +kernel
theorem dX1_sendsCall_56 : decode cX1_sendsCall 56 = .ok (.aload_n 0, 1) := by decide +kernel
theorem dX1_sendsCall_57 : decode cX1_sendsCall 57 = .ok (.getfield 35, 3) := by decide +kernel
theorem dX1_sendsCall_60 : decode cX1_sendsCall 60 = .ok (.getfield 130, 3) := by decide +kernel
theorem dX1_sendsCall_63 : decode cX1_sendsCall 63 = .ok (.invokevirtual 127, 3) := by decide +kernel
theorem dX1_sendsCall_66 : decode cX1_sendsCall 66 = .ok (.aload_n 0, 1) := by decide +kernel
theorem dX1_sendsCall_67 : decode cX1_sendsCall 67 = .ok (.getfield 12, 3) := by decide +kernel
theorem dX1_sendsCall_70 : decode cX1_sendsCall 70 = .ok (.invokevirtual 133, 3) := by decide +kernel
theorem dX1_sendsCall_73 : decode cX1_sendsCall 73 = .ok (.return_, 1) := by decide +kernel
theorem dX2_init_0 : decode cX2_init 0 = .ok (.aload_n 0, 1) := by decide +kernel
theorem dX2_init_1 : decode cX2_init 1 = .ok (.invokespecial 3, 3) := by decide +kernel
theorem dX2_init_4 : decode cX2_init 4 = .ok (.aload_n 0, 1) := by decide +kernel
theorem dX2_init_5 : decode cX2_init 5 = .ok (.bipush 74, 2) := by decide +kernel
theorem dX2_init_7 : decode cX2_init 7 = .ok (.newarray .int, 2) := by decide +kernel
theorem dX2_init_9 : decode cX2_init 9 = .ok (.putfield 9, 3) := by decide +kernel
theorem dX2_init_12 : decode cX2_init 12 = .ok (.return_, 1) := by decide +kernel
theorem dX3_init_0 : decode cX3_init 0 = .ok (.aload_n 0, 1) := by decide +kernel
theorem dX3_init_1 : decode cX3_init 1 = .ok (.invokespecial 3, 3) := by decide +kernel
theorem dX3_init_4 : decode cX3_init 4 = .ok (.aload_n 0, 1) := by decide +kernel
theorem dX3_init_5 : decode cX3_init 5 = .ok (.new 9, 3) := by decide +kernel
theorem dX3_init_8 : decode cX3_init 8 = .ok (.dup, 1) := by decide +kernel
theorem dX3_init_9 : decode cX3_init 9 = .ok (.bipush 24, 2) := by decide +kernel
theorem dX3_init_11 : decode cX3_init 11 = .ok (.bipush 32, 2) := by decide +kernel
theorem dX3_init_13 : decode cX3_init 13 = .ok (.invokespecial 11, 3) := by decide +kernel
theorem dX3_init_16 : decode cX3_init 16 = .ok (.putfield 14, 3) := by decide +kernel
theorem dX3_init_19 : decode cX3_init 19 = .ok (.return_, 1) := by decide +kernel
theorem dX3_begins_0 : decode cX3_begins 0 = .ok (.aload_n 0, 1) := by decide +kernel
theorem dX3_begins_1 : decode cX3_begins 1 = .ok (.invokevirtual 20, 3) := by decide +kernel
theorem dX3_begins_4 : decode cX3_begins 4 = .ok (.aload_n 0, 1) := by decide +kernel
theorem dX3_begins_5 : decode cX3_begins 5 = .ok (.iload_n 1, 1) := by decide +kernel
theorem dX3_begins_6 : decode cX3_begins 6 = .ok (.putfield 23, 3) := by decide +kernel
theorem dX3_begins_9 : decode cX3_begins 9 = .ok (.aload_n 0, 1) := by decide +kernel
theorem dX3_begins_10 : decode cX3_begins 10 = .ok (.iload_n 2, 1) := by decide +kernel
theorem dX3_begins_11 : decode cX3_begins 11 = .ok (.putfield 27, 3) := by decide +kernel
theorem dX3_begins_14 : decode cX3_begins 14 = .ok (.aload_n 0, 1) := by decide +kernel
theorem dX3_begins_15 : decode cX3_begins 15 = .ok (.iload_n 3, 1) := by decide +kernel
theorem dX3_begins_16 : decode cX3_begins 16 = .ok (.putfield 30, 3) := by decide +kernel
theorem dX3_begins_19 : decode cX3_begins 19 = .ok (.return_, 1) := by decide +kernel
theorem dX3_clears_0 : decode cX3_clears 0 = .ok (.aload_n 0, 1) := by decide +kernel
theorem dX3_clears_1 : decode cX3_clears 1 = .ok (.getfield 14, 3) := by decide +kernel
theorem dX3_clears_4 : decode cX3_clears 4 = .ok (.invokevirtual 33, 3) := by decide +kernel
theorem dX3_clears_7 : decode cX3_clears 7 = .ok (.aload_n 0, 1) := by decide +kernel
theorem dX3_clears_8 : decode cX3_clears 8 = .ok (.iconst 0, 1) := by decide +kernel
theorem dX3_clears_9 : decode cX3_clears 9 = .ok (.putfield 23, 3) := by decide +kernel
theorem dX3_clears_12 : decode cX3_clears 12 = .ok (.aload_n 0, 1) := by decide +kernel
theorem dX3_clears_13 : decode cX3_clears 13 = .ok (.iconst 0, 1) := by decide +kernel
theorem dX3_clears_14 : decode cX3_clears 14 = .ok (.putfield 27, 3) := by decide +kernel
theorem dX3_clears_17 : decode cX3_clears 17 = .ok (.aload_n 0, 1) := by decide +kernel
theorem dX3_clears_18 : decode cX3_clears 18 = .ok (.iconst 0, 1) := by decide +kernel
theorem dX3_clears_19 : decode cX3_clears 19 = .ok (.putfield 30, 3) := by decide +kernel
theorem dX3_clears_22 : decode cX3_clears 22 = .ok (.aload_n 0, 1) := by decide +kernel
theorem dX3_clears_23 : decode cX3_clears 23 = .ok (.iconst 0, 1) := by decide +kernel
theorem dX3_clears_24 : decode cX3_clears 24 = .ok (.putfield 36, 3) := by decide +kernel
theorem dX3_clears_27 : decode cX3_clears 27 = .ok (.aload_n 0, 1) := by decide +kernel
theorem dX3_clears_28 : decode cX3_clears 28 = .ok (.iconst 0, 1) := by decide +kernel
theorem dX3_clears_29 : decode cX3_clears 29 = .ok (.putfield 39, 3) := by decide +kernel
theorem dX3_clears_32 : decode cX3_clears 32 = .ok (.aload_n 0, 1) := by decide +kernel
theorem dX3_clears_33 : decode cX3_clears 33 = .ok (.iconst 0, 1) := by decide +kernel
theorem dX3_clears_34 : decode cX3_clears 34 = .ok (.putfield 42, 3) := by decide +kernel
theorem dX3_clears_37 : decode cX3_clears 37 = .ok (.aload_n 0, 1) := by decide +kernel
theorem dX3_clears_38 : decode cX3_clears 38 = .ok (.iconst 0, 1) := by decide +kernel
theorem dX3_clears_39 : decode cX3_clears 39 = .ok (.putfield 45, 3) := by decide +kernel
theorem dX3_clears_42 : decode cX3_clears 42 = .ok (.aload_n 0, 1) := by decide +kernel
theorem dX3_clears_43 : decode cX3_clears 43 = .ok (.iconst 0, 1) := by decide +kernel
theorem dX3_clears_44 : decode cX3_clears 44 = .ok (.putfield 48, 3) := by decide +kernel
theorem dX3_clears_47 : decode cX3_clears 47 = .ok (.aload_n 0, 1) := by decide +kernel
theorem dX3_clears_48 : decode cX3_clears 48 = .ok (.iconst 0, 1) := by decide +kernel
theorem dX3_clears_49 : decode cX3_clears 49 = .ok (.putfield 52, 3) := by decide +kernel
theorem dX3_clears_52 : decode cX3_clears 52 = .ok (.aload_n 0, 1) := by decide +kernel
theorem dX3_clears_53 : decode cX3_clears 53 = .ok (.iconst 0, 1) := by decide +kernel
theorem dX3_clears_54 : decode cX3_clears 54 = .ok (.putfield 55, 3) := by decide +kernel
theorem dX3_clears_57 : decode cX3_clears 57 = .ok (.aload_n 0, 1) := by decide +kernel
theorem dX3_clears_58 : decode cX3_clears 58 = .ok (.iconst 0, 1) := by decide +kernel
theorem dX3_clears_59 : decode cX3_clears 59 = .ok (.putfield 58, 3) := by decide +kernel
theorem dX3_clears_62 : decode cX3_clears 62 = .ok (.aload_n 0, 1) := by decide +kernel
theorem dX3_clears_63 : decode cX3_clears 63 = .ok (.iconst 0, 1) := by decide +kernel
theorem dX3_clears_64 : decode cX3_clears 64 = .ok (.putfield 61, 3) := by decide +kernel
theorem dX3_clears_67 : decode cX3_clears 67 = .ok (.aload_n 0, 1) := by decide +kernel
theorem dX3_clears_68 : decode cX3_clears 68 = .ok (.iconst 0, 1) := by decide +kernel
theorem dX3_clears_69 : decode cX3_clears 69 = .ok (.putfield 64, 3) := by decide +kernel
theorem dX3_clears_72 : decode cX3_clears 72 = .ok (.return_, 1) := by decide +kernel
theorem dX4_init_0 : decode cX4_init 0 = .ok (.aload_n 0, 1) := by decide +kernel
theorem dX4_init_1 : decode cX4_init 1 = .ok (.invokespecial 3, 3) := by decide +kernel
theorem dX4_init_4 : decode cX4_init 4 = .ok (.aload_n 0, 1) := by decide +kernel
theorem dX4_init_5 : decode cX4_init 5 = .ok (.new 9, 3) := by decide +kernel
theorem dX4_init_8 : decode cX4_init 8 = .ok (.dup, 1) := by decide +kernel
theorem dX4_init_9 : decode cX4_init 9 = .ok (.invokespecial 11, 3) := by decide +kernel
theorem dX4_init_12 : decode cX4_init 12 = .ok (.putfield 12, 3) := by decide +kernel
theorem dX4_init_15 : decode cX4_init 15 = .ok (.aload_n 0, 1) := by decide +kernel
theorem dX4_init_16 : decode cX4_init 16 = .ok (.new 18, 3) := by decide +kernel
theorem dX4_init_19 : decode cX4_init 19 = .ok (.dup, 1) := by decide +kernel
theorem dX4_init_20 : decode cX4_init 20 = .ok (.invokespecial 20, 3) := by decide +kernel
theorem dX4_init_23 : decode cX4_init 23 = .ok (.putfield 21, 3) := by decide +kernel
theorem dX4_init_26 : decode cX4_init 26 = .ok (.aload_n 0, 1) := by decide +kernel
theorem dX4_init_27 : decode cX4_init 27 = .ok (.new 25, 3) := by decide +kernel
theorem dX4_init_30 : decode cX4_init 30 = .ok (.dup, 1) := by decide +kernel
theorem dX4_init_31 : decode cX4_init 31 = .ok (.invokespecial 27, 3) := by decide +kernel
theorem dX4_init_34 : decode cX4_init 34 = .ok (.putfield 28, 3) := by decide +kernel
theorem dX4_init_37 : decode cX4_init 37 = .ok (.aload_n 0, 1) := by decide +kernel
theorem dX4_init_38 : decode cX4_init 38 = .ok (.new 25, 3) := by decide +kernel
theorem dX4_init_41 : decode cX4_init 41 = .ok (.dup, 1) := by decide +kernel
theorem dX4_init_42 : decode cX4_init 42 = .ok (.invokespecial 27, 3) := by decide +kernel
theorem dX4_init_45 : decode cX4_init 45 = .ok (.putfield 32, 3) := by decide +kernel
theorem dX4_init_48 : decode cX4_init 48 = .ok (.aload_n 0, 1) := by decide +kernel
theorem dX4_init_49 : decode cX4_init 49 = .ok (.new 25, 3) := by decide +kernel
theorem dX4_init_52 : decode cX4_init 52 = .ok (.dup, 1) := by decide +kernel
theorem dX4_init_53 : decode cX4_init 53 = .ok (.invokespecial 27, 3) := by decide +kernel
theorem dX4_init_56 : decode cX4_init 56 = .ok (.putfield 35, 3) := by decide +kernel
theorem dX4_init_59 : decode cX4_init 59 = .ok (.return_, 1) := by decide +kernel
theorem dX5_init_0 : decode cX5_init 0 = .ok (.aload_n 0, 1) := by decide +kernel
theorem dX5_init_1 : decode cX5_init 1 = .ok (.invokespecial 1, 3) := by decide +kernel
theorem dX5_init_4 : decode cX5_init 4 = .ok (.aload_n 0, 1) := by decide +kernel
theorem dX5_init_5 : decode cX5_init 5 = .ok (.iload_n 1, 1) := by decide +kernel
theorem dX5_init_6 : decode cX5_init 6 = .ok (.putfield 7, 3) := by decide +kernel
theorem dX5_init_9 : decode cX5_init 9 = .ok (.aload_n 0, 1) := by decide +kernel
theorem dX5_init_10 : decode cX5_init 10 = .ok (.iload_n 2, 1) := by decide +kernel
theorem dX5_init_11 : decode cX5_init 11 = .ok (.putfield 13, 3) := by decide +kernel
theorem dX5_init_14 : decode cX5_init 14 = .ok (.aload_n 0, 1) := by decide +kernel
theorem dX5_init_15 : decode cX5_init 15 = .ok (.iconst 0, 1) := by decide +kernel
theorem dX5_init_16 : decode cX5_init 16 = .ok (.iload_n 1, 1) := by decide +kernel
theorem dX5_init_17 : decode cX5_init 17 = .ok (.iload_n 2, 1) := by decide +kernel
theorem dX5_init_18 : decode cX5_init 18 = .ok (.imul, 1) := by decide +kernel
theorem dX5_init_19 : decode cX5_init 19 = .ok (.invokestatic 16, 3) := by decide +kernel
theorem dX5_init_22 : decode cX5_init 22 = .ok (.newarray .int, 2) := by decide +kernel
theorem dX5_init_24 : decode cX5_init 24 = .ok (.putfield 22, 3) := by decide +kernel
theorem dX5_init_27 : decode cX5_init 27 = .ok (.aload_n 0, 1) := by decide +kernel
theorem dX5_init_28 : decode cX5_init 28 = .ok (.iconst 0, 1) := by decide +kernel
theorem dX5_init_29 : decode cX5_init 29 = .ok (.iload_n 1, 1) := by decide +kernel
theorem dX5_init_30 : decode cX5_init 30 = .ok (.invokestatic 16, 3) := by decide +kernel
theorem dX5_init_33 : decode cX5_init 33 = .ok (.newarray .int, 2) := by decide +kernel
theorem dX5_init_35 : decode cX5_init 35 = .ok (.putfield 26, 3) := by decide +kernel
theorem dX5_init_38 : decode cX5_init 38 = .ok (.return_, 1) := by decide +kernel
theorem dX5_empties_0 : decode cX5_empties 0 = .ok (.aload_n 0, 1) := by decide +kernel
theorem dX5_empties_1 : decode cX5_empties 1 = .ok (.iconst 0, 1) := by decide +kernel
theorem dX5_empties_2 : decode cX5_empties 2 = .ok (.putfield 46, 3) := by decide +kernel
theorem dX5_empties_5 : decode cX5_empties 5 = .ok (.aload_n 0, 1) := by decide +kernel
theorem dX5_empties_6 : decode cX5_empties 6 = .ok (.iconst 0, 1) := by decide +kernel
theorem dX5_empties_7 : decode cX5_empties 7 = .ok (.putfield 29, 3) := by decide +kernel
theorem dX5_empties_10 : decode cX5_empties 10 = .ok (.return_, 1) := by decide +kernel
theorem dX6_init_0 : decode cX6_init 0 = .ok (.aload_n 0, 1) := by decide +kernel
theorem dX6_init_1 : decode cX6_init 1 = .ok (.invokespecial 3, 3) := by decide +kernel
theorem dX6_init_4 : decode cX6_init 4 = .ok (.aload_n 0, 1) := by decide +kernel
theorem dX6_init_5 : decode cX6_init 5 = .ok (.bipush 60, 2) := by decide +kernel
theorem dX6_init_7 : decode cX6_init 7 = .ok (.newarray .int, 2) := by decide +kernel
theorem dX6_init_9 : decode cX6_init 9 = .ok (.putfield 9, 3) := by decide +kernel
theorem dX6_init_12 : decode cX6_init 12 = .ok (.return_, 1) := by decide +kernel
theorem dX7_init_0 : decode cX7_init 0 = .ok (.aload_n 0, 1) := by decide +kernel
theorem dX7_init_1 : decode cX7_init 1 = .ok (.invokespecial 3, 3) := by decide +kernel
theorem dX7_init_4 : decode cX7_init 4 = .ok (.aload_n 0, 1) := by decide +kernel
theorem dX7_init_5 : decode cX7_init 5 = .ok (.bipush 8, 2) := by decide +kernel
theorem dX7_init_7 : decode cX7_init 7 = .ok (.newarray .int, 2) := by decide +kernel
theorem dX7_init_9 : decode cX7_init 9 = .ok (.putfield 9, 3) := by decide +kernel
theorem dX7_init_12 : decode cX7_init 12 = .ok (.return_, 1) := by decide +kernel
theorem dX7_begins_0 : decode cX7_begins 0 = .ok (.aload_n 0, 1) := by decide +kernel
theorem dX7_begins_1 : decode cX7_begins 1 = .ok (.iconst 0, 1) := by decide +kernel
theorem dX7_begins_2 : decode cX7_begins 2 = .ok (.putfield 15, 3) := by decide +kernel
theorem dX7_begins_5 : decode cX7_begins 5 = .ok (.aload_n 0, 1) := by decide +kernel
theorem dX7_begins_6 : decode cX7_begins 6 = .ok (.iload_n 1, 1) := by decide +kernel
theorem dX7_begins_7 : decode cX7_begins 7 = .ok (.putfield 19, 3) := by decide +kernel
theorem dX7_begins_10 : decode cX7_begins 10 = .ok (.aload_n 0, 1) := by decide +kernel
theorem dX7_begins_11 : decode cX7_begins 11 = .ok (.iconst 0, 1) := by decide +kernel
theorem dX7_begins_12 : decode cX7_begins 12 = .ok (.putfield 22, 3) := by decide +kernel
theorem dX7_begins_15 : decode cX7_begins 15 = .ok (.return_, 1) := by decide +kernel
theorem dX8_init_0 : decode cX8_init 0 = .ok (.aload_n 0, 1) := by decide +kernel
theorem dX8_init_1 : decode cX8_init 1 = .ok (.invokespecial 3, 3) := by decide +kernel
theorem dX8_init_4 : decode cX8_init 4 = .ok (.aload_n 0, 1) := by decide +kernel
theorem dX8_init_5 : decode cX8_init 5 = .ok (.bipush 6, 2) := by decide +kernel
theorem dX8_init_7 : decode cX8_init 7 = .ok (.anewarray 9, 3) := by decide +kernel
theorem dX8_init_10 : decode cX8_init 10 = .ok (.putfield 11, 3) := by decide +kernel
theorem dX8_init_13 : decode cX8_init 13 = .ok (.iconst 0, 1) := by decide +kernel
theorem dX8_init_14 : decode cX8_init 14 = .ok (.istore_n 1, 1) := by decide +kernel
theorem dX8_init_15 : decode cX8_init 15 = .ok (.iload_n 1, 1) := by decide +kernel
theorem dX8_init_16 : decode cX8_init 16 = .ok (.bipush 6, 2) := by decide +kernel
theorem dX8_init_18 : decode cX8_init 18 = .ok (.if_icmp .ge 22, 3) := by decide +kernel
theorem dX8_init_21 : decode cX8_init 21 = .ok (.aload_n 0, 1) := by decide +kernel
theorem dX8_init_22 : decode cX8_init 22 = .ok (.getfield 11, 3) := by decide +kernel
theorem dX8_init_25 : decode cX8_init 25 = .ok (.iload_n 1, 1) := by decide +kernel
theorem dX8_init_26 : decode cX8_init 26 = .ok (.new 9, 3) := by decide +kernel
theorem dX8_init_29 : decode cX8_init 29 = .ok (.dup, 1) := by decide +kernel
theorem dX8_init_30 : decode cX8_init 30 = .ok (.invokespecial 17, 3) := by decide +kernel
theorem dX8_init_33 : decode cX8_init 33 = .ok (.aastore, 1) := by decide +kernel
theorem dX8_init_34 : decode cX8_init 34 = .ok (.iinc 1 1, 3) := by decide +kernel
theorem dX8_init_37 : decode cX8_init 37 = .ok (.goto (-22), 3) := by decide +kernel
theorem dX8_init_40 : decode cX8_init 40 = .ok (.return_, 1) := by decide +kernel
theorem dX8_find_0 : decode cX8_find 0 = .ok (.iconst 0, 1) := by decide +kernel
theorem dX8_find_1 : decode cX8_find 1 = .ok (.istore_n 3, 1) := by decide +kernel
theorem dX8_find_2 : decode cX8_find 2 = .ok (.iload_n 3, 1) := by decide +kernel
theorem dX8_find_3 : decode cX8_find 3 = .ok (.aload_n 0, 1) := by decide +kernel
theorem dX8_find_4 : decode cX8_find 4 = .ok (.getfield 18, 3) := by decide +kernel
theorem dX8_find_7 : decode cX8_find 7 = .ok (.if_icmp .ge 42, 3) := by decide +kernel
theorem dX8_find_10 : decode cX8_find 10 = .ok (.iload_n 3, 1) := by decide +kernel
theorem dX8_find_11 : decode cX8_find 11 = .ok (.bipush 6, 2) := by decide +kernel
theorem dX8_find_13 : decode cX8_find 13 = .ok (.if_icmp .ge 36, 3) := by decide +kernel
theorem dX8_find_16 : decode cX8_find 16 = .ok (.lload_n 1, 1) := by decide +kernel
theorem dX8_find_17 : decode cX8_find 17 = .ok (.lconst 0, 1) := by decide +kernel
theorem dX8_find_18 : decode cX8_find 18 = .ok (.lcmp, 1) := by decide +kernel
theorem dX8_find_19 : decode cX8_find 19 = .ok (.ifCond .eq 24, 3) := by decide +kernel
theorem dX8_find_22 : decode cX8_find 22 = .ok (.aload_n 0, 1) := by decide +kernel
theorem dX8_find_23 : decode cX8_find 23 = .ok (.getfield 11, 3) := by decide +kernel
theorem dX8_find_26 : decode cX8_find 26 = .ok (.iload_n 3, 1) := by decide +kernel
theorem dX8_find_27 : decode cX8_find 27 = .ok (.aaload, 1) := by decide +kernel
theorem dX8_find_28 : decode cX8_find 28 = .ok (.getfield 22, 3) := by decide +kernel
theorem dX8_find_31 : decode cX8_find 31 = .ok (.lload_n 1, 1) := by decide +kernel
theorem dX8_find_32 : decode cX8_find 32 = .ok (.lcmp, 1) := by decide +kernel
theorem dX8_find_33 : decode cX8_find 33 = .ok (.ifCond .ne 10, 3) := by decide +kernel
theorem dX8_find_36 : decode cX8_find 36 = .ok (.aload_n 0, 1) := by decide +kernel
theorem dX8_find_37 : decode cX8_find 37 = .ok (.getfield 11, 3) := by decide +kernel
theorem dX8_find_40 : decode cX8_find 40 = .ok (.iload_n 3, 1) := by decide +kernel
theorem dX8_find_41 : decode cX8_find 41 = .ok (.aaload, 1) := by decide +kernel
theorem dX8_find_42 : decode cX8_find 42 = .ok (.areturn, 1) := by decide +kernel
theorem dX8_find_43 : decode cX8_find 43 = .ok (.iinc 3 1, 3) := by decide +kernel
theorem dX8_find_46 : decode cX8_find 46 = .ok (.goto (-44), 3) := by decide +kernel
theorem dX8_find_49 : decode cX8_find 49 = .ok (.aconst_null, 1) := by decide +kernel
theorem dX8_find_50 : decode cX8_find 50 = .ok (.areturn, 1) := by decide +kernel
theorem dX8_placeFor_0 : decode cX8_placeFor 0 = .ok (.iconst 0, 1) := by decide +kernel
theorem dX8_placeFor_1 : decode cX8_placeFor 1 = .ok (.istore_n 3, 1) := by decide +kernel
theorem dX8_placeFor_2 : decode cX8_placeFor 2 = .ok (.iload_n 3, 1) := by decide +kernel
theorem dX8_placeFor_3 : decode cX8_placeFor 3 = .ok (.aload_n 0, 1) := by decide +kernel
theorem dX8_placeFor_4 : decode cX8_placeFor 4 = .ok (.getfield 18, 3) := by decide +kernel
theorem dX8_placeFor_7 : decode cX8_placeFor 7 = .ok (.if_icmp .ge 29, 3) := by decide +kernel
theorem dX8_placeFor_10 : decode cX8_placeFor 10 = .ok (.iload_n 3, 1) := by decide +kernel
theorem dX8_placeFor_11 : decode cX8_placeFor 11 = .ok (.bipush 6, 2) := by decide +kernel
theorem dX8_placeFor_13 : decode cX8_placeFor 13 = .ok (.if_icmp .ge 23, 3) := by decide +kernel
theorem dX8_placeFor_16 : decode cX8_placeFor 16 = .ok (.aload_n 0, 1) := by decide +kernel
theorem dX8_placeFor_17 : decode cX8_placeFor 17 = .ok (.getfield 11, 3) := by decide +kernel
theorem dX8_placeFor_20 : decode cX8_placeFor 20 = .ok (.iload_n 3, 1) := by decide +kernel
theorem dX8_placeFor_21 : decode cX8_placeFor 21 = .ok (.aaload, 1) := by decide +kernel
theorem dX8_placeFor_22 : decode cX8_placeFor 22 = .ok (.getfield 22, 3) := by decide +kernel
theorem dX8_placeFor_25 : decode cX8_placeFor 25 = .ok (.lload_n 1, 1) := by decide +kernel
theorem dX8_placeFor_26 : decode cX8_placeFor 26 = .ok (.lcmp, 1) := by decide +kernel
theorem dX8_placeFor_27 : decode cX8_placeFor 27 = .ok (.ifCond .eq 9, 3) := by decide +kernel
theorem dX8_placeFor_30 : decode cX8_placeFor 30 = .ok (.iinc 3 1, 3) := by decide +kernel
theorem dX8_placeFor_33 : decode cX8_placeFor 33 = .ok (.goto (-31), 3) := by decide +kernel
theorem dX8_placeFor_36 : decode cX8_placeFor 36 = .ok (.iload_n 3, 1) := by decide +kernel
theorem dX8_placeFor_37 : decode cX8_placeFor 37 = .ok (.bipush 6, 2) := by decide +kernel
theorem dX8_placeFor_39 : decode cX8_placeFor 39 = .ok (.if_icmp .lt 5, 3) := by decide +kernel
theorem dX8_placeFor_42 : decode cX8_placeFor 42 = .ok (.aconst_null, 1) := by decide +kernel
theorem dX8_placeFor_43 : decode cX8_placeFor 43 = .ok (.areturn, 1) := by decide +kernel
theorem dX8_placeFor_44 : decode cX8_placeFor 44 = .ok (.iload_n 3, 1) := by decide +kernel
theorem dX8_placeFor_45 : decode cX8_placeFor 45 = .ok (.aload_n 0, 1) := by decide +kernel
theorem dX8_placeFor_46 : decode cX8_placeFor 46 = .ok (.getfield 18, 3) := by decide +kernel
theorem dX8_placeFor_49 : decode cX8_placeFor 49 = .ok (.if_icmp .ne 13, 3) := by decide +kernel
theorem dX8_placeFor_52 : decode cX8_placeFor 52 = .ok (.aload_n 0, 1) := by decide +kernel
theorem dX8_placeFor_53 : decode cX8_placeFor 53 = .ok (.dup, 1) := by decide +kernel
theorem dX8_placeFor_54 : decode cX8_placeFor 54 = .ok (.getfield 18, 3) := by decide +kernel
theorem dX8_placeFor_57 : decode cX8_placeFor 57 = .ok (.iconst 1, 1) := by decide +kernel
theorem dX8_placeFor_58 : decode cX8_placeFor 58 = .ok (.iadd, 1) := by decide +kernel
theorem dX8_placeFor_59 : decode cX8_placeFor 59 = .ok (.putfield 18, 3) := by decide +kernel
theorem dX8_placeFor_62 : decode cX8_placeFor 62 = .ok (.aload_n 0, 1) := by decide +kernel
theorem dX8_placeFor_63 : decode cX8_placeFor 63 = .ok (.getfield 11, 3) := by decide +kernel
theorem dX8_placeFor_66 : decode cX8_placeFor 66 = .ok (.iload_n 3, 1) := by decide +kernel
theorem dX8_placeFor_67 : decode cX8_placeFor 67 = .ok (.aaload, 1) := by decide +kernel
theorem dX8_placeFor_68 : decode cX8_placeFor 68 = .ok (.areturn, 1) := by decide +kernel
theorem dX9_init_0 : decode cX9_init 0 = .ok (.aload_n 0, 1) := by decide +kernel
theorem dX9_init_1 : decode cX9_init 1 = .ok (.invokespecial 3, 3) := by decide +kernel
theorem dX9_init_4 : decode cX9_init 4 = .ok (.aload_n 0, 1) := by decide +kernel
theorem dX9_init_5 : decode cX9_init 5 = .ok (.bipush 120, 2) := by decide +kernel
theorem dX9_init_7 : decode cX9_init 7 = .ok (.newarray .int, 2) := by decide +kernel
theorem dX9_init_9 : decode cX9_init 9 = .ok (.putfield 9, 3) := by decide +kernel
theorem dX9_init_12 : decode cX9_init 12 = .ok (.return_, 1) := by decide +kernel
theorem dX9_begins_0 : decode cX9_begins 0 = .ok (.aload_n 0, 1) := by decide +kernel
theorem dX9_begins_1 : decode cX9_begins 1 = .ok (.lload_n 1, 1) := by decide +kernel
theorem dX9_begins_2 : decode cX9_begins 2 = .ok (.putfield 15, 3) := by decide +kernel
theorem dX9_begins_5 : decode cX9_begins 5 = .ok (.aload_n 0, 1) := by decide +kernel
theorem dX9_begins_6 : decode cX9_begins 6 = .ok (.iconst 0, 1) := by decide +kernel
theorem dX9_begins_7 : decode cX9_begins 7 = .ok (.putfield 19, 3) := by decide +kernel
theorem dX9_begins_10 : decode cX9_begins 10 = .ok (.return_, 1) := by decide +kernel
theorem dX9_adds_0 : decode cX9_adds 0 = .ok (.aload_n 0, 1) := by decide +kernel
theorem dX9_adds_1 : decode cX9_adds 1 = .ok (.getfield 19, 3) := by decide +kernel
theorem dX9_adds_4 : decode cX9_adds 4 = .ok (.ifCond .lt 12, 3) := by decide +kernel
theorem dX9_adds_7 : decode cX9_adds 7 = .ok (.aload_n 0, 1) := by decide +kernel
theorem dX9_adds_8 : decode cX9_adds 8 = .ok (.getfield 19, 3) := by decide +kernel
theorem dX9_adds_11 : decode cX9_adds 11 = .ok (.bipush 120, 2) := by decide +kernel
theorem dX9_adds_13 : decode cX9_adds 13 = .ok (.if_icmp .le 4, 3) := by decide +kernel
theorem dX9_adds_16 : decode cX9_adds 16 = .ok (.return_, 1) := by decide +kernel
theorem dX9_adds_17 : decode cX9_adds 17 = .ok (.aload_n 0, 1) := by decide +kernel
theorem dX9_adds_18 : decode cX9_adds 18 = .ok (.getfield 19, 3) := by decide +kernel
theorem dX9_adds_21 : decode cX9_adds 21 = .ok (.bipush 120, 2) := by decide +kernel
theorem dX9_adds_23 : decode cX9_adds 23 = .ok (.if_icmp .ge 17, 3) := by decide +kernel
theorem dX9_adds_26 : decode cX9_adds 26 = .ok (.aload_n 0, 1) := by decide +kernel
theorem dX9_adds_27 : decode cX9_adds 27 = .ok (.getfield 9, 3) := by decide +kernel
theorem dX9_adds_30 : decode cX9_adds 30 = .ok (.aload_n 0, 1) := by decide +kernel
theorem dX9_adds_31 : decode cX9_adds 31 = .ok (.getfield 19, 3) := by decide +kernel
theorem dX9_adds_34 : decode cX9_adds 34 = .ok (.iload_n 1, 1) := by decide +kernel
theorem dX9_adds_35 : decode cX9_adds 35 = .ok (.sipush 255, 3) := by decide +kernel
theorem dX9_adds_38 : decode cX9_adds 38 = .ok (.iand, 1) := by decide +kernel
theorem dX9_adds_39 : decode cX9_adds 39 = .ok (.iastore, 1) := by decide +kernel
theorem dX9_adds_40 : decode cX9_adds 40 = .ok (.aload_n 0, 1) := by decide +kernel
theorem dX9_adds_41 : decode cX9_adds 41 = .ok (.dup, 1) := by decide +kernel
theorem dX9_adds_42 : decode cX9_adds 42 = .ok (.getfield 19, 3) := by decide +kernel
theorem dX9_adds_45 : decode cX9_adds 45 = .ok (.iconst 1, 1) := by decide +kernel
theorem dX9_adds_46 : decode cX9_adds 46 = .ok (.iadd, 1) := by decide +kernel
theorem dX9_adds_47 : decode cX9_adds 47 = .ok (.putfield 19, 3) := by decide +kernel
theorem dX9_adds_50 : decode cX9_adds 50 = .ok (.return_, 1) := by decide +kernel
theorem dX10_init_0 : decode cX10_init 0 = .ok (.aload_n 0, 1) := by decide +kernel
theorem dX10_init_1 : decode cX10_init 1 = .ok (.invokespecial 3, 3) := by decide +kernel
theorem dX10_init_4 : decode cX10_init 4 = .ok (.aload_n 0, 1) := by decide +kernel
theorem dX10_init_5 : decode cX10_init 5 = .ok (.new 9, 3) := by decide +kernel
theorem dX10_init_8 : decode cX10_init 8 = .ok (.dup, 1) := by decide +kernel
theorem dX10_init_9 : decode cX10_init 9 = .ok (.bipush 8, 2) := by decide +kernel
theorem dX10_init_11 : decode cX10_init 11 = .ok (.bipush 60, 2) := by decide +kernel
theorem dX10_init_13 : decode cX10_init 13 = .ok (.invokespecial 11, 3) := by decide +kernel
theorem dX10_init_16 : decode cX10_init 16 = .ok (.putfield 14, 3) := by decide +kernel
theorem dX10_init_19 : decode cX10_init 19 = .ok (.aload_n 0, 1) := by decide +kernel
theorem dX10_init_20 : decode cX10_init 20 = .ok (.new 20, 3) := by decide +kernel
theorem dX10_init_23 : decode cX10_init 23 = .ok (.dup, 1) := by decide +kernel
theorem dX10_init_24 : decode cX10_init 24 = .ok (.invokespecial 22, 3) := by decide +kernel
theorem dX10_init_27 : decode cX10_init 27 = .ok (.putfield 23, 3) := by decide +kernel
theorem dX10_init_30 : decode cX10_init 30 = .ok (.aload_n 0, 1) := by decide +kernel
theorem dX10_init_31 : decode cX10_init 31 = .ok (.bipush 32, 2) := by decide +kernel
theorem dX10_init_33 : decode cX10_init 33 = .ok (.newarray .int, 2) := by decide +kernel
theorem dX10_init_35 : decode cX10_init 35 = .ok (.putfield 27, 3) := by decide +kernel
theorem dX10_init_38 : decode cX10_init 38 = .ok (.return_, 1) := by decide +kernel
