theorem dX12_init_0 : decode cX12_init 0 = .ok (.aload_n 0, 1) := by decide +kernel
theorem dX12_init_1 : decode cX12_init 1 = .ok (.invokespecial 3, 3) := by decide +kernel
theorem dX12_init_4 : decode cX12_init 4 = .ok (.aload_n 0, 1) := by decide +kernel
theorem dX12_init_5 : decode cX12_init 5 = .ok (.sipush 1240, 3) := by decide +kernel
theorem dX12_init_8 : decode cX12_init 8 = .ok (.newarray .int, 2) := by decide +kernel
theorem dX12_init_10 : decode cX12_init 10 = .ok (.putfield 9, 3) := by decide +kernel
theorem dX12_init_13 : decode cX12_init 13 = .ok (.aload_n 0, 1) := by decide +kernel
theorem dX12_init_14 : decode cX12_init 14 = .ok (.sipush 1240, 3) := by decide +kernel
theorem dX12_init_17 : decode cX12_init 17 = .ok (.newarray .int, 2) := by decide +kernel
theorem dX12_init_19 : decode cX12_init 19 = .ok (.putfield 15, 3) := by decide +kernel
theorem dX12_init_22 : decode cX12_init 22 = .ok (.aload_n 0, 1) := by decide +kernel
theorem dX12_init_23 : decode cX12_init 23 = .ok (.bipush 64, 2) := by decide +kernel
theorem dX12_init_25 : decode cX12_init 25 = .ok (.newarray .boolean, 2) := by decide +kernel
theorem dX12_init_27 : decode cX12_init 27 = .ok (.putfield 18, 3) := by decide +kernel
theorem dX12_init_30 : decode cX12_init 30 = .ok (.aload_n 0, 1) := by decide +kernel
theorem dX12_init_31 : decode cX12_init 31 = .ok (.iconst (-1), 1) := by decide +kernel
theorem dX12_init_32 : decode cX12_init 32 = .ok (.putfield 22, 3) := by decide +kernel
theorem dX12_init_35 : decode cX12_init 35 = .ok (.aload_n 0, 1) := by decide +kernel
theorem dX12_init_36 : decode cX12_init 36 = .ok (.bipush 27, 2) := by decide +kernel
theorem dX12_init_38 : decode cX12_init 38 = .ok (.newarray .int, 2) := by decide +kernel
theorem dX12_init_40 : decode cX12_init 40 = .ok (.putfield 26, 3) := by decide +kernel
theorem dX12_init_43 : decode cX12_init 43 = .ok (.aload_n 0, 1) := by decide +kernel
theorem dX12_init_44 : decode cX12_init 44 = .ok (.bipush 27, 2) := by decide +kernel
theorem dX12_init_46 : decode cX12_init 46 = .ok (.newarray .int, 2) := by decide +kernel
theorem dX12_init_48 : decode cX12_init 48 = .ok (.putfield 29, 3) := by decide +kernel
theorem dX12_init_51 : decode cX12_init 51 = .ok (.aload_n 0, 1) := by decide +kernel
theorem dX12_init_52 : decode cX12_init 52 = .ok (.sipush 243, 3) := by decide +kernel
theorem dX12_init_55 : decode cX12_init 55 = .ok (.newarray .long, 2) := by decide +kernel
theorem dX12_init_57 : decode cX12_init 57 = .ok (.putfield 32, 3) := by decide +kernel
theorem dX12_init_60 : decode cX12_init 60 = .ok (.aload_n 0, 1) := by decide +kernel
theorem dX12_init_61 : decode cX12_init 61 = .ok (.sipush 243, 3) := by decide +kernel
theorem dX12_init_64 : decode cX12_init 64 = .ok (.newarray .long, 2) := by decide +kernel
theorem dX12_init_66 : decode cX12_init 66 = .ok (.putfield 36, 3) := by decide +kernel
theorem dX12_init_69 : decode cX12_init 69 = .ok (.aload_n 0, 1) := by decide +kernel
theorem dX12_init_70 : decode cX12_init 70 = .ok (.sipush 243, 3) := by decide +kernel
theorem dX12_init_73 : decode cX12_init 73 = .ok (.newarray .long, 2) := by decide +kernel
theorem dX12_init_75 : decode cX12_init 75 = .ok (.putfield 39, 3) := by decide +kernel
theorem dX12_init_78 : decode cX12_init 78 = .ok (.aload_n 0, 1) := by decide +kernel
theorem dX12_init_79 : decode cX12_init 79 = .ok (.sipush 243, 3) := by decide +kernel
theorem dX12_init_82 : decode cX12_init 82 = .ok (.newarray .int, 2) := by decide +kernel
theorem dX12_init_84 : decode cX12_init 84 = .ok (.putfield 42, 3) := by decide +kernel
theorem dX12_init_87 : decode cX12_init 87 = .ok (.aload_n 0, 1) := by decide +kernel
theorem dX12_init_88 : decode cX12_init 88 = .ok (.bipush 8, 2) := by decide +kernel
theorem dX12_init_90 : decode cX12_init 90 = .ok (.newarray .int, 2) := by decide +kernel
theorem dX12_init_92 : decode cX12_init 92 = .ok (.putfield 45, 3) := by decide +kernel
theorem dX12_init_95 : decode cX12_init 95 = .ok (.aload_n 0, 1) := by decide +kernel
theorem dX12_init_96 : decode cX12_init 96 = .ok (.bipush 32, 2) := by decide +kernel
theorem dX12_init_98 : decode cX12_init 98 = .ok (.newarray .int, 2) := by decide +kernel
theorem dX12_init_100 : decode cX12_init 100 = .ok (.putfield 48, 3) := by decide +kernel
theorem dX12_init_103 : decode cX12_init 103 = .ok (.aload_n 0, 1) := by decide +kernel
theorem dX12_init_104 : decode cX12_init 104 = .ok (.bipush 32, 2) := by decide +kernel
theorem dX12_init_106 : decode cX12_init 106 = .ok (.newarray .int, 2) := by decide +kernel
theorem dX12_init_108 : decode cX12_init 108 = .ok (.putfield 51, 3) := by decide +kernel
theorem dX12_init_111 : decode cX12_init 111 = .ok (.aload_n 0, 1) := by decide +kernel
theorem dX12_init_112 : decode cX12_init 112 = .ok (.iconst 3, 1) := by decide +kernel
theorem dX12_init_113 : decode cX12_init 113 = .ok (.newarray .int, 2) := by decide +kernel
theorem dX12_init_115 : decode cX12_init 115 = .ok (.putfield 54, 3) := by decide +kernel
theorem dX12_init_118 : decode cX12_init 118 = .ok (.aload_n 0, 1) := by decide +kernel
theorem dX12_init_119 : decode cX12_init 119 = .ok (.sipush 201, 3) := by decide +kernel
theorem dX12_init_122 : decode cX12_init 122 = .ok (.newarray .long, 2) := by decide +kernel
theorem dX12_init_124 : decode cX12_init 124 = .ok (.putfield 57, 3) := by decide +kernel
theorem dX12_init_127 : decode cX12_init 127 = .ok (.aload_n 0, 1) := by decide +kernel
theorem dX12_init_128 : decode cX12_init 128 = .ok (.iconst 3, 1) := by decide +kernel
theorem dX12_init_129 : decode cX12_init 129 = .ok (.newarray .int, 2) := by decide +kernel
theorem dX12_init_131 : decode cX12_init 131 = .ok (.putfield 60, 3) := by decide +kernel
theorem dX12_init_134 : decode cX12_init 134 = .ok (.aload_n 0, 1) := by decide +kernel
theorem dX12_init_135 : decode cX12_init 135 = .ok (.bipush 20, 2) := by decide +kernel
theorem dX12_init_137 : decode cX12_init 137 = .ok (.newarray .int, 2) := by decide +kernel
theorem dX12_init_139 : decode cX12_init 139 = .ok (.putfield 63, 3) := by decide +kernel
theorem dX12_init_142 : decode cX12_init 142 = .ok (.aload_n 0, 1) := by decide +kernel
theorem dX12_init_143 : decode cX12_init 143 = .ok (.getfield 9, 3) := by decide +kernel
theorem dX12_init_146 : decode cX12_init 146 = .ok (.iconst 4, 1) := by decide +kernel
theorem dX12_init_147 : decode cX12_init 147 = .ok (.iconst 1, 1) := by decide +kernel
theorem dX12_init_148 : decode cX12_init 148 = .ok (.iastore, 1) := by decide +kernel
theorem dX12_init_149 : decode cX12_init 149 = .ok (.return_, 1) := by decide +kernel
theorem dX12_in_0 : decode cX12_in 0 = .ok (.iload_n 0, 1) := by decide +kernel
theorem dX12_in_1 : decode cX12_in 1 = .ok (.iload_n 1, 1) := by decide +kernel
theorem dX12_in_2 : decode cX12_in 2 = .ok (.if_icmp .lt 12, 3) := by decide +kernel
theorem dX12_in_5 : decode cX12_in 5 = .ok (.iload_n 0, 1) := by decide +kernel
theorem dX12_in_6 : decode cX12_in 6 = .ok (.iload_n 2, 1) := by decide +kernel
theorem dX12_in_7 : decode cX12_in 7 = .ok (.if_icmp .gt 7, 3) := by decide +kernel
theorem dX12_in_10 : decode cX12_in 10 = .ok (.iconst 1, 1) := by decide +kernel
theorem dX12_in_11 : decode cX12_in 11 = .ok (.goto 4, 3) := by decide +kernel
theorem dX12_in_14 : decode cX12_in 14 = .ok (.iconst 0, 1) := by decide +kernel
theorem dX12_in_15 : decode cX12_in 15 = .ok (.ireturn, 1) := by decide +kernel
theorem dX12_isSort_0 : decode cX12_isSort 0 = .ok (.iload_n 1, 1) := by decide +kernel
theorem dX12_isSort_1 : decode cX12_isSort 1 = .ok (.iconst 0, 1) := by decide +kernel
theorem dX12_isSort_2 : decode cX12_isSort 2 = .ok (.aload_n 0, 1) := by decide +kernel
theorem dX12_isSort_3 : decode cX12_isSort 3 = .ok (.getfield 9, 3) := by decide +kernel
theorem dX12_isSort_6 : decode cX12_isSort 6 = .ok (.iconst 0, 1) := by decide +kernel
theorem dX12_isSort_7 : decode cX12_isSort 7 = .ok (.iaload, 1) := by decide +kernel
theorem dX12_isSort_8 : decode cX12_isSort 8 = .ok (.iconst 1, 1) := by decide +kernel
theorem dX12_isSort_9 : decode cX12_isSort 9 = .ok (.isub, 1) := by decide +kernel
theorem dX12_isSort_10 : decode cX12_isSort 10 = .ok (.invokestatic 69, 3) := by decide +kernel
theorem dX12_isSort_13 : decode cX12_isSort 13 = .ok (.ireturn, 1) := by decide +kernel
theorem dX12_isThing_0 : decode cX12_isThing 0 = .ok (.iload_n 1, 1) := by decide +kernel
theorem dX12_isThing_1 : decode cX12_isThing 1 = .ok (.iconst 0, 1) := by decide +kernel
theorem dX12_isThing_2 : decode cX12_isThing 2 = .ok (.aload_n 0, 1) := by decide +kernel
theorem dX12_isThing_3 : decode cX12_isThing 3 = .ok (.getfield 9, 3) := by decide +kernel
theorem dX12_isThing_6 : decode cX12_isThing 6 = .ok (.iconst 1, 1) := by decide +kernel
theorem dX12_isThing_7 : decode cX12_isThing 7 = .ok (.iaload, 1) := by decide +kernel
theorem dX12_isThing_8 : decode cX12_isThing 8 = .ok (.iconst 1, 1) := by decide +kernel
theorem dX12_isThing_9 : decode cX12_isThing 9 = .ok (.isub, 1) := by decide +kernel
theorem dX12_isThing_10 : decode cX12_isThing 10 = .ok (.invokestatic 69, 3) := by decide +kernel
theorem dX12_isThing_13 : decode cX12_isThing 13 = .ok (.ireturn, 1) := by decide +kernel
theorem dX12_isPlan_0 : decode cX12_isPlan 0 = .ok (.iload_n 1, 1) := by decide +kernel
theorem dX12_isPlan_1 : decode cX12_isPlan 1 = .ok (.iconst 0, 1) := by decide +kernel
theorem dX12_isPlan_2 : decode cX12_isPlan 2 = .ok (.aload_n 0, 1) := by decide +kernel
theorem dX12_isPlan_3 : decode cX12_isPlan 3 = .ok (.getfield 9, 3) := by decide +kernel
theorem dX12_isPlan_6 : decode cX12_isPlan 6 = .ok (.iconst 2, 1) := by decide +kernel
theorem dX12_isPlan_7 : decode cX12_isPlan 7 = .ok (.iaload, 1) := by decide +kernel
theorem dX12_isPlan_8 : decode cX12_isPlan 8 = .ok (.iconst 1, 1) := by decide +kernel
theorem dX12_isPlan_9 : decode cX12_isPlan 9 = .ok (.isub, 1) := by decide +kernel
theorem dX12_isPlan_10 : decode cX12_isPlan 10 = .ok (.invokestatic 69, 3) := by decide +kernel
theorem dX12_isPlan_13 : decode cX12_isPlan 13 = .ok (.ireturn, 1) := by decide +kernel
theorem dX12_count1_0 : decode cX12_count1 0 = .ok (.iconst 0, 1) := by decide +kernel
theorem dX12_count1_1 : decode cX12_count1 1 = .ok (.istore_n 1, 1) := by decide +kernel
theorem dX12_count1_2 : decode cX12_count1 2 = .ok (.iconst 0, 1) := by decide +kernel
theorem dX12_count1_3 : decode cX12_count1 3 = .ok (.istore_n 2, 1) := by decide +kernel
theorem dX12_count1_4 : decode cX12_count1 4 = .ok (.iload_n 2, 1) := by decide +kernel
theorem dX12_count1_5 : decode cX12_count1 5 = .ok (.bipush 8, 2) := by decide +kernel
theorem dX12_count1_7 : decode cX12_count1 7 = .ok (.if_icmp .ge 17, 3) := by decide +kernel
theorem dX12_count1_10 : decode cX12_count1 10 = .ok (.iload_n 1, 1) := by decide +kernel
theorem dX12_count1_11 : decode cX12_count1 11 = .ok (.iload_n 0, 1) := by decide +kernel
theorem dX12_count1_12 : decode cX12_count1 12 = .ok (.iload_n 2, 1) := by decide +kernel
theorem dX12_count1_13 : decode cX12_count1 13 = .ok (.ishr, 1) := by decide +kernel
theorem dX12_count1_14 : decode cX12_count1 14 = .ok (.iconst 1, 1) := by decide +kernel
theorem dX12_count1_15 : decode cX12_count1 15 = .ok (.iand, 1) := by decide +kernel
theorem dX12_count1_16 : decode cX12_count1 16 = .ok (.iadd, 1) := by decide +kernel
theorem dX12_count1_17 : decode cX12_count1 17 = .ok (.istore_n 1, 1) := by decide +kernel
theorem dX12_count1_18 : decode cX12_count1 18 = .ok (.iinc 2 1, 3) := by decide +kernel
theorem dX12_count1_21 : decode cX12_count1 21 = .ok (.goto (-17), 3) := by decide +kernel
theorem dX12_count1_24 : decode cX12_count1 24 = .ok (.iload_n 1, 1) := by decide +kernel
theorem dX12_count1_25 : decode cX12_count1 25 = .ok (.ireturn, 1) := by decide +kernel
theorem dX12_feed_0 : decode cX12_feed 0 = .ok (.iload_n 3, 1) := by decide +kernel
theorem dX12_feed_1 : decode cX12_feed 1 = .ok (.iconst 1, 1) := by decide +kernel
theorem dX12_feed_2 : decode cX12_feed 2 = .ok (.bipush 8, 2) := by decide +kernel
theorem dX12_feed_4 : decode cX12_feed 4 = .ok (.invokestatic 69, 3) := by decide +kernel
theorem dX12_feed_7 : decode cX12_feed 7 = .ok (.ifCond .ne 6, 3) := by decide +kernel
theorem dX12_feed_10 : decode cX12_feed 10 = .ok (.bipush (-2), 2) := by decide +kernel
theorem dX12_feed_12 : decode cX12_feed 12 = .ok (.ireturn, 1) := by decide +kernel
theorem dX12_feed_13 : decode cX12_feed 13 = .ok (.aload_n 0, 1) := by decide +kernel
theorem dX12_feed_14 : decode cX12_feed 14 = .ok (.getfield 9, 3) := by decide +kernel
theorem dX12_feed_17 : decode cX12_feed 17 = .ok (.iconst 5, 1) := by decide +kernel
theorem dX12_feed_18 : decode cX12_feed 18 = .ok (.iaload, 1) := by decide +kernel
theorem dX12_feed_19 : decode cX12_feed 19 = .ok (.iload_n 3, 1) := by decide +kernel
theorem dX12_feed_20 : decode cX12_feed 20 = .ok (.iadd, 1) := by decide +kernel
theorem dX12_feed_21 : decode cX12_feed 21 = .ok (.bipush 120, 2) := by decide +kernel
theorem dX12_feed_23 : decode cX12_feed 23 = .ok (.if_icmp .le 6, 3) := by decide +kernel
theorem dX12_feed_26 : decode cX12_feed 26 = .ok (.bipush (-4), 2) := by decide +kernel
theorem dX12_feed_28 : decode cX12_feed 28 = .ok (.ireturn, 1) := by decide +kernel
theorem dX12_feed_29 : decode cX12_feed 29 = .ok (.iload_n 3, 1) := by decide +kernel
theorem dX12_feed_30 : decode cX12_feed 30 = .ok (.iconst 1, 1) := by decide +kernel
theorem dX12_feed_31 : decode cX12_feed 31 = .ok (.isub, 1) := by decide +kernel
theorem dX12_feed_32 : decode cX12_feed 32 = .ok (.istore 4, 2) := by decide +kernel
theorem dX12_feed_34 : decode cX12_feed 34 = .ok (.iload 4, 2) := by decide +kernel
theorem dX12_feed_36 : decode cX12_feed 36 = .ok (.ifCond .lt 45, 3) := by decide +kernel
theorem dX12_feed_39 : decode cX12_feed 39 = .ok (.aload_n 0, 1) := by decide +kernel
theorem dX12_feed_40 : decode cX12_feed 40 = .ok (.getfield 9, 3) := by decide +kernel
theorem dX12_feed_43 : decode cX12_feed 43 = .ok (.bipush 10, 2) := by decide +kernel
theorem dX12_feed_45 : decode cX12_feed 45 = .ok (.aload_n 0, 1) := by decide +kernel
theorem dX12_feed_46 : decode cX12_feed 46 = .ok (.getfield 9, 3) := by decide +kernel
theorem dX12_feed_49 : decode cX12_feed 49 = .ok (.iconst 5, 1) := by decide +kernel
theorem dX12_feed_50 : decode cX12_feed 50 = .ok (.iaload, 1) := by decide +kernel
theorem dX12_feed_51 : decode cX12_feed 51 = .ok (.iadd, 1) := by decide +kernel
theorem dX12_feed_52 : decode cX12_feed 52 = .ok (.lload_n 1, 1) := by decide +kernel
theorem dX12_feed_53 : decode cX12_feed 53 = .ok (.bipush 8, 2) := by decide +kernel
theorem dX12_feed_55 : decode cX12_feed 55 = .ok (.iload 4, 2) := by decide +kernel
theorem dX12_feed_57 : decode cX12_feed 57 = .ok (.imul, 1) := by decide +kernel
theorem dX12_feed_58 : decode cX12_feed 58 = .ok (.lshr, 1) := by decide +kernel
theorem dX12_feed_59 : decode cX12_feed 59 = .ok (.ldc2_w 73, 3) := by decide +kernel
theorem dX12_feed_62 : decode cX12_feed 62 = .ok (.land, 1) := by decide +kernel
theorem dX12_feed_63 : decode cX12_feed 63 = .ok (.l2i, 1) := by decide +kernel
theorem dX12_feed_64 : decode cX12_feed 64 = .ok (.iastore, 1) := by decide +kernel
theorem dX12_feed_65 : decode cX12_feed 65 = .ok (.aload_n 0, 1) := by decide +kernel
theorem dX12_feed_66 : decode cX12_feed 66 = .ok (.getfield 9, 3) := by decide +kernel
theorem dX12_feed_69 : decode cX12_feed 69 = .ok (.iconst 5, 1) := by decide +kernel
theorem dX12_feed_70 : decode cX12_feed 70 = .ok (.dup2, 1) := by decide +kernel
theorem dX12_feed_71 : decode cX12_feed 71 = .ok (.iaload, 1) := by decide +kernel
theorem dX12_feed_72 : decode cX12_feed 72 = .ok (.iconst 1, 1) := by decide +kernel
theorem dX12_feed_73 : decode cX12_feed 73 = .ok (.iadd, 1) := by decide +kernel
theorem dX12_feed_74 : decode cX12_feed 74 = .ok (.iastore, 1) := by decide +kernel
theorem dX12_feed_75 : decode cX12_feed 75 = .ok (.iinc 4 (-1), 3) := by decide +kernel
theorem dX12_feed_78 : decode cX12_feed 78 = .ok (.goto (-44), 3) := by decide +kernel
theorem dX12_feed_81 : decode cX12_feed 81 = .ok (.aload_n 0, 1) := by decide +kernel
theorem dX12_feed_82 : decode cX12_feed 82 = .ok (.getfield 9, 3) := by decide +kernel
theorem dX12_feed_85 : decode cX12_feed 85 = .ok (.iconst 5, 1) := by decide +kernel
theorem dX12_feed_86 : decode cX12_feed 86 = .ok (.iaload, 1) := by decide +kernel
theorem dX12_feed_87 : decode cX12_feed 87 = .ok (.ireturn, 1) := by decide +kernel
theorem dX12_here_0 : decode cX12_here 0 = .ok (.aload_n 0, 1) := by decide +kernel
theorem dX12_here_1 : decode cX12_here 1 = .ok (.getfield 75, 3) := by decide +kernel
theorem dX12_here_4 : decode cX12_here 4 = .ok (.aload_n 0, 1) := by decide +kernel
theorem dX12_here_5 : decode cX12_here 5 = .ok (.getfield 78, 3) := by decide +kernel
theorem dX12_here_8 : decode cX12_here 8 = .ok (.if_icmp .ge 18, 3) := by decide +kernel
theorem dX12_here_11 : decode cX12_here 11 = .ok (.aload_n 0, 1) := by decide +kernel
theorem dX12_here_12 : decode cX12_here 12 = .ok (.getfield 9, 3) := by decide +kernel
theorem dX12_here_15 : decode cX12_here 15 = .ok (.bipush 10, 2) := by decide +kernel
theorem dX12_here_17 : decode cX12_here 17 = .ok (.aload_n 0, 1) := by decide +kernel
theorem dX12_here_18 : decode cX12_here 18 = .ok (.getfield 75, 3) := by decide +kernel
theorem dX12_here_21 : decode cX12_here 21 = .ok (.iadd, 1) := by decide +kernel
theorem dX12_here_22 : decode cX12_here 22 = .ok (.iaload, 1) := by decide +kernel
theorem dX12_here_23 : decode cX12_here 23 = .ok (.goto 4, 3) := by decide +kernel
theorem dX12_here_26 : decode cX12_here 26 = .ok (.iconst (-1), 1) := by decide +kernel
theorem dX12_here_27 : decode cX12_here 27 = .ok (.ireturn, 1) := by decide +kernel
theorem dX12_must_0 : decode cX12_must 0 = .ok (.aload_n 0, 1) := by decide +kernel
theorem dX12_must_1 : decode cX12_must 1 = .ok (.aload_n 0, 1) := by decide +kernel
theorem dX12_must_2 : decode cX12_must 2 = .ok (.getfield 81, 3) := by decide +kernel
theorem dX12_must_5 : decode cX12_must 5 = .ok (.ifCond .ne 11, 3) := by decide +kernel
theorem dX12_must_8 : decode cX12_must 8 = .ok (.aload_n 0, 1) := by decide +kernel
theorem dX12_must_9 : decode cX12_must 9 = .ok (.invokevirtual 85, 3) := by decide +kernel
theorem dX12_must_12 : decode cX12_must 12 = .ok (.iload_n 1, 1) := by decide +kernel
theorem dX12_must_13 : decode cX12_must 13 = .ok (.if_icmp .eq 7, 3) := by decide +kernel
theorem dX12_must_16 : decode cX12_must 16 = .ok (.iconst 1, 1) := by decide +kernel
theorem dX12_must_17 : decode cX12_must 17 = .ok (.goto 4, 3) := by decide +kernel
theorem dX12_must_20 : decode cX12_must 20 = .ok (.iconst 0, 1) := by decide +kernel
theorem dX12_must_21 : decode cX12_must 21 = .ok (.putfield 81, 3) := by decide +kernel
theorem dX12_must_24 : decode cX12_must 24 = .ok (.aload_n 0, 1) := by decide +kernel
theorem dX12_must_25 : decode cX12_must 25 = .ok (.dup, 1) := by decide +kernel
theorem dX12_must_26 : decode cX12_must 26 = .ok (.getfield 75, 3) := by decide +kernel
theorem dX12_must_29 : decode cX12_must 29 = .ok (.aload_n 0, 1) := by decide +kernel
theorem dX12_must_30 : decode cX12_must 30 = .ok (.getfield 81, 3) := by decide +kernel
theorem dX12_must_33 : decode cX12_must 33 = .ok (.ifCond .eq 7, 3) := by decide +kernel
theorem dX12_must_36 : decode cX12_must 36 = .ok (.iconst 0, 1) := by decide +kernel
theorem dX12_must_37 : decode cX12_must 37 = .ok (.goto 4, 3) := by decide +kernel
theorem dX12_must_40 : decode cX12_must 40 = .ok (.iconst 1, 1) := by decide +kernel
theorem dX12_must_41 : decode cX12_must 41 = .ok (.iadd, 1) := by decide +kernel
theorem dX12_must_42 : decode cX12_must 42 = .ok (.putfield 75, 3) := by decide +kernel
theorem dX12_must_45 : decode cX12_must 45 = .ok (.return_, 1) := by decide +kernel
theorem dX12_spells_0 : decode cX12_spells 0 = .ok (.iconst 0, 1) := by decide +kernel
theorem dX12_spells_1 : decode cX12_spells 1 = .ok (.istore_n 2, 1) := by decide +kernel
theorem dX12_spells_2 : decode cX12_spells 2 = .ok (.iload_n 2, 1) := by decide +kernel
theorem dX12_spells_3 : decode cX12_spells 3 = .ok (.aload_n 1, 1) := by decide +kernel
theorem dX12_spells_4 : decode cX12_spells 4 = .ok (.invokevirtual 89, 3) := by decide +kernel
theorem dX12_spells_7 : decode cX12_spells 7 = .ok (.if_icmp .ge 18, 3) := by decide +kernel
theorem dX12_spells_10 : decode cX12_spells 10 = .ok (.aload_n 0, 1) := by decide +kernel
theorem dX12_spells_11 : decode cX12_spells 11 = .ok (.aload_n 1, 1) := by decide +kernel
theorem dX12_spells_12 : decode cX12_spells 12 = .ok (.iload_n 2, 1) := by decide +kernel
theorem dX12_spells_13 : decode cX12_spells 13 = .ok (.invokevirtual 94, 3) := by decide +kernel
theorem dX12_spells_16 : decode cX12_spells 16 = .ok (.invokevirtual 98, 3) := by decide +kernel
theorem dX12_spells_19 : decode cX12_spells 19 = .ok (.iinc 2 1, 3) := by decide +kernel
theorem dX12_spells_22 : decode cX12_spells 22 = .ok (.goto (-20), 3) := by decide +kernel
theorem dX12_spells_25 : decode cX12_spells 25 = .ok (.return_, 1) := by decide +kernel
theorem dX12_figures_0 : decode cX12_figures 0 = .ok (.aload_n 0, 1) := by decide +kernel
theorem dX12_figures_1 : decode cX12_figures 1 = .ok (.aload_n 0, 1) := by decide +kernel
theorem dX12_figures_2 : decode cX12_figures 2 = .ok (.getfield 81, 3) := by decide +kernel
theorem dX12_figures_5 : decode cX12_figures 5 = .ok (.ifCond .ne 17, 3) := by decide +kernel
theorem dX12_figures_8 : decode cX12_figures 8 = .ok (.aload_n 0, 1) := by decide +kernel
theorem dX12_figures_9 : decode cX12_figures 9 = .ok (.invokevirtual 85, 3) := by decide +kernel
theorem dX12_figures_12 : decode cX12_figures 12 = .ok (.bipush 48, 2) := by decide +kernel
theorem dX12_figures_14 : decode cX12_figures 14 = .ok (.bipush 57, 2) := by decide +kernel
theorem dX12_figures_16 : decode cX12_figures 16 = .ok (.invokestatic 69, 3) := by decide +kernel
theorem dX12_figures_19 : decode cX12_figures 19 = .ok (.ifCond .ne 7, 3) := by decide +kernel
theorem dX12_figures_22 : decode cX12_figures 22 = .ok (.iconst 1, 1) := by decide +kernel
theorem dX12_figures_23 : decode cX12_figures 23 = .ok (.goto 4, 3) := by decide +kernel
theorem dX12_figures_26 : decode cX12_figures 26 = .ok (.iconst 0, 1) := by decide +kernel
theorem dX12_figures_27 : decode cX12_figures 27 = .ok (.putfield 81, 3) := by decide +kernel
theorem dX12_figures_30 : decode cX12_figures 30 = .ok (.iconst 0, 1) := by decide +kernel
theorem dX12_figures_31 : decode cX12_figures 31 = .ok (.istore_n 1, 1) := by decide +kernel
theorem dX12_figures_32 : decode cX12_figures 32 = .ok (.iconst 0, 1) := by decide +kernel
theorem dX12_figures_33 : decode cX12_figures 33 = .ok (.istore_n 2, 1) := by decide +kernel
theorem dX12_figures_34 : decode cX12_figures 34 = .ok (.iload_n 2, 1) := by decide +kernel
theorem dX12_figures_35 : decode cX12_figures 35 = .ok (.iconst 3, 1) := by decide +kernel
theorem dX12_figures_36 : decode cX12_figures 36 = .ok (.if_icmp .ge 61, 3) := by decide +kernel
theorem dX12_figures_39 : decode cX12_figures 39 = .ok (.aload_n 0, 1) := by decide +kernel
theorem dX12_figures_40 : decode cX12_figures 40 = .ok (.getfield 81, 3) := by decide +kernel
theorem dX12_figures_43 : decode cX12_figures 43 = .ok (.ifCond .ne 54, 3) := by decide +kernel
theorem dX12_figures_46 : decode cX12_figures 46 = .ok (.aload_n 0, 1) := by decide +kernel
theorem dX12_figures_47 : decode cX12_figures 47 = .ok (.invokevirtual 85, 3) := by decide +kernel
theorem dX12_figures_50 : decode cX12_figures 50 = .ok (.bipush 48, 2) := by decide +kernel
theorem dX12_figures_52 : decode cX12_figures 52 = .ok (.bipush 57, 2) := by decide +kernel
theorem dX12_figures_54 : decode cX12_figures 54 = .ok (.invokestatic 69, 3) := by decide +kernel
theorem dX12_figures_57 : decode cX12_figures 57 = .ok (.ifCond .eq 40, 3) := by decide +kernel
theorem dX12_figures_60 : decode cX12_figures 60 = .ok (.iload_n 2, 1) := by decide +kernel
theorem dX12_figures_61 : decode cX12_figures 61 = .ok (.ifCond .eq 7, 3) := by decide +kernel
theorem dX12_figures_64 : decode cX12_figures 64 = .ok (.iload_n 1, 1) := by decide +kernel
theorem dX12_figures_65 : decode cX12_figures 65 = .ok (.ifCond .le 32, 3) := by decide +kernel
theorem dX12_figures_68 : decode cX12_figures 68 = .ok (.bipush 10, 2) := by decide +kernel
theorem dX12_figures_70 : decode cX12_figures 70 = .ok (.iload_n 1, 1) := by decide +kernel
theorem dX12_figures_71 : decode cX12_figures 71 = .ok (.imul, 1) := by decide +kernel
theorem dX12_figures_72 : decode cX12_figures 72 = .ok (.aload_n 0, 1) := by decide +kernel
theorem dX12_figures_73 : decode cX12_figures 73 = .ok (.invokevirtual 85, 3) := by decide +kernel
theorem dX12_figures_76 : decode cX12_figures 76 = .ok (.iadd, 1) := by decide +kernel
theorem dX12_figures_77 : decode cX12_figures 77 = .ok (.bipush 48, 2) := by decide +kernel
theorem dX12_figures_79 : decode cX12_figures 79 = .ok (.isub, 1) := by decide +kernel
theorem dX12_figures_80 : decode cX12_figures 80 = .ok (.istore_n 1, 1) := by decide +kernel
theorem dX12_figures_81 : decode cX12_figures 81 = .ok (.aload_n 0, 1) := by decide +kernel
theorem dX12_figures_82 : decode cX12_figures 82 = .ok (.dup, 1) := by decide +kernel
theorem dX12_figures_83 : decode cX12_figures 83 = .ok (.getfield 75, 3) := by decide +kernel
theorem dX12_figures_86 : decode cX12_figures 86 = .ok (.iconst 1, 1) := by decide +kernel
theorem dX12_figures_87 : decode cX12_figures 87 = .ok (.iadd, 1) := by decide +kernel
theorem dX12_figures_88 : decode cX12_figures 88 = .ok (.putfield 75, 3) := by decide +kernel
theorem dX12_figures_91 : decode cX12_figures 91 = .ok (.iinc 2 1, 3) := by decide +kernel
theorem dX12_figures_94 : decode cX12_figures 94 = .ok (.goto (-60), 3) := by decide +kernel
theorem dX12_figures_97 : decode cX12_figures 97 = .ok (.iload_n 1, 1) := by decide +kernel
theorem dX12_figures_98 : decode cX12_figures 98 = .ok (.ireturn, 1) := by decide +kernel
theorem dX12_emits_0 : decode cX12_emits 0 = .ok (.aload_n 0, 1) := by decide +kernel
theorem dX12_emits_1 : decode cX12_emits 1 = .ok (.getfield 81, 3) := by decide +kernel
theorem dX12_emits_4 : decode cX12_emits 4 = .ok (.ifCond .ne 52, 3) := by decide +kernel
theorem dX12_emits_7 : decode cX12_emits 7 = .ok (.aload_n 0, 1) := by decide +kernel
theorem dX12_emits_8 : decode cX12_emits 8 = .ok (.getfield 9, 3) := by decide +kernel
theorem dX12_emits_11 : decode cX12_emits 11 = .ok (.sipush 170, 3) := by decide +kernel
theorem dX12_emits_14 : decode cX12_emits 14 = .ok (.sipush 140, 3) := by decide +kernel
theorem dX12_emits_17 : decode cX12_emits 17 = .ok (.aload_n 0, 1) := by decide +kernel
theorem dX12_emits_18 : decode cX12_emits 18 = .ok (.getfield 102, 3) := by decide +kernel
theorem dX12_emits_21 : decode cX12_emits 21 = .ok (.imul, 1) := by decide +kernel
theorem dX12_emits_22 : decode cX12_emits 22 = .ok (.iadd, 1) := by decide +kernel
theorem dX12_emits_23 : decode cX12_emits 23 = .ok (.aload_n 0, 1) := by decide +kernel
theorem dX12_emits_24 : decode cX12_emits 24 = .ok (.getfield 9, 3) := by decide +kernel
theorem dX12_emits_27 : decode cX12_emits 27 = .ok (.sipush 130, 3) := by decide +kernel
theorem dX12_emits_30 : decode cX12_emits 30 = .ok (.aload_n 0, 1) := by decide +kernel
theorem dX12_emits_31 : decode cX12_emits 31 = .ok (.getfield 102, 3) := by decide +kernel
theorem dX12_emits_34 : decode cX12_emits 34 = .ok (.iadd, 1) := by decide +kernel
theorem dX12_emits_35 : decode cX12_emits 35 = .ok (.iaload, 1) := by decide +kernel
theorem dX12_emits_36 : decode cX12_emits 36 = .ok (.iadd, 1) := by decide +kernel
theorem dX12_emits_37 : decode cX12_emits 37 = .ok (.iload_n 1, 1) := by decide +kernel
theorem dX12_emits_38 : decode cX12_emits 38 = .ok (.iastore, 1) := by decide +kernel
theorem dX12_emits_39 : decode cX12_emits 39 = .ok (.aload_n 0, 1) := by decide +kernel
theorem dX12_emits_40 : decode cX12_emits 40 = .ok (.getfield 9, 3) := by decide +kernel
theorem dX12_emits_43 : decode cX12_emits 43 = .ok (.sipush 130, 3) := by decide +kernel
theorem dX12_emits_46 : decode cX12_emits 46 = .ok (.aload_n 0, 1) := by decide +kernel
theorem dX12_emits_47 : decode cX12_emits 47 = .ok (.getfield 102, 3) := by decide +kernel
theorem dX12_emits_50 : decode cX12_emits 50 = .ok (.iadd, 1) := by decide +kernel
theorem dX12_emits_51 : decode cX12_emits 51 = .ok (.dup2, 1) := by decide +kernel
theorem dX12_emits_52 : decode cX12_emits 52 = .ok (.iaload, 1) := by decide +kernel
theorem dX12_emits_53 : decode cX12_emits 53 = .ok (.iconst 1, 1) := by decide +kernel
theorem dX12_emits_54 : decode cX12_emits 54 = .ok (.iadd, 1) := by decide +kernel
theorem dX12_emits_55 : decode cX12_emits 55 = .ok (.iastore, 1) := by decide +kernel
theorem dX12_emits_56 : decode cX12_emits 56 = .ok (.return_, 1) := by decide +kernel
theorem dX12_factor_0 : decode cX12_factor 0 = .ok (.aload_n 0, 1) := by decide +kernel
theorem dX12_factor_1 : decode cX12_factor 1 = .ok (.getfield 81, 3) := by decide +kernel
theorem dX12_factor_4 : decode cX12_factor 4 = .ok (.ifCond .eq 4, 3) := by decide +kernel
theorem dX12_factor_7 : decode cX12_factor 7 = .ok (.return_, 1) := by decide +kernel
theorem dX12_factor_8 : decode cX12_factor 8 = .ok (.aload_n 0, 1) := by decide +kernel
theorem dX12_factor_9 : decode cX12_factor 9 = .ok (.invokevirtual 85, 3) := by decide +kernel
theorem dX12_factor_12 : decode cX12_factor 12 = .ok (.istore_n 1, 1) := by decide +kernel
theorem dX12_factor_13 : decode cX12_factor 13 = .ok (.iload_n 1, 1) := by decide +kernel
theorem dX12_factor_14 : decode cX12_factor 14 = .ok (.bipush 33, 2) := by decide +kernel
theorem dX12_factor_16 : decode cX12_factor 16 = .ok (.if_icmp .eq 9, 3) := by decide +kernel
theorem dX12_factor_19 : decode cX12_factor 19 = .ok (.iload_n 1, 1) := by decide +kernel
theorem dX12_factor_20 : decode cX12_factor 20 = .ok (.bipush 40, 2) := by decide +kernel
theorem dX12_factor_22 : decode cX12_factor 22 = .ok (.if_icmp .ne 90, 3) := by decide +kernel
theorem dX12_factor_25 : decode cX12_factor 25 = .ok (.aload_n 0, 1) := by decide +kernel
theorem dX12_factor_26 : decode cX12_factor 26 = .ok (.aload_n 0, 1) := by decide +kernel
theorem dX12_factor_27 : decode cX12_factor 27 = .ok (.getfield 105, 3) := by decide +kernel
theorem dX12_factor_30 : decode cX12_factor 30 = .ok (.iconst 5, 1) := by decide +kernel
theorem dX12_factor_31 : decode cX12_factor 31 = .ok (.if_icmp .ne 7, 3) := by decide +kernel
theorem dX12_factor_34 : decode cX12_factor 34 = .ok (.iconst 1, 1) := by decide +kernel
theorem dX12_factor_35 : decode cX12_factor 35 = .ok (.goto 4, 3) := by decide +kernel
theorem dX12_factor_38 : decode cX12_factor 38 = .ok (.iconst 0, 1) := by decide +kernel
theorem dX12_factor_39 : decode cX12_factor 39 = .ok (.putfield 81, 3) := by decide +kernel
theorem dX12_factor_42 : decode cX12_factor 42 = .ok (.aload_n 0, 1) := by decide +kernel
theorem dX12_factor_43 : decode cX12_factor 43 = .ok (.dup, 1) := by decide +kernel
theorem dX12_factor_44 : decode cX12_factor 44 = .ok (.getfield 105, 3) := by decide +kernel
theorem dX12_factor_47 : decode cX12_factor 47 = .ok (.iconst 1, 1) := by decide +kernel
theorem dX12_factor_48 : decode cX12_factor 48 = .ok (.iadd, 1) := by decide +kernel
theorem dX12_factor_49 : decode cX12_factor 49 = .ok (.putfield 105, 3) := by decide +kernel
theorem dX12_factor_52 : decode cX12_factor 52 = .ok (.aload_n 0, 1) := by decide +kernel
theorem dX12_factor_53 : decode cX12_factor 53 = .ok (.dup, 1) := by decide +kernel
theorem dX12_factor_54 : decode cX12_factor 54 = .ok (.getfield 75, 3) := by decide +kernel
theorem dX12_factor_57 : decode cX12_factor 57 = .ok (.aload_n 0, 1) := by decide +kernel
theorem dX12_factor_58 : decode cX12_factor 58 = .ok (.getfield 81, 3) := by decide +kernel
theorem dX12_factor_61 : decode cX12_factor 61 = .ok (.ifCond .eq 7, 3) := by decide +kernel
theorem dX12_factor_64 : decode cX12_factor 64 = .ok (.iconst 0, 1) := by decide +kernel
theorem dX12_factor_65 : decode cX12_factor 65 = .ok (.goto 4, 3) := by decide +kernel
theorem dX12_factor_68 : decode cX12_factor 68 = .ok (.iconst 1, 1) := by decide +kernel
theorem dX12_factor_69 : decode cX12_factor 69 = .ok (.iadd, 1) := by decide +kernel
theorem dX12_factor_70 : decode cX12_factor 70 = .ok (.putfield 75, 3) := by decide +kernel
theorem dX12_factor_73 : decode cX12_factor 73 = .ok (.iload_n 1, 1) := by decide +kernel
theorem dX12_factor_74 : decode cX12_factor 74 = .ok (.bipush 33, 2) := by decide +kernel
theorem dX12_factor_76 : decode cX12_factor 76 = .ok (.if_icmp .ne 15, 3) := by decide +kernel
theorem dX12_factor_79 : decode cX12_factor 79 = .ok (.aload_n 0, 1) := by decide +kernel
theorem dX12_factor_80 : decode cX12_factor 80 = .ok (.invokevirtual 108, 3) := by decide +kernel
theorem dX12_factor_83 : decode cX12_factor 83 = .ok (.aload_n 0, 1) := by decide +kernel
theorem dX12_factor_84 : decode cX12_factor 84 = .ok (.iconst (-1), 1) := by decide +kernel
theorem dX12_factor_85 : decode cX12_factor 85 = .ok (.invokevirtual 111, 3) := by decide +kernel
theorem dX12_factor_88 : decode cX12_factor 88 = .ok (.goto 13, 3) := by decide +kernel
theorem dX12_factor_91 : decode cX12_factor 91 = .ok (.aload_n 0, 1) := by decide +kernel
theorem dX12_factor_92 : decode cX12_factor 92 = .ok (.invokevirtual 114, 3) := by decide +kernel
theorem dX12_factor_95 : decode cX12_factor 95 = .ok (.aload_n 0, 1) := by decide +kernel
theorem dX12_factor_96 : decode cX12_factor 96 = .ok (.bipush 41, 2) := by decide +kernel
theorem dX12_factor_98 : decode cX12_factor 98 = .ok (.invokevirtual 98, 3) := by decide +kernel
theorem dX12_factor_101 : decode cX12_factor 101 = .ok (.aload_n 0, 1) := by decide +kernel
theorem dX12_factor_102 : decode cX12_factor 102 = .ok (.dup, 1) := by decide +kernel
theorem dX12_factor_103 : decode cX12_factor 103 = .ok (.getfield 105, 3) := by decide +kernel
theorem dX12_factor_106 : decode cX12_factor 106 = .ok (.iconst 1, 1) := by decide +kernel
theorem dX12_factor_107 : decode cX12_factor 107 = .ok (.isub, 1) := by decide +kernel
theorem dX12_factor_108 : decode cX12_factor 108 = .ok (.putfield 105, 3) := by decide +kernel
theorem dX12_factor_111 : decode cX12_factor 111 = .ok (.return_, 1) := by decide +kernel
theorem dX12_factor_112 : decode cX12_factor 112 = .ok (.aload_n 0, 1) := by decide +kernel
theorem dX12_factor_113 : decode cX12_factor 113 = .ok (.iload_n 1, 1) := by decide +kernel
theorem dX12_factor_114 : decode cX12_factor 114 = .ok (.bipush 100, 2) := by decide +kernel
theorem dX12_factor_116 : decode cX12_factor 116 = .ok (.if_icmp .eq 13, 3) := by decide +kernel
theorem dX12_factor_119 : decode cX12_factor 119 = .ok (.iload_n 1, 1) := by decide +kernel
theorem dX12_factor_120 : decode cX12_factor 120 = .ok (.bipush 107, 2) := by decide +kernel
theorem dX12_factor_122 : decode cX12_factor 122 = .ok (.if_icmp .eq 7, 3) := by decide +kernel
theorem dX12_factor_125 : decode cX12_factor 125 = .ok (.iconst 1, 1) := by decide +kernel
theorem dX12_factor_126 : decode cX12_factor 126 = .ok (.goto 4, 3) := by decide +kernel
theorem dX12_factor_129 : decode cX12_factor 129 = .ok (.iconst 0, 1) := by decide +kernel
theorem dX12_factor_130 : decode cX12_factor 130 = .ok (.putfield 81, 3) := by decide +kernel
theorem dX12_factor_133 : decode cX12_factor 133 = .ok (.aload_n 0, 1) := by decide +kernel
theorem dX12_factor_134 : decode cX12_factor 134 = .ok (.dup, 1) := by decide +kernel
theorem dX12_factor_135 : decode cX12_factor 135 = .ok (.getfield 75, 3) := by decide +kernel
theorem dX12_factor_138 : decode cX12_factor 138 = .ok (.aload_n 0, 1) := by decide +kernel
theorem dX12_factor_139 : decode cX12_factor 139 = .ok (.getfield 81, 3) := by decide +kernel
theorem dX12_factor_142 : decode cX12_factor 142 = .ok (.ifCond .eq 7, 3) := by decide +kernel
theorem dX12_factor_145 : decode cX12_factor 145 = .ok (.iconst 0, 1) := by decide +kernel
theorem dX12_factor_146 : decode cX12_factor 146 = .ok (.goto 4, 3) := by decide +kernel
theorem dX12_factor_149 : decode cX12_factor 149 = .ok (.iconst 1, 1) := by decide +kernel
theorem dX12_factor_150 : decode cX12_factor 150 = .ok (.iadd, 1) := by decide +kernel
theorem dX12_factor_151 : decode cX12_factor 151 = .ok (.putfield 75, 3) := by decide +kernel
theorem dX12_factor_154 : decode cX12_factor 154 = .ok (.aload_n 0, 1) := by decide +kernel
theorem dX12_factor_155 : decode cX12_factor 155 = .ok (.invokevirtual 85, 3) := by decide +kernel
theorem dX12_factor_158 : decode cX12_factor 158 = .ok (.istore_n 2, 1) := by decide +kernel
theorem dX12_factor_159 : decode cX12_factor 159 = .ok (.aload_n 0, 1) := by decide +kernel
theorem dX12_factor_160 : decode cX12_factor 160 = .ok (.aload_n 0, 1) := by decide +kernel
theorem dX12_factor_161 : decode cX12_factor 161 = .ok (.getfield 81, 3) := by decide +kernel
theorem dX12_factor_164 : decode cX12_factor 164 = .ok (.ifCond .ne 21, 3) := by decide +kernel
theorem dX12_factor_167 : decode cX12_factor 167 = .ok (.iload_n 2, 1) := by decide +kernel
theorem dX12_factor_168 : decode cX12_factor 168 = .ok (.bipush 60, 2) := by decide +kernel
theorem dX12_factor_170 : decode cX12_factor 170 = .ok (.if_icmp .eq 19, 3) := by decide +kernel
theorem dX12_factor_173 : decode cX12_factor 173 = .ok (.iload_n 2, 1) := by decide +kernel
theorem dX12_factor_174 : decode cX12_factor 174 = .ok (.bipush 61, 2) := by decide +kernel
theorem dX12_factor_176 : decode cX12_factor 176 = .ok (.if_icmp .eq 13, 3) := by decide +kernel
theorem dX12_factor_179 : decode cX12_factor 179 = .ok (.iload_n 2, 1) := by decide +kernel
theorem dX12_factor_180 : decode cX12_factor 180 = .ok (.bipush 62, 2) := by decide +kernel
theorem dX12_factor_182 : decode cX12_factor 182 = .ok (.if_icmp .eq 7, 3) := by decide +kernel
theorem dX12_factor_185 : decode cX12_factor 185 = .ok (.iconst 1, 1) := by decide +kernel
theorem dX12_factor_186 : decode cX12_factor 186 = .ok (.goto 4, 3) := by decide +kernel
theorem dX12_factor_189 : decode cX12_factor 189 = .ok (.iconst 0, 1) := by decide +kernel
theorem dX12_factor_190 : decode cX12_factor 190 = .ok (.putfield 81, 3) := by decide +kernel
theorem dX12_factor_193 : decode cX12_factor 193 = .ok (.aload_n 0, 1) := by decide +kernel
theorem dX12_factor_194 : decode cX12_factor 194 = .ok (.dup, 1) := by decide +kernel
theorem dX12_factor_195 : decode cX12_factor 195 = .ok (.getfield 75, 3) := by decide +kernel
theorem dX12_factor_198 : decode cX12_factor 198 = .ok (.aload_n 0, 1) := by decide +kernel
theorem dX12_factor_199 : decode cX12_factor 199 = .ok (.getfield 81, 3) := by decide +kernel
theorem dX12_factor_202 : decode cX12_factor 202 = .ok (.ifCond .eq 7, 3) := by decide +kernel
theorem dX12_factor_205 : decode cX12_factor 205 = .ok (.iconst 0, 1) := by decide +kernel
theorem dX12_factor_206 : decode cX12_factor 206 = .ok (.goto 4, 3) := by decide +kernel
theorem dX12_factor_209 : decode cX12_factor 209 = .ok (.iconst 1, 1) := by decide +kernel
theorem dX12_factor_210 : decode cX12_factor 210 = .ok (.iadd, 1) := by decide +kernel
theorem dX12_factor_211 : decode cX12_factor 211 = .ok (.putfield 75, 3) := by decide +kernel
theorem dX12_factor_214 : decode cX12_factor 214 = .ok (.aload_n 0, 1) := by decide +kernel
theorem dX12_factor_215 : decode cX12_factor 215 = .ok (.invokevirtual 117, 3) := by decide +kernel
theorem dX12_factor_218 : decode cX12_factor 218 = .ok (.istore_n 3, 1) := by decide +kernel
theorem dX12_factor_219 : decode cX12_factor 219 = .ok (.aload_n 0, 1) := by decide +kernel
theorem dX12_factor_220 : decode cX12_factor 220 = .ok (.iload_n 1, 1) := by decide +kernel
theorem dX12_factor_221 : decode cX12_factor 221 = .ok (.bipush 100, 2) := by decide +kernel
theorem dX12_factor_223 : decode cX12_factor 223 = .ok (.if_icmp .ne 7, 3) := by decide +kernel
theorem dX12_factor_226 : decode cX12_factor 226 = .ok (.iconst 0, 1) := by decide +kernel
theorem dX12_factor_227 : decode cX12_factor 227 = .ok (.goto 4, 3) := by decide +kernel
theorem dX12_factor_230 : decode cX12_factor 230 = .ok (.iconst 1, 1) := by decide +kernel
theorem dX12_factor_231 : decode cX12_factor 231 = .ok (.iconst 2, 1) := by decide +kernel
theorem dX12_factor_232 : decode cX12_factor 232 = .ok (.iload_n 2, 1) := by decide +kernel
theorem dX12_factor_233 : decode cX12_factor 233 = .ok (.bipush 60, 2) := by decide +kernel
theorem dX12_factor_235 : decode cX12_factor 235 = .ok (.if_icmp .ne 7, 3) := by decide +kernel
theorem dX12_factor_238 : decode cX12_factor 238 = .ok (.iconst 0, 1) := by decide +kernel
theorem dX12_factor_239 : decode cX12_factor 239 = .ok (.goto 14, 3) := by decide +kernel
theorem dX12_factor_242 : decode cX12_factor 242 = .ok (.iload_n 2, 1) := by decide +kernel
theorem dX12_factor_243 : decode cX12_factor 243 = .ok (.bipush 61, 2) := by decide +kernel
theorem dX12_factor_245 : decode cX12_factor 245 = .ok (.if_icmp .ne 7, 3) := by decide +kernel
theorem dX12_factor_248 : decode cX12_factor 248 = .ok (.iconst 1, 1) := by decide +kernel
theorem dX12_factor_249 : decode cX12_factor 249 = .ok (.goto 4, 3) := by decide +kernel
theorem dX12_factor_252 : decode cX12_factor 252 = .ok (.iconst 2, 1) := by decide +kernel
theorem dX12_factor_253 : decode cX12_factor 253 = .ok (.imul, 1) := by decide +kernel
theorem dX12_factor_254 : decode cX12_factor 254 = .ok (.iadd, 1) := by decide +kernel
theorem dX12_factor_255 : decode cX12_factor 255 = .ok (.bipush 8, 2) := by decide +kernel
theorem dX12_factor_257 : decode cX12_factor 257 = .ok (.iload_n 3, 1) := by decide +kernel
theorem dX12_factor_258 : decode cX12_factor 258 = .ok (.imul, 1) := by decide +kernel
theorem dX12_factor_259 : decode cX12_factor 259 = .ok (.iadd, 1) := by decide +kernel
theorem dX12_factor_260 : decode cX12_factor 260 = .ok (.invokevirtual 111, 3) := by decide +kernel
theorem dX12_factor_263 : decode cX12_factor 263 = .ok (.return_, 1) := by decide +kernel
theorem dX12_every_0 : decode cX12_every 0 = .ok (.aload_n 0, 1) := by decide +kernel
theorem dX12_every_1 : decode cX12_every 1 = .ok (.invokevirtual 108, 3) := by decide +kernel
theorem dX12_every_4 : decode cX12_every 4 = .ok (.aload_n 0, 1) := by decide +kernel
theorem dX12_every_5 : decode cX12_every 5 = .ok (.getfield 81, 3) := by decide +kernel
theorem dX12_every_8 : decode cX12_every 8 = .ok (.ifCond .ne 35, 3) := by decide +kernel
theorem dX12_every_11 : decode cX12_every 11 = .ok (.aload_n 0, 1) := by decide +kernel
theorem dX12_every_12 : decode cX12_every 12 = .ok (.invokevirtual 85, 3) := by decide +kernel
theorem dX12_every_15 : decode cX12_every 15 = .ok (.bipush 38, 2) := by decide +kernel
theorem dX12_every_17 : decode cX12_every 17 = .ok (.if_icmp .ne 26, 3) := by decide +kernel
theorem dX12_every_20 : decode cX12_every 20 = .ok (.aload_n 0, 1) := by decide +kernel
theorem dX12_every_21 : decode cX12_every 21 = .ok (.dup, 1) := by decide +kernel
theorem dX12_every_22 : decode cX12_every 22 = .ok (.getfield 75, 3) := by decide +kernel
theorem dX12_every_25 : decode cX12_every 25 = .ok (.iconst 1, 1) := by decide +kernel
theorem dX12_every_26 : decode cX12_every 26 = .ok (.iadd, 1) := by decide +kernel
theorem dX12_every_27 : decode cX12_every 27 = .ok (.putfield 75, 3) := by decide +kernel
theorem dX12_every_30 : decode cX12_every 30 = .ok (.aload_n 0, 1) := by decide +kernel
theorem dX12_every_31 : decode cX12_every 31 = .ok (.invokevirtual 108, 3) := by decide +kernel
theorem dX12_every_34 : decode cX12_every 34 = .ok (.aload_n 0, 1) := by decide +kernel
theorem dX12_every_35 : decode cX12_every 35 = .ok (.bipush (-2), 2) := by decide +kernel
theorem dX12_every_37 : decode cX12_every 37 = .ok (.invokevirtual 111, 3) := by decide +kernel
theorem dX12_every_40 : decode cX12_every 40 = .ok (.goto (-36), 3) := by decide +kernel
theorem dX12_every_43 : decode cX12_every 43 = .ok (.return_, 1) := by decide +kernel
theorem dX12_some_0 : decode cX12_some 0 = .ok (.aload_n 0, 1) := by decide +kernel
theorem dX12_some_1 : decode cX12_some 1 = .ok (.invokevirtual 120, 3) := by decide +kernel
theorem dX12_some_4 : decode cX12_some 4 = .ok (.aload_n 0, 1) := by decide +kernel
theorem dX12_some_5 : decode cX12_some 5 = .ok (.getfield 81, 3) := by decide +kernel
theorem dX12_some_8 : decode cX12_some 8 = .ok (.ifCond .ne 35, 3) := by decide +kernel
theorem dX12_some_11 : decode cX12_some 11 = .ok (.aload_n 0, 1) := by decide +kernel
theorem dX12_some_12 : decode cX12_some 12 = .ok (.invokevirtual 85, 3) := by decide +kernel
theorem dX12_some_15 : decode cX12_some 15 = .ok (.bipush 124, 2) := by decide +kernel
theorem dX12_some_17 : decode cX12_some 17 = .ok (.if_icmp .ne 26, 3) := by decide +kernel
theorem dX12_some_20 : decode cX12_some 20 = .ok (.aload_n 0, 1) := by decide +kernel
theorem dX12_some_21 : decode cX12_some 21 = .ok (.dup, 1) := by decide +kernel
theorem dX12_some_22 : decode cX12_some 22 = .ok (.getfield 75, 3) := by decide +kernel
theorem dX12_some_25 : decode cX12_some 25 = .ok (.iconst 1, 1) := by decide +kernel
theorem dX12_some_26 : decode cX12_some 26 = .ok (.iadd, 1) := by decide +kernel
theorem dX12_some_27 : decode cX12_some 27 = .ok (.putfield 75, 3) := by decide +kernel
theorem dX12_some_30 : decode cX12_some 30 = .ok (.aload_n 0, 1) := by decide +kernel
theorem dX12_some_31 : decode cX12_some 31 = .ok (.invokevirtual 120, 3) := by decide +kernel
theorem dX12_some_34 : decode cX12_some 34 = .ok (.aload_n 0, 1) := by decide +kernel
theorem dX12_some_35 : decode cX12_some 35 = .ok (.bipush (-3), 2) := by decide +kernel
theorem dX12_some_37 : decode cX12_some 37 = .ok (.invokevirtual 111, 3) := by decide +kernel
theorem dX12_some_40 : decode cX12_some 40 = .ok (.goto (-36), 3) := by decide +kernel
theorem dX12_some_43 : decode cX12_some 43 = .ok (.return_, 1) := by decide +kernel
theorem dX12_changes_0 : decode cX12_changes 0 = .ok (.aload_n 0, 1) := by decide +kernel
theorem dX12_changes_1 : decode cX12_changes 1 = .ok (.iload_n 1, 1) := by decide +kernel
theorem dX12_changes_2 : decode cX12_changes 2 = .ok (.ifCond .ne 8, 3) := by decide +kernel
theorem dX12_changes_5 : decode cX12_changes 5 = .ok (.ldc 123, 2) := by decide +kernel
theorem dX12_changes_7 : decode cX12_changes 7 = .ok (.goto 5, 3) := by decide +kernel
theorem dX12_changes_10 : decode cX12_changes 10 = .ok (.ldc 125, 2) := by decide +kernel
theorem dX12_changes_12 : decode cX12_changes 12 = .ok (.invokevirtual 127, 3) := by decide +kernel
theorem dX12_changes_15 : decode cX12_changes 15 = .ok (.aload_n 0, 1) := by decide +kernel
theorem dX12_changes_16 : decode cX12_changes 16 = .ok (.invokevirtual 117, 3) := by decide +kernel
theorem dX12_changes_19 : decode cX12_changes 19 = .ok (.istore_n 2, 1) := by decide +kernel
theorem dX12_changes_20 : decode cX12_changes 20 = .ok (.aload_n 0, 1) := by decide +kernel
theorem dX12_changes_21 : decode cX12_changes 21 = .ok (.bipush 32, 2) := by decide +kernel
theorem dX12_changes_23 : decode cX12_changes 23 = .ok (.invokevirtual 98, 3) := by decide +kernel
theorem dX12_changes_26 : decode cX12_changes 26 = .ok (.aload_n 0, 1) := by decide +kernel
theorem dX12_changes_27 : decode cX12_changes 27 = .ok (.invokevirtual 114, 3) := by decide +kernel
theorem dX12_changes_30 : decode cX12_changes 30 = .ok (.aload_n 0, 1) := by decide +kernel
theorem dX12_changes_31 : decode cX12_changes 31 = .ok (.bipush (-10), 2) := by decide +kernel
theorem dX12_changes_33 : decode cX12_changes 33 = .ok (.iconst 2, 1) := by decide +kernel
theorem dX12_changes_34 : decode cX12_changes 34 = .ok (.iload_n 2, 1) := by decide +kernel
theorem dX12_changes_35 : decode cX12_changes 35 = .ok (.imul, 1) := by decide +kernel
theorem dX12_changes_36 : decode cX12_changes 36 = .ok (.isub, 1) := by decide +kernel
theorem dX12_changes_37 : decode cX12_changes 37 = .ok (.iload_n 1, 1) := by decide +kernel
theorem dX12_changes_38 : decode cX12_changes 38 = .ok (.isub, 1) := by decide +kernel
theorem dX12_changes_39 : decode cX12_changes 39 = .ok (.invokevirtual 111, 3) := by decide +kernel
theorem dX12_changes_42 : decode cX12_changes 42 = .ok (.return_, 1) := by decide +kernel
theorem dX12_tells_0 : decode cX12_tells 0 = .ok (.aload_n 0, 1) := by decide +kernel
theorem dX12_tells_1 : decode cX12_tells 1 = .ok (.aload_n 2, 1) := by decide +kernel
theorem dX12_tells_2 : decode cX12_tells 2 = .ok (.invokevirtual 127, 3) := by decide +kernel
theorem dX12_tells_5 : decode cX12_tells 5 = .ok (.aload_n 0, 1) := by decide +kernel
theorem dX12_tells_6 : decode cX12_tells 6 = .ok (.invokevirtual 117, 3) := by decide +kernel
theorem dX12_tells_9 : decode cX12_tells 9 = .ok (.istore_n 3, 1) := by decide +kernel
theorem dX12_tells_10 : decode cX12_tells 10 = .ok (.aload_n 0, 1) := by decide +kernel
theorem dX12_tells_11 : decode cX12_tells 11 = .ok (.getfield 81, 3) := by decide +kernel
theorem dX12_tells_14 : decode cX12_tells 14 = .ok (.ifCond .ne 21, 3) := by decide +kernel
theorem dX12_tells_17 : decode cX12_tells 17 = .ok (.aload_n 0, 1) := by decide +kernel
theorem dX12_tells_18 : decode cX12_tells 18 = .ok (.getfield 9, 3) := by decide +kernel
theorem dX12_tells_21 : decode cX12_tells 21 = .ok (.sipush 140, 3) := by decide +kernel
theorem dX12_tells_24 : decode cX12_tells 24 = .ok (.iconst 4, 1) := by decide +kernel
theorem dX12_tells_25 : decode cX12_tells 25 = .ok (.aload_n 0, 1) := by decide +kernel
theorem dX12_tells_26 : decode cX12_tells 26 = .ok (.getfield 102, 3) := by decide +kernel
theorem dX12_tells_29 : decode cX12_tells 29 = .ok (.imul, 1) := by decide +kernel
theorem dX12_tells_30 : decode cX12_tells 30 = .ok (.iadd, 1) := by decide +kernel
theorem dX12_tells_31 : decode cX12_tells 31 = .ok (.iload_n 1, 1) := by decide +kernel
theorem dX12_tells_32 : decode cX12_tells 32 = .ok (.iadd, 1) := by decide +kernel
theorem dX12_tells_33 : decode cX12_tells 33 = .ok (.iload_n 3, 1) := by decide +kernel
theorem dX12_tells_34 : decode cX12_tells 34 = .ok (.iastore, 1) := by decide +kernel
theorem dX12_tells_35 : decode cX12_tells 35 = .ok (.return_, 1) := by decide +kernel
theorem dX12_clause_0 : decode cX12_clause 0 = .ok (.aload_n 0, 1) := by decide +kernel
theorem dX12_clause_1 : decode cX12_clause 1 = .ok (.invokevirtual 85, 3) := by decide +kernel
theorem dX12_clause_4 : decode cX12_clause 4 = .ok (.lookupswitch 116 #[(98, 86), (104, 68), (105, 60), (108, 96), (109, 106), (119, 76)], 60) := by decide +kernel
theorem dX12_clause_64 : decode cX12_clause 64 = .ok (.aload_n 0, 1) := by decide +kernel
theorem dX12_clause_65 : decode cX12_clause 65 = .ok (.iconst 0, 1) := by decide +kernel
theorem dX12_clause_66 : decode cX12_clause 66 = .ok (.invokevirtual 131, 3) := by decide +kernel
theorem dX12_clause_69 : decode cX12_clause 69 = .ok (.goto 56, 3) := by decide +kernel
theorem dX12_clause_72 : decode cX12_clause 72 = .ok (.aload_n 0, 1) := by decide +kernel
theorem dX12_clause_73 : decode cX12_clause 73 = .ok (.iconst 1, 1) := by decide +kernel
theorem dX12_clause_74 : decode cX12_clause 74 = .ok (.invokevirtual 131, 3) := by decide +kernel
theorem dX12_clause_77 : decode cX12_clause 77 = .ok (.goto 48, 3) := by decide +kernel
theorem dX12_clause_80 : decode cX12_clause 80 = .ok (.aload_n 0, 1) := by decide +kernel
theorem dX12_clause_81 : decode cX12_clause 81 = .ok (.iconst 0, 1) := by decide +kernel
theorem dX12_clause_82 : decode cX12_clause 82 = .ok (.ldc 134, 2) := by decide +kernel
theorem dX12_clause_84 : decode cX12_clause 84 = .ok (.invokevirtual 136, 3) := by decide +kernel
theorem dX12_clause_87 : decode cX12_clause 87 = .ok (.goto 38, 3) := by decide +kernel
theorem dX12_clause_90 : decode cX12_clause 90 = .ok (.aload_n 0, 1) := by decide +kernel
theorem dX12_clause_91 : decode cX12_clause 91 = .ok (.iconst 1, 1) := by decide +kernel
theorem dX12_clause_92 : decode cX12_clause 92 = .ok (.ldc 140, 2) := by decide +kernel
theorem dX12_clause_94 : decode cX12_clause 94 = .ok (.invokevirtual 136, 3) := by decide +kernel
theorem dX12_clause_97 : decode cX12_clause 97 = .ok (.goto 28, 3) := by decide +kernel
theorem dX12_clause_100 : decode cX12_clause 100 = .ok (.aload_n 0, 1) := by decide +kernel
theorem dX12_clause_101 : decode cX12_clause 101 = .ok (.iconst 2, 1) := by decide +kernel
theorem dX12_clause_102 : decode cX12_clause 102 = .ok (.ldc 142, 2) := by decide +kernel
theorem dX12_clause_104 : decode cX12_clause 104 = .ok (.invokevirtual 136, 3) := by decide +kernel
theorem dX12_clause_107 : decode cX12_clause 107 = .ok (.goto 18, 3) := by decide +kernel
theorem dX12_clause_110 : decode cX12_clause 110 = .ok (.aload_n 0, 1) := by decide +kernel
theorem dX12_clause_111 : decode cX12_clause 111 = .ok (.iconst 3, 1) := by decide +kernel
theorem dX12_clause_112 : decode cX12_clause 112 = .ok (.ldc 144, 2) := by decide +kernel
theorem dX12_clause_114 : decode cX12_clause 114 = .ok (.invokevirtual 136, 3) := by decide +kernel
theorem dX12_clause_117 : decode cX12_clause 117 = .ok (.goto 8, 3) := by decide +kernel
theorem dX12_clause_120 : decode cX12_clause 120 = .ok (.aload_n 0, 1) := by decide +kernel
theorem dX12_clause_121 : decode cX12_clause 121 = .ok (.iconst 1, 1) := by decide +kernel
theorem dX12_clause_122 : decode cX12_clause 122 = .ok (.putfield 81, 3) := by decide +kernel
theorem dX12_clause_125 : decode cX12_clause 125 = .ok (.return_, 1) := by decide +kernel
theorem dX12_sort_0 : decode cX12_sort 0 = .ok (.aload_n 0, 1) := by decide +kernel
theorem dX12_sort_1 : decode cX12_sort 1 = .ok (.getfield 9, 3) := by decide +kernel
theorem dX12_sort_4 : decode cX12_sort 4 = .ok (.iconst 0, 1) := by decide +kernel
theorem dX12_sort_5 : decode cX12_sort 5 = .ok (.iaload, 1) := by decide +kernel
theorem dX12_sort_6 : decode cX12_sort 6 = .ok (.bipush 6, 2) := by decide +kernel
theorem dX12_sort_8 : decode cX12_sort 8 = .ok (.if_icmp .ne 6, 3) := by decide +kernel
theorem dX12_sort_11 : decode cX12_sort 11 = .ok (.bipush (-4), 2) := by decide +kernel
theorem dX12_sort_13 : decode cX12_sort 13 = .ok (.ireturn, 1) := by decide +kernel
theorem dX12_sort_14 : decode cX12_sort 14 = .ok (.aload_n 0, 1) := by decide +kernel
theorem dX12_sort_15 : decode cX12_sort 15 = .ok (.aload_n 0, 1) := by decide +kernel
theorem dX12_sort_16 : decode cX12_sort 16 = .ok (.getfield 9, 3) := by decide +kernel
theorem dX12_sort_19 : decode cX12_sort 19 = .ok (.iconst 0, 1) := by decide +kernel
theorem dX12_sort_20 : decode cX12_sort 20 = .ok (.iaload, 1) := by decide +kernel
theorem dX12_sort_21 : decode cX12_sort 21 = .ok (.putfield 102, 3) := by decide +kernel
theorem dX12_sort_24 : decode cX12_sort 24 = .ok (.aload_n 0, 1) := by decide +kernel
theorem dX12_sort_25 : decode cX12_sort 25 = .ok (.aload_n 0, 1) := by decide +kernel
theorem dX12_sort_26 : decode cX12_sort 26 = .ok (.getfield 9, 3) := by decide +kernel
theorem dX12_sort_29 : decode cX12_sort 29 = .ok (.iconst 5, 1) := by decide +kernel
theorem dX12_sort_30 : decode cX12_sort 30 = .ok (.iaload, 1) := by decide +kernel
theorem dX12_sort_31 : decode cX12_sort 31 = .ok (.putfield 78, 3) := by decide +kernel
theorem dX12_sort_34 : decode cX12_sort 34 = .ok (.aload_n 0, 1) := by decide +kernel
theorem dX12_sort_35 : decode cX12_sort 35 = .ok (.getfield 9, 3) := by decide +kernel
theorem dX12_sort_38 : decode cX12_sort 38 = .ok (.iconst 5, 1) := by decide +kernel
theorem dX12_sort_39 : decode cX12_sort 39 = .ok (.iconst 0, 1) := by decide +kernel
theorem dX12_sort_40 : decode cX12_sort 40 = .ok (.iastore, 1) := by decide +kernel
theorem dX12_sort_41 : decode cX12_sort 41 = .ok (.aload_n 0, 1) := by decide +kernel
theorem dX12_sort_42 : decode cX12_sort 42 = .ok (.getfield 9, 3) := by decide +kernel
theorem dX12_sort_45 : decode cX12_sort 45 = .ok (.sipush 130, 3) := by decide +kernel
theorem dX12_sort_48 : decode cX12_sort 48 = .ok (.aload_n 0, 1) := by decide +kernel
theorem dX12_sort_49 : decode cX12_sort 49 = .ok (.getfield 102, 3) := by decide +kernel
theorem dX12_sort_52 : decode cX12_sort 52 = .ok (.iadd, 1) := by decide +kernel
theorem dX12_sort_53 : decode cX12_sort 53 = .ok (.iconst 0, 1) := by decide +kernel
theorem dX12_sort_54 : decode cX12_sort 54 = .ok (.iastore, 1) := by decide +kernel
theorem dX12_sort_55 : decode cX12_sort 55 = .ok (.iconst 0, 1) := by decide +kernel
theorem dX12_sort_56 : decode cX12_sort 56 = .ok (.istore_n 1, 1) := by decide +kernel
theorem dX12_sort_57 : decode cX12_sort 57 = .ok (.iload_n 1, 1) := by decide +kernel
theorem dX12_sort_58 : decode cX12_sort 58 = .ok (.iconst 4, 1) := by decide +kernel
theorem dX12_sort_59 : decode cX12_sort 59 = .ok (.if_icmp .ge 27, 3) := by decide +kernel
theorem dX12_sort_62 : decode cX12_sort 62 = .ok (.aload_n 0, 1) := by decide +kernel
theorem dX12_sort_63 : decode cX12_sort 63 = .ok (.getfield 9, 3) := by decide +kernel
theorem dX12_sort_66 : decode cX12_sort 66 = .ok (.sipush 140, 3) := by decide +kernel
theorem dX12_sort_69 : decode cX12_sort 69 = .ok (.iconst 4, 1) := by decide +kernel
theorem dX12_sort_70 : decode cX12_sort 70 = .ok (.aload_n 0, 1) := by decide +kernel
theorem dX12_sort_71 : decode cX12_sort 71 = .ok (.getfield 102, 3) := by decide +kernel
theorem dX12_sort_74 : decode cX12_sort 74 = .ok (.imul, 1) := by decide +kernel
theorem dX12_sort_75 : decode cX12_sort 75 = .ok (.iadd, 1) := by decide +kernel
theorem dX12_sort_76 : decode cX12_sort 76 = .ok (.iload_n 1, 1) := by decide +kernel
theorem dX12_sort_77 : decode cX12_sort 77 = .ok (.iadd, 1) := by decide +kernel
theorem dX12_sort_78 : decode cX12_sort 78 = .ok (.iconst 0, 1) := by decide +kernel
theorem dX12_sort_79 : decode cX12_sort 79 = .ok (.iastore, 1) := by decide +kernel
theorem dX12_sort_80 : decode cX12_sort 80 = .ok (.iinc 1 1, 3) := by decide +kernel
theorem dX12_sort_83 : decode cX12_sort 83 = .ok (.goto (-26), 3) := by decide +kernel
theorem dX12_sort_86 : decode cX12_sort 86 = .ok (.aload_n 0, 1) := by decide +kernel
theorem dX12_sort_87 : decode cX12_sort 87 = .ok (.iconst 0, 1) := by decide +kernel
theorem dX12_sort_88 : decode cX12_sort 88 = .ok (.putfield 75, 3) := by decide +kernel
theorem dX12_sort_91 : decode cX12_sort 91 = .ok (.aload_n 0, 1) := by decide +kernel
theorem dX12_sort_92 : decode cX12_sort 92 = .ok (.iconst 0, 1) := by decide +kernel
theorem dX12_sort_93 : decode cX12_sort 93 = .ok (.putfield 81, 3) := by decide +kernel
theorem dX12_sort_96 : decode cX12_sort 96 = .ok (.aload_n 0, 1) := by decide +kernel
theorem dX12_sort_97 : decode cX12_sort 97 = .ok (.iconst 0, 1) := by decide +kernel
theorem dX12_sort_98 : decode cX12_sort 98 = .ok (.putfield 105, 3) := by decide +kernel
theorem dX12_sort_101 : decode cX12_sort 101 = .ok (.iconst 1, 1) := by decide +kernel
theorem dX12_sort_102 : decode cX12_sort 102 = .ok (.istore_n 1, 1) := by decide +kernel
theorem dX12_sort_103 : decode cX12_sort 103 = .ok (.aload_n 0, 1) := by decide +kernel
theorem dX12_sort_104 : decode cX12_sort 104 = .ok (.invokevirtual 146, 3) := by decide +kernel
theorem dX12_sort_107 : decode cX12_sort 107 = .ok (.aload_n 0, 1) := by decide +kernel
theorem dX12_sort_108 : decode cX12_sort 108 = .ok (.getfield 81, 3) := by decide +kernel
theorem dX12_sort_111 : decode cX12_sort 111 = .ok (.ifCond .ne 38, 3) := by decide +kernel
theorem dX12_sort_114 : decode cX12_sort 114 = .ok (.iload_n 1, 1) := by decide +kernel
theorem dX12_sort_115 : decode cX12_sort 115 = .ok (.bipush 10, 2) := by decide +kernel
theorem dX12_sort_117 : decode cX12_sort 117 = .ok (.if_icmp .ge 32, 3) := by decide +kernel
theorem dX12_sort_120 : decode cX12_sort 120 = .ok (.aload_n 0, 1) := by decide +kernel
theorem dX12_sort_121 : decode cX12_sort 121 = .ok (.invokevirtual 85, 3) := by decide +kernel
theorem dX12_sort_124 : decode cX12_sort 124 = .ok (.bipush 59, 2) := by decide +kernel
theorem dX12_sort_126 : decode cX12_sort 126 = .ok (.if_icmp .ne 23, 3) := by decide +kernel
theorem dX12_sort_129 : decode cX12_sort 129 = .ok (.aload_n 0, 1) := by decide +kernel
theorem dX12_sort_130 : decode cX12_sort 130 = .ok (.dup, 1) := by decide +kernel
theorem dX12_sort_131 : decode cX12_sort 131 = .ok (.getfield 75, 3) := by decide +kernel
theorem dX12_sort_134 : decode cX12_sort 134 = .ok (.iconst 1, 1) := by decide +kernel
theorem dX12_sort_135 : decode cX12_sort 135 = .ok (.iadd, 1) := by decide +kernel
theorem dX12_sort_136 : decode cX12_sort 136 = .ok (.putfield 75, 3) := by decide +kernel
theorem dX12_sort_139 : decode cX12_sort 139 = .ok (.aload_n 0, 1) := by decide +kernel
theorem dX12_sort_140 : decode cX12_sort 140 = .ok (.invokevirtual 146, 3) := by decide +kernel
theorem dX12_sort_143 : decode cX12_sort 143 = .ok (.iinc 1 1, 3) := by decide +kernel
theorem dX12_sort_146 : decode cX12_sort 146 = .ok (.goto (-39), 3) := by decide +kernel
theorem dX12_sort_149 : decode cX12_sort 149 = .ok (.aload_n 0, 1) := by decide +kernel
theorem dX12_sort_150 : decode cX12_sort 150 = .ok (.getfield 81, 3) := by decide +kernel
theorem dX12_sort_153 : decode cX12_sort 153 = .ok (.ifCond .ne 14, 3) := by decide +kernel
theorem dX12_sort_156 : decode cX12_sort 156 = .ok (.aload_n 0, 1) := by decide +kernel
theorem dX12_sort_157 : decode cX12_sort 157 = .ok (.getfield 75, 3) := by decide +kernel
theorem dX12_sort_160 : decode cX12_sort 160 = .ok (.aload_n 0, 1) := by decide +kernel
theorem dX12_sort_161 : decode cX12_sort 161 = .ok (.getfield 78, 3) := by decide +kernel
theorem dX12_sort_164 : decode cX12_sort 164 = .ok (.if_icmp .eq 11, 3) := by decide +kernel
theorem dX12_sort_167 : decode cX12_sort 167 = .ok (.bipush (-10), 2) := by decide +kernel
theorem dX12_sort_169 : decode cX12_sort 169 = .ok (.aload_n 0, 1) := by decide +kernel
theorem dX12_sort_170 : decode cX12_sort 170 = .ok (.getfield 75, 3) := by decide +kernel
theorem dX12_sort_173 : decode cX12_sort 173 = .ok (.isub, 1) := by decide +kernel
theorem dX12_sort_174 : decode cX12_sort 174 = .ok (.ireturn, 1) := by decide +kernel
theorem dX12_sort_175 : decode cX12_sort 175 = .ok (.aload_n 0, 1) := by decide +kernel
theorem dX12_sort_176 : decode cX12_sort 176 = .ok (.getfield 9, 3) := by decide +kernel
theorem dX12_sort_179 : decode cX12_sort 179 = .ok (.iconst 0, 1) := by decide +kernel
theorem dX12_sort_180 : decode cX12_sort 180 = .ok (.dup2, 1) := by decide +kernel
theorem dX12_sort_181 : decode cX12_sort 181 = .ok (.iaload, 1) := by decide +kernel
theorem dX12_sort_182 : decode cX12_sort 182 = .ok (.iconst 1, 1) := by decide +kernel
theorem dX12_sort_183 : decode cX12_sort 183 = .ok (.iadd, 1) := by decide +kernel
theorem dX12_sort_184 : decode cX12_sort 184 = .ok (.iastore, 1) := by decide +kernel
theorem dX12_sort_185 : decode cX12_sort 185 = .ok (.aload_n 0, 1) := by decide +kernel
theorem dX12_sort_186 : decode cX12_sort 186 = .ok (.getfield 102, 3) := by decide +kernel
theorem dX12_sort_189 : decode cX12_sort 189 = .ok (.ireturn, 1) := by decide +kernel
theorem dX12_summed_0 : decode cX12_summed 0 = .ok (.iconst 0, 1) := by decide +kernel
theorem dX12_summed_1 : decode cX12_summed 1 = .ok (.istore 5, 2) := by decide +kernel
theorem dX12_summed_3 : decode cX12_summed 3 = .ok (.iconst 0, 1) := by decide +kernel
theorem dX12_summed_4 : decode cX12_summed 4 = .ok (.istore 6, 2) := by decide +kernel
theorem dX12_summed_6 : decode cX12_summed 6 = .ok (.sipush 170, 3) := by decide +kernel
theorem dX12_summed_9 : decode cX12_summed 9 = .ok (.sipush 140, 3) := by decide +kernel
theorem dX12_summed_12 : decode cX12_summed 12 = .ok (.iload_n 1, 1) := by decide +kernel
theorem dX12_summed_13 : decode cX12_summed 13 = .ok (.imul, 1) := by decide +kernel
theorem dX12_summed_14 : decode cX12_summed 14 = .ok (.iadd, 1) := by decide +kernel
theorem dX12_summed_15 : decode cX12_summed 15 = .ok (.istore 7, 2) := by decide +kernel
theorem dX12_summed_17 : decode cX12_summed 17 = .ok (.iload 7, 2) := by decide +kernel
theorem dX12_summed_19 : decode cX12_summed 19 = .ok (.istore 8, 2) := by decide +kernel
theorem dX12_summed_21 : decode cX12_summed 21 = .ok (.iload 8, 2) := by decide +kernel
theorem dX12_summed_23 : decode cX12_summed 23 = .ok (.iload 7, 2) := by decide +kernel
theorem dX12_summed_25 : decode cX12_summed 25 = .ok (.aload_n 0, 1) := by decide +kernel
theorem dX12_summed_26 : decode cX12_summed 26 = .ok (.getfield 9, 3) := by decide +kernel
theorem dX12_summed_29 : decode cX12_summed 29 = .ok (.sipush 130, 3) := by decide +kernel
theorem dX12_summed_32 : decode cX12_summed 32 = .ok (.iload_n 1, 1) := by decide +kernel
theorem dX12_summed_33 : decode cX12_summed 33 = .ok (.iadd, 1) := by decide +kernel
theorem dX12_summed_34 : decode cX12_summed 34 = .ok (.iaload, 1) := by decide +kernel
theorem dX12_summed_35 : decode cX12_summed 35 = .ok (.iadd, 1) := by decide +kernel
theorem dX12_summed_36 : decode cX12_summed 36 = .ok (.if_icmp .ge 282, 3) := by decide +kernel
theorem dX12_summed_39 : decode cX12_summed 39 = .ok (.aload_n 0, 1) := by decide +kernel
theorem dX12_summed_40 : decode cX12_summed 40 = .ok (.getfield 9, 3) := by decide +kernel
theorem dX12_summed_43 : decode cX12_summed 43 = .ok (.iload 8, 2) := by decide +kernel
theorem dX12_summed_45 : decode cX12_summed 45 = .ok (.iaload, 1) := by decide +kernel
theorem dX12_summed_46 : decode cX12_summed 46 = .ok (.istore 9, 2) := by decide +kernel
theorem dX12_summed_48 : decode cX12_summed 48 = .ok (.iload 9, 2) := by decide +kernel
theorem dX12_summed_50 : decode cX12_summed 50 = .ok (.ifCond .lt 101, 3) := by decide +kernel
theorem dX12_summed_53 : decode cX12_summed 53 = .ok (.iload 9, 2) := by decide +kernel
theorem dX12_summed_55 : decode cX12_summed 55 = .ok (.iconst 2, 1) := by decide +kernel
theorem dX12_summed_56 : decode cX12_summed 56 = .ok (.irem, 1) := by decide +kernel
theorem dX12_summed_57 : decode cX12_summed 57 = .ok (.ifCond .ne 7, 3) := by decide +kernel
theorem dX12_summed_60 : decode cX12_summed 60 = .ok (.iload_n 3, 1) := by decide +kernel
theorem dX12_summed_61 : decode cX12_summed 61 = .ok (.goto 5, 3) := by decide +kernel
theorem dX12_summed_64 : decode cX12_summed 64 = .ok (.iload 4, 2) := by decide +kernel
theorem dX12_summed_66 : decode cX12_summed 66 = .ok (.istore 10, 2) := by decide +kernel
theorem dX12_summed_68 : decode cX12_summed 68 = .ok (.iload 9, 2) := by decide +kernel
theorem dX12_summed_70 : decode cX12_summed 70 = .ok (.iconst 2, 1) := by decide +kernel
theorem dX12_summed_71 : decode cX12_summed 71 = .ok (.idiv, 1) := by decide +kernel
theorem dX12_summed_72 : decode cX12_summed 72 = .ok (.iconst 4, 1) := by decide +kernel
theorem dX12_summed_73 : decode cX12_summed 73 = .ok (.irem, 1) := by decide +kernel
theorem dX12_summed_74 : decode cX12_summed 74 = .ok (.istore 11, 2) := by decide +kernel
theorem dX12_summed_76 : decode cX12_summed 76 = .ok (.aload_n 0, 1) := by decide +kernel
theorem dX12_summed_77 : decode cX12_summed 77 = .ok (.getfield 18, 3) := by decide +kernel
theorem dX12_summed_80 : decode cX12_summed 80 = .ok (.iload 5, 2) := by decide +kernel
theorem dX12_summed_82 : decode cX12_summed 82 = .ok (.iload 11, 2) := by decide +kernel
theorem dX12_summed_84 : decode cX12_summed 84 = .ok (.ifCond .ne 21, 3) := by decide +kernel
theorem dX12_summed_87 : decode cX12_summed 87 = .ok (.iload 10, 2) := by decide +kernel
theorem dX12_summed_89 : decode cX12_summed 89 = .ok (.iload 9, 2) := by decide +kernel
theorem dX12_summed_91 : decode cX12_summed 91 = .ok (.bipush 8, 2) := by decide +kernel
theorem dX12_summed_93 : decode cX12_summed 93 = .ok (.idiv, 1) := by decide +kernel
theorem dX12_summed_94 : decode cX12_summed 94 = .ok (.if_icmp .ge 7, 3) := by decide +kernel
theorem dX12_summed_97 : decode cX12_summed 97 = .ok (.iconst 1, 1) := by decide +kernel
theorem dX12_summed_98 : decode cX12_summed 98 = .ok (.goto 46, 3) := by decide +kernel
theorem dX12_summed_101 : decode cX12_summed 101 = .ok (.iconst 0, 1) := by decide +kernel
theorem dX12_summed_102 : decode cX12_summed 102 = .ok (.goto 42, 3) := by decide +kernel
theorem dX12_summed_105 : decode cX12_summed 105 = .ok (.iload 11, 2) := by decide +kernel
theorem dX12_summed_107 : decode cX12_summed 107 = .ok (.iconst 1, 1) := by decide +kernel
theorem dX12_summed_108 : decode cX12_summed 108 = .ok (.if_icmp .ne 21, 3) := by decide +kernel
theorem dX12_summed_111 : decode cX12_summed 111 = .ok (.iload 10, 2) := by decide +kernel
theorem dX12_summed_113 : decode cX12_summed 113 = .ok (.iload 9, 2) := by decide +kernel
theorem dX12_summed_115 : decode cX12_summed 115 = .ok (.bipush 8, 2) := by decide +kernel
theorem dX12_summed_117 : decode cX12_summed 117 = .ok (.idiv, 1) := by decide +kernel
theorem dX12_summed_118 : decode cX12_summed 118 = .ok (.if_icmp .ne 7, 3) := by decide +kernel
theorem dX12_summed_121 : decode cX12_summed 121 = .ok (.iconst 1, 1) := by decide +kernel
theorem dX12_summed_122 : decode cX12_summed 122 = .ok (.goto 22, 3) := by decide +kernel
theorem dX12_summed_125 : decode cX12_summed 125 = .ok (.iconst 0, 1) := by decide +kernel
theorem dX12_summed_126 : decode cX12_summed 126 = .ok (.goto 18, 3) := by decide +kernel
theorem dX12_summed_129 : decode cX12_summed 129 = .ok (.iload 10, 2) := by decide +kernel
theorem dX12_summed_131 : decode cX12_summed 131 = .ok (.iload 9, 2) := by decide +kernel
theorem dX12_summed_133 : decode cX12_summed 133 = .ok (.bipush 8, 2) := by decide +kernel
theorem dX12_summed_135 : decode cX12_summed 135 = .ok (.idiv, 1) := by decide +kernel
theorem dX12_summed_136 : decode cX12_summed 136 = .ok (.if_icmp .le 7, 3) := by decide +kernel
theorem dX12_summed_139 : decode cX12_summed 139 = .ok (.iconst 1, 1) := by decide +kernel
theorem dX12_summed_140 : decode cX12_summed 140 = .ok (.goto 4, 3) := by decide +kernel
theorem dX12_summed_143 : decode cX12_summed 143 = .ok (.iconst 0, 1) := by decide +kernel
theorem dX12_summed_144 : decode cX12_summed 144 = .ok (.bastore, 1) := by decide +kernel
theorem dX12_summed_145 : decode cX12_summed 145 = .ok (.iinc 5 1, 3) := by decide +kernel
theorem dX12_summed_148 : decode cX12_summed 148 = .ok (.goto 164, 3) := by decide +kernel
theorem dX12_summed_151 : decode cX12_summed 151 = .ok (.iload 9, 2) := by decide +kernel
theorem dX12_summed_153 : decode cX12_summed 153 = .ok (.iconst (-1), 1) := by decide +kernel
theorem dX12_summed_154 : decode cX12_summed 154 = .ok (.if_icmp .ne 32, 3) := by decide +kernel
theorem dX12_summed_157 : decode cX12_summed 157 = .ok (.aload_n 0, 1) := by decide +kernel
theorem dX12_summed_158 : decode cX12_summed 158 = .ok (.getfield 18, 3) := by decide +kernel
theorem dX12_summed_161 : decode cX12_summed 161 = .ok (.iload 5, 2) := by decide +kernel
theorem dX12_summed_163 : decode cX12_summed 163 = .ok (.iconst 1, 1) := by decide +kernel
theorem dX12_summed_164 : decode cX12_summed 164 = .ok (.isub, 1) := by decide +kernel
theorem dX12_summed_165 : decode cX12_summed 165 = .ok (.aload_n 0, 1) := by decide +kernel
theorem dX12_summed_166 : decode cX12_summed 166 = .ok (.getfield 18, 3) := by decide +kernel
theorem dX12_summed_169 : decode cX12_summed 169 = .ok (.iload 5, 2) := by decide +kernel
theorem dX12_summed_171 : decode cX12_summed 171 = .ok (.iconst 1, 1) := by decide +kernel
theorem dX12_summed_172 : decode cX12_summed 172 = .ok (.isub, 1) := by decide +kernel
theorem dX12_summed_173 : decode cX12_summed 173 = .ok (.baload, 1) := by decide +kernel
theorem dX12_summed_174 : decode cX12_summed 174 = .ok (.ifCond .ne 7, 3) := by decide +kernel
theorem dX12_summed_177 : decode cX12_summed 177 = .ok (.iconst 1, 1) := by decide +kernel
theorem dX12_summed_178 : decode cX12_summed 178 = .ok (.goto 4, 3) := by decide +kernel
theorem dX12_summed_181 : decode cX12_summed 181 = .ok (.iconst 0, 1) := by decide +kernel
theorem dX12_summed_182 : decode cX12_summed 182 = .ok (.bastore, 1) := by decide +kernel
theorem dX12_summed_183 : decode cX12_summed 183 = .ok (.goto 129, 3) := by decide +kernel
theorem dX12_summed_186 : decode cX12_summed 186 = .ok (.iload 9, 2) := by decide +kernel
theorem dX12_summed_188 : decode cX12_summed 188 = .ok (.bipush (-10), 2) := by decide +kernel
theorem dX12_summed_190 : decode cX12_summed 190 = .ok (.if_icmp .le 82, 3) := by decide +kernel
theorem dX12_summed_193 : decode cX12_summed 193 = .ok (.iinc 5 (-1), 3) := by decide +kernel
theorem dX12_summed_196 : decode cX12_summed 196 = .ok (.aload_n 0, 1) := by decide +kernel
theorem dX12_summed_197 : decode cX12_summed 197 = .ok (.getfield 18, 3) := by decide +kernel
theorem dX12_summed_200 : decode cX12_summed 200 = .ok (.iload 5, 2) := by decide +kernel
theorem dX12_summed_202 : decode cX12_summed 202 = .ok (.iconst 1, 1) := by decide +kernel
theorem dX12_summed_203 : decode cX12_summed 203 = .ok (.isub, 1) := by decide +kernel
theorem dX12_summed_204 : decode cX12_summed 204 = .ok (.iload 9, 2) := by decide +kernel
theorem dX12_summed_206 : decode cX12_summed 206 = .ok (.bipush (-2), 2) := by decide +kernel
theorem dX12_summed_208 : decode cX12_summed 208 = .ok (.if_icmp .ne 33, 3) := by decide +kernel
theorem dX12_summed_211 : decode cX12_summed 211 = .ok (.aload_n 0, 1) := by decide +kernel
theorem dX12_summed_212 : decode cX12_summed 212 = .ok (.getfield 18, 3) := by decide +kernel
theorem dX12_summed_215 : decode cX12_summed 215 = .ok (.iload 5, 2) := by decide +kernel
theorem dX12_summed_217 : decode cX12_summed 217 = .ok (.iconst 1, 1) := by decide +kernel
theorem dX12_summed_218 : decode cX12_summed 218 = .ok (.isub, 1) := by decide +kernel
theorem dX12_summed_219 : decode cX12_summed 219 = .ok (.baload, 1) := by decide +kernel
theorem dX12_summed_220 : decode cX12_summed 220 = .ok (.ifCond .eq 17, 3) := by decide +kernel
theorem dX12_summed_223 : decode cX12_summed 223 = .ok (.aload_n 0, 1) := by decide +kernel
theorem dX12_summed_224 : decode cX12_summed 224 = .ok (.getfield 18, 3) := by decide +kernel
theorem dX12_summed_227 : decode cX12_summed 227 = .ok (.iload 5, 2) := by decide +kernel
theorem dX12_summed_229 : decode cX12_summed 229 = .ok (.baload, 1) := by decide +kernel
theorem dX12_summed_230 : decode cX12_summed 230 = .ok (.ifCond .eq 7, 3) := by decide +kernel
theorem dX12_summed_233 : decode cX12_summed 233 = .ok (.iconst 1, 1) := by decide +kernel
theorem dX12_summed_234 : decode cX12_summed 234 = .ok (.goto 34, 3) := by decide +kernel
theorem dX12_summed_237 : decode cX12_summed 237 = .ok (.iconst 0, 1) := by decide +kernel
theorem dX12_summed_238 : decode cX12_summed 238 = .ok (.goto 30, 3) := by decide +kernel
theorem dX12_summed_241 : decode cX12_summed 241 = .ok (.aload_n 0, 1) := by decide +kernel
theorem dX12_summed_242 : decode cX12_summed 242 = .ok (.getfield 18, 3) := by decide +kernel
theorem dX12_summed_245 : decode cX12_summed 245 = .ok (.iload 5, 2) := by decide +kernel
theorem dX12_summed_247 : decode cX12_summed 247 = .ok (.iconst 1, 1) := by decide +kernel
theorem dX12_summed_248 : decode cX12_summed 248 = .ok (.isub, 1) := by decide +kernel
theorem dX12_summed_249 : decode cX12_summed 249 = .ok (.baload, 1) := by decide +kernel
theorem dX12_summed_250 : decode cX12_summed 250 = .ok (.ifCond .ne 13, 3) := by decide +kernel
theorem dX12_summed_253 : decode cX12_summed 253 = .ok (.aload_n 0, 1) := by decide +kernel
theorem dX12_summed_254 : decode cX12_summed 254 = .ok (.getfield 18, 3) := by decide +kernel
theorem dX12_summed_257 : decode cX12_summed 257 = .ok (.iload 5, 2) := by decide +kernel
theorem dX12_summed_259 : decode cX12_summed 259 = .ok (.baload, 1) := by decide +kernel
theorem dX12_summed_260 : decode cX12_summed 260 = .ok (.ifCond .eq 7, 3) := by decide +kernel
theorem dX12_summed_263 : decode cX12_summed 263 = .ok (.iconst 1, 1) := by decide +kernel
theorem dX12_summed_264 : decode cX12_summed 264 = .ok (.goto 4, 3) := by decide +kernel
theorem dX12_summed_267 : decode cX12_summed 267 = .ok (.iconst 0, 1) := by decide +kernel
theorem dX12_summed_268 : decode cX12_summed 268 = .ok (.bastore, 1) := by decide +kernel
theorem dX12_summed_269 : decode cX12_summed 269 = .ok (.goto 43, 3) := by decide +kernel
theorem dX12_summed_272 : decode cX12_summed 272 = .ok (.iconst 0, 1) := by decide +kernel
theorem dX12_summed_273 : decode cX12_summed 273 = .ok (.istore 5, 2) := by decide +kernel
theorem dX12_summed_275 : decode cX12_summed 275 = .ok (.bipush (-10), 2) := by decide +kernel
theorem dX12_summed_277 : decode cX12_summed 277 = .ok (.iload 9, 2) := by decide +kernel
theorem dX12_summed_279 : decode cX12_summed 279 = .ok (.isub, 1) := by decide +kernel
theorem dX12_summed_280 : decode cX12_summed 280 = .ok (.istore 10, 2) := by decide +kernel
theorem dX12_summed_282 : decode cX12_summed 282 = .ok (.iload 6, 2) := by decide +kernel
theorem dX12_summed_284 : decode cX12_summed 284 = .ok (.aload_n 0, 1) := by decide +kernel
theorem dX12_summed_285 : decode cX12_summed 285 = .ok (.getfield 18, 3) := by decide +kernel
theorem dX12_summed_288 : decode cX12_summed 288 = .ok (.iconst 0, 1) := by decide +kernel
theorem dX12_summed_289 : decode cX12_summed 289 = .ok (.baload, 1) := by decide +kernel
theorem dX12_summed_290 : decode cX12_summed 290 = .ok (.ifCond .eq 18, 3) := by decide +kernel
theorem dX12_summed_293 : decode cX12_summed 293 = .ok (.iload 10, 2) := by decide +kernel
theorem dX12_summed_295 : decode cX12_summed 295 = .ok (.iconst 2, 1) := by decide +kernel
theorem dX12_summed_296 : decode cX12_summed 296 = .ok (.irem, 1) := by decide +kernel
theorem dX12_summed_297 : decode cX12_summed 297 = .ok (.iload_n 2, 1) := by decide +kernel
theorem dX12_summed_298 : decode cX12_summed 298 = .ok (.if_icmp .ne 10, 3) := by decide +kernel
theorem dX12_summed_301 : decode cX12_summed 301 = .ok (.iload 10, 2) := by decide +kernel
theorem dX12_summed_303 : decode cX12_summed 303 = .ok (.iconst 2, 1) := by decide +kernel
theorem dX12_summed_304 : decode cX12_summed 304 = .ok (.idiv, 1) := by decide +kernel
theorem dX12_summed_305 : decode cX12_summed 305 = .ok (.goto 4, 3) := by decide +kernel
theorem dX12_summed_308 : decode cX12_summed 308 = .ok (.iconst 0, 1) := by decide +kernel
theorem dX12_summed_309 : decode cX12_summed 309 = .ok (.iadd, 1) := by decide +kernel
theorem dX12_summed_310 : decode cX12_summed 310 = .ok (.istore 6, 2) := by decide +kernel
theorem dX12_summed_312 : decode cX12_summed 312 = .ok (.iinc 8 1, 3) := by decide +kernel
theorem dX12_summed_315 : decode cX12_summed 315 = .ok (.goto (-294), 3) := by decide +kernel
theorem dX12_summed_318 : decode cX12_summed 318 = .ok (.iload 6, 2) := by decide +kernel
theorem dX12_summed_320 : decode cX12_summed 320 = .ok (.sipush 1000, 3) := by decide +kernel
theorem dX12_summed_323 : decode cX12_summed 323 = .ok (.if_icmp .le 9, 3) := by decide +kernel
theorem dX12_summed_326 : decode cX12_summed 326 = .ok (.sipush 1000, 3) := by decide +kernel
theorem dX12_summed_329 : decode cX12_summed 329 = .ok (.goto 5, 3) := by decide +kernel
theorem dX12_summed_332 : decode cX12_summed 332 = .ok (.iload 6, 2) := by decide +kernel
theorem dX12_summed_334 : decode cX12_summed 334 = .ok (.ireturn, 1) := by decide +kernel
theorem dX12_told_0 : decode cX12_told 0 = .ok (.aload_n 0, 1) := by decide +kernel
theorem dX12_told_1 : decode cX12_told 1 = .ok (.iload_n 1, 1) := by decide +kernel
theorem dX12_told_2 : decode cX12_told 2 = .ok (.invokevirtual 149, 3) := by decide +kernel
theorem dX12_told_5 : decode cX12_told 5 = .ok (.ifCond .eq 13, 3) := by decide +kernel
theorem dX12_told_8 : decode cX12_told 8 = .ok (.iload 4, 2) := by decide +kernel
theorem dX12_told_10 : decode cX12_told 10 = .ok (.iconst 0, 1) := by decide +kernel
theorem dX12_told_11 : decode cX12_told 11 = .ok (.iconst 5, 1) := by decide +kernel
theorem dX12_told_12 : decode cX12_told 12 = .ok (.invokestatic 69, 3) := by decide +kernel
theorem dX12_told_15 : decode cX12_told 15 = .ok (.ifCond .ne 5, 3) := by decide +kernel
theorem dX12_told_18 : decode cX12_told 18 = .ok (.iconst (-1), 1) := by decide +kernel
theorem dX12_told_19 : decode cX12_told 19 = .ok (.ireturn, 1) := by decide +kernel
theorem dX12_told_20 : decode cX12_told 20 = .ok (.iload_n 2, 1) := by decide +kernel
theorem dX12_told_21 : decode cX12_told 21 = .ok (.iconst 0, 1) := by decide +kernel
theorem dX12_told_22 : decode cX12_told 22 = .ok (.sipush 999, 3) := by decide +kernel
theorem dX12_told_25 : decode cX12_told 25 = .ok (.invokestatic 69, 3) := by decide +kernel
theorem dX12_told_28 : decode cX12_told 28 = .ok (.ifCond .eq 13, 3) := by decide +kernel
theorem dX12_told_31 : decode cX12_told 31 = .ok (.iload_n 3, 1) := by decide +kernel
theorem dX12_told_32 : decode cX12_told 32 = .ok (.iconst 0, 1) := by decide +kernel
theorem dX12_told_33 : decode cX12_told 33 = .ok (.bipush 99, 2) := by decide +kernel
theorem dX12_told_35 : decode cX12_told 35 = .ok (.invokestatic 69, 3) := by decide +kernel
theorem dX12_told_38 : decode cX12_told 38 = .ok (.ifCond .ne 6, 3) := by decide +kernel
theorem dX12_told_41 : decode cX12_told 41 = .ok (.bipush (-2), 2) := by decide +kernel
theorem dX12_told_43 : decode cX12_told 43 = .ok (.ireturn, 1) := by decide +kernel
theorem dX12_told_44 : decode cX12_told 44 = .ok (.iload 4, 2) := by decide +kernel
theorem dX12_told_46 : decode cX12_told 46 = .ok (.iconst 2, 1) := by decide +kernel
theorem dX12_told_47 : decode cX12_told 47 = .ok (.if_icmp .ge 15, 3) := by decide +kernel
theorem dX12_told_50 : decode cX12_told 50 = .ok (.aload_n 0, 1) := by decide +kernel
theorem dX12_told_51 : decode cX12_told 51 = .ok (.iload_n 1, 1) := by decide +kernel
theorem dX12_told_52 : decode cX12_told 52 = .ok (.iload 4, 2) := by decide +kernel
theorem dX12_told_54 : decode cX12_told 54 = .ok (.iload_n 2, 1) := by decide +kernel
theorem dX12_told_55 : decode cX12_told 55 = .ok (.iload_n 3, 1) := by decide +kernel
theorem dX12_told_56 : decode cX12_told 56 = .ok (.invokevirtual 153, 3) := by decide +kernel
theorem dX12_told_59 : decode cX12_told 59 = .ok (.goto 20, 3) := by decide +kernel
theorem dX12_told_62 : decode cX12_told 62 = .ok (.aload_n 0, 1) := by decide +kernel
theorem dX12_told_63 : decode cX12_told 63 = .ok (.getfield 9, 3) := by decide +kernel
theorem dX12_told_66 : decode cX12_told 66 = .ok (.sipush 140, 3) := by decide +kernel
theorem dX12_told_69 : decode cX12_told 69 = .ok (.iconst 4, 1) := by decide +kernel
theorem dX12_told_70 : decode cX12_told 70 = .ok (.iload_n 1, 1) := by decide +kernel
theorem dX12_told_71 : decode cX12_told 71 = .ok (.imul, 1) := by decide +kernel
theorem dX12_told_72 : decode cX12_told 72 = .ok (.iadd, 1) := by decide +kernel
theorem dX12_told_73 : decode cX12_told 73 = .ok (.iload 4, 2) := by decide +kernel
theorem dX12_told_75 : decode cX12_told 75 = .ok (.iadd, 1) := by decide +kernel
theorem dX12_told_76 : decode cX12_told 76 = .ok (.iconst 2, 1) := by decide +kernel
theorem dX12_told_77 : decode cX12_told 77 = .ok (.isub, 1) := by decide +kernel
theorem dX12_told_78 : decode cX12_told 78 = .ok (.iaload, 1) := by decide +kernel
theorem dX12_told_79 : decode cX12_told 79 = .ok (.ireturn, 1) := by decide +kernel
theorem dX12_thing_0 : decode cX12_thing 0 = .ok (.aload_n 0, 1) := by decide +kernel
theorem dX12_thing_1 : decode cX12_thing 1 = .ok (.iload_n 1, 1) := by decide +kernel
theorem dX12_thing_2 : decode cX12_thing 2 = .ok (.invokevirtual 149, 3) := by decide +kernel
theorem dX12_thing_5 : decode cX12_thing 5 = .ok (.ifCond .ne 5, 3) := by decide +kernel
theorem dX12_thing_8 : decode cX12_thing 8 = .ok (.iconst (-1), 1) := by decide +kernel
theorem dX12_thing_9 : decode cX12_thing 9 = .ok (.ireturn, 1) := by decide +kernel
theorem dX12_thing_10 : decode cX12_thing 10 = .ok (.iload_n 2, 1) := by decide +kernel
theorem dX12_thing_11 : decode cX12_thing 11 = .ok (.iconst 0, 1) := by decide +kernel
theorem dX12_thing_12 : decode cX12_thing 12 = .ok (.bipush 99, 2) := by decide +kernel
theorem dX12_thing_14 : decode cX12_thing 14 = .ok (.invokestatic 69, 3) := by decide +kernel
theorem dX12_thing_17 : decode cX12_thing 17 = .ok (.ifCond .ne 6, 3) := by decide +kernel
theorem dX12_thing_20 : decode cX12_thing 20 = .ok (.bipush (-2), 2) := by decide +kernel
theorem dX12_thing_22 : decode cX12_thing 22 = .ok (.ireturn, 1) := by decide +kernel
theorem dX12_thing_23 : decode cX12_thing 23 = .ok (.aload_n 0, 1) := by decide +kernel
theorem dX12_thing_24 : decode cX12_thing 24 = .ok (.getfield 9, 3) := by decide +kernel
theorem dX12_thing_27 : decode cX12_thing 27 = .ok (.iconst 1, 1) := by decide +kernel
theorem dX12_thing_28 : decode cX12_thing 28 = .ok (.iaload, 1) := by decide +kernel
theorem dX12_thing_29 : decode cX12_thing 29 = .ok (.bipush 8, 2) := by decide +kernel
theorem dX12_thing_31 : decode cX12_thing 31 = .ok (.if_icmp .ne 6, 3) := by decide +kernel
theorem dX12_thing_34 : decode cX12_thing 34 = .ok (.bipush (-4), 2) := by decide +kernel
theorem dX12_thing_36 : decode cX12_thing 36 = .ok (.ireturn, 1) := by decide +kernel
theorem dX12_thing_37 : decode cX12_thing 37 = .ok (.aload_n 0, 1) := by decide +kernel
theorem dX12_thing_38 : decode cX12_thing 38 = .ok (.getfield 9, 3) := by decide +kernel
theorem dX12_thing_41 : decode cX12_thing 41 = .ok (.iconst 1, 1) := by decide +kernel
theorem dX12_thing_42 : decode cX12_thing 42 = .ok (.iaload, 1) := by decide +kernel
theorem dX12_thing_43 : decode cX12_thing 43 = .ok (.istore_n 3, 1) := by decide +kernel
theorem dX12_thing_44 : decode cX12_thing 44 = .ok (.aload_n 0, 1) := by decide +kernel
theorem dX12_thing_45 : decode cX12_thing 45 = .ok (.getfield 9, 3) := by decide +kernel
theorem dX12_thing_48 : decode cX12_thing 48 = .ok (.sipush 1010, 3) := by decide +kernel
theorem dX12_thing_51 : decode cX12_thing 51 = .ok (.iload_n 3, 1) := by decide +kernel
theorem dX12_thing_52 : decode cX12_thing 52 = .ok (.iadd, 1) := by decide +kernel
theorem dX12_thing_53 : decode cX12_thing 53 = .ok (.iload_n 1, 1) := by decide +kernel
theorem dX12_thing_54 : decode cX12_thing 54 = .ok (.iastore, 1) := by decide +kernel
theorem dX12_thing_55 : decode cX12_thing 55 = .ok (.aload_n 0, 1) := by decide +kernel
theorem dX12_thing_56 : decode cX12_thing 56 = .ok (.getfield 9, 3) := by decide +kernel
theorem dX12_thing_59 : decode cX12_thing 59 = .ok (.sipush 1018, 3) := by decide +kernel
theorem dX12_thing_62 : decode cX12_thing 62 = .ok (.iload_n 3, 1) := by decide +kernel
theorem dX12_thing_63 : decode cX12_thing 63 = .ok (.iadd, 1) := by decide +kernel
theorem dX12_thing_64 : decode cX12_thing 64 = .ok (.iload_n 2, 1) := by decide +kernel
theorem dX12_thing_65 : decode cX12_thing 65 = .ok (.iastore, 1) := by decide +kernel
theorem dX12_thing_66 : decode cX12_thing 66 = .ok (.aload_n 0, 1) := by decide +kernel
theorem dX12_thing_67 : decode cX12_thing 67 = .ok (.getfield 9, 3) := by decide +kernel
theorem dX12_thing_70 : decode cX12_thing 70 = .ok (.sipush 1026, 3) := by decide +kernel
theorem dX12_thing_73 : decode cX12_thing 73 = .ok (.iload_n 3, 1) := by decide +kernel
theorem dX12_thing_74 : decode cX12_thing 74 = .ok (.iadd, 1) := by decide +kernel
theorem dX12_thing_75 : decode cX12_thing 75 = .ok (.iconst 1, 1) := by decide +kernel
theorem dX12_thing_76 : decode cX12_thing 76 = .ok (.iastore, 1) := by decide +kernel
theorem dX12_thing_77 : decode cX12_thing 77 = .ok (.aload_n 0, 1) := by decide +kernel
theorem dX12_thing_78 : decode cX12_thing 78 = .ok (.getfield 9, 3) := by decide +kernel
theorem dX12_thing_81 : decode cX12_thing 81 = .ok (.sipush 1034, 3) := by decide +kernel
theorem dX12_thing_84 : decode cX12_thing 84 = .ok (.iload_n 3, 1) := by decide +kernel
theorem dX12_thing_85 : decode cX12_thing 85 = .ok (.iadd, 1) := by decide +kernel
theorem dX12_thing_86 : decode cX12_thing 86 = .ok (.ldc 157, 2) := by decide +kernel
theorem dX12_thing_88 : decode cX12_thing 88 = .ok (.iastore, 1) := by decide +kernel
theorem dX12_thing_89 : decode cX12_thing 89 = .ok (.aload_n 0, 1) := by decide +kernel
theorem dX12_thing_90 : decode cX12_thing 90 = .ok (.getfield 9, 3) := by decide +kernel
theorem dX12_thing_93 : decode cX12_thing 93 = .ok (.sipush 1042, 3) := by decide +kernel
theorem dX12_thing_96 : decode cX12_thing 96 = .ok (.iload_n 3, 1) := by decide +kernel
theorem dX12_thing_97 : decode cX12_thing 97 = .ok (.iadd, 1) := by decide +kernel
theorem dX12_thing_98 : decode cX12_thing 98 = .ok (.iconst 0, 1) := by decide +kernel
theorem dX12_thing_99 : decode cX12_thing 99 = .ok (.iastore, 1) := by decide +kernel
theorem dX12_thing_100 : decode cX12_thing 100 = .ok (.aload_n 0, 1) := by decide +kernel
theorem dX12_thing_101 : decode cX12_thing 101 = .ok (.getfield 9, 3) := by decide +kernel
theorem dX12_thing_104 : decode cX12_thing 104 = .ok (.sipush 1050, 3) := by decide +kernel
theorem dX12_thing_107 : decode cX12_thing 107 = .ok (.iload_n 3, 1) := by decide +kernel
theorem dX12_thing_108 : decode cX12_thing 108 = .ok (.iadd, 1) := by decide +kernel
theorem dX12_thing_109 : decode cX12_thing 109 = .ok (.iconst 0, 1) := by decide +kernel
theorem dX12_thing_110 : decode cX12_thing 110 = .ok (.iastore, 1) := by decide +kernel
theorem dX12_thing_111 : decode cX12_thing 111 = .ok (.aload_n 0, 1) := by decide +kernel
theorem dX12_thing_112 : decode cX12_thing 112 = .ok (.getfield 9, 3) := by decide +kernel
theorem dX12_thing_115 : decode cX12_thing 115 = .ok (.sipush 1058, 3) := by decide +kernel
theorem dX12_thing_118 : decode cX12_thing 118 = .ok (.iload_n 3, 1) := by decide +kernel
theorem dX12_thing_119 : decode cX12_thing 119 = .ok (.iadd, 1) := by decide +kernel
theorem dX12_thing_120 : decode cX12_thing 120 = .ok (.iconst 0, 1) := by decide +kernel
theorem dX12_thing_121 : decode cX12_thing 121 = .ok (.iastore, 1) := by decide +kernel
theorem dX12_thing_122 : decode cX12_thing 122 = .ok (.aload_n 0, 1) := by decide +kernel
theorem dX12_thing_123 : decode cX12_thing 123 = .ok (.getfield 9, 3) := by decide +kernel
theorem dX12_thing_126 : decode cX12_thing 126 = .ok (.iconst 1, 1) := by decide +kernel
theorem dX12_thing_127 : decode cX12_thing 127 = .ok (.dup2, 1) := by decide +kernel
theorem dX12_thing_128 : decode cX12_thing 128 = .ok (.iaload, 1) := by decide +kernel
theorem dX12_thing_129 : decode cX12_thing 129 = .ok (.iconst 1, 1) := by decide +kernel
theorem dX12_thing_130 : decode cX12_thing 130 = .ok (.iadd, 1) := by decide +kernel
theorem dX12_thing_131 : decode cX12_thing 131 = .ok (.iastore, 1) := by decide +kernel
theorem dX12_thing_132 : decode cX12_thing 132 = .ok (.iload_n 3, 1) := by decide +kernel
theorem dX12_thing_133 : decode cX12_thing 133 = .ok (.ireturn, 1) := by decide +kernel
theorem dX12_of_0 : decode cX12_of 0 = .ok (.aload_n 0, 1) := by decide +kernel
theorem dX12_of_1 : decode cX12_of 1 = .ok (.iload_n 1, 1) := by decide +kernel
theorem dX12_of_2 : decode cX12_of 2 = .ok (.invokevirtual 158, 3) := by decide +kernel
theorem dX12_of_5 : decode cX12_of 5 = .ok (.ifCond .ne 5, 3) := by decide +kernel
theorem dX12_of_8 : decode cX12_of 8 = .ok (.iconst (-1), 1) := by decide +kernel
theorem dX12_of_9 : decode cX12_of 9 = .ok (.ireturn, 1) := by decide +kernel
theorem dX12_of_10 : decode cX12_of 10 = .ok (.iload_n 2, 1) := by decide +kernel
theorem dX12_of_11 : decode cX12_of 11 = .ok (.tableswitch 103 0 5 #[37, 48, 59, 70, 81, 92], 37) := by decide +kernel
theorem dX12_of_48 : decode cX12_of 48 = .ok (.aload_n 0, 1) := by decide +kernel
theorem dX12_of_49 : decode cX12_of 49 = .ok (.getfield 9, 3) := by decide +kernel
theorem dX12_of_52 : decode cX12_of 52 = .ok (.sipush 1010, 3) := by decide +kernel
theorem dX12_of_55 : decode cX12_of 55 = .ok (.iload_n 1, 1) := by decide +kernel
theorem dX12_of_56 : decode cX12_of 56 = .ok (.iadd, 1) := by decide +kernel
theorem dX12_of_57 : decode cX12_of 57 = .ok (.iaload, 1) := by decide +kernel
theorem dX12_of_58 : decode cX12_of 58 = .ok (.ireturn, 1) := by decide +kernel
theorem dX12_of_59 : decode cX12_of 59 = .ok (.aload_n 0, 1) := by decide +kernel
theorem dX12_of_60 : decode cX12_of 60 = .ok (.getfield 9, 3) := by decide +kernel
theorem dX12_of_63 : decode cX12_of 63 = .ok (.sipush 1018, 3) := by decide +kernel
theorem dX12_of_66 : decode cX12_of 66 = .ok (.iload_n 1, 1) := by decide +kernel
theorem dX12_of_67 : decode cX12_of 67 = .ok (.iadd, 1) := by decide +kernel
theorem dX12_of_68 : decode cX12_of 68 = .ok (.iaload, 1) := by decide +kernel
theorem dX12_of_69 : decode cX12_of 69 = .ok (.ireturn, 1) := by decide +kernel
theorem dX12_of_70 : decode cX12_of 70 = .ok (.aload_n 0, 1) := by decide +kernel
theorem dX12_of_71 : decode cX12_of 71 = .ok (.getfield 9, 3) := by decide +kernel
theorem dX12_of_74 : decode cX12_of 74 = .ok (.sipush 1034, 3) := by decide +kernel
theorem dX12_of_77 : decode cX12_of 77 = .ok (.iload_n 1, 1) := by decide +kernel
theorem dX12_of_78 : decode cX12_of 78 = .ok (.iadd, 1) := by decide +kernel
theorem dX12_of_79 : decode cX12_of 79 = .ok (.iaload, 1) := by decide +kernel
theorem dX12_of_80 : decode cX12_of 80 = .ok (.ireturn, 1) := by decide +kernel
theorem dX12_of_81 : decode cX12_of 81 = .ok (.aload_n 0, 1) := by decide +kernel
theorem dX12_of_82 : decode cX12_of 82 = .ok (.getfield 9, 3) := by decide +kernel
theorem dX12_of_85 : decode cX12_of 85 = .ok (.sipush 1042, 3) := by decide +kernel
theorem dX12_of_88 : decode cX12_of 88 = .ok (.iload_n 1, 1) := by decide +kernel
theorem dX12_of_89 : decode cX12_of 89 = .ok (.iadd, 1) := by decide +kernel
theorem dX12_of_90 : decode cX12_of 90 = .ok (.iaload, 1) := by decide +kernel
theorem dX12_of_91 : decode cX12_of 91 = .ok (.ireturn, 1) := by decide +kernel
theorem dX12_of_92 : decode cX12_of 92 = .ok (.aload_n 0, 1) := by decide +kernel
theorem dX12_of_93 : decode cX12_of 93 = .ok (.getfield 9, 3) := by decide +kernel
theorem dX12_of_96 : decode cX12_of 96 = .ok (.sipush 1050, 3) := by decide +kernel
theorem dX12_of_99 : decode cX12_of 99 = .ok (.iload_n 1, 1) := by decide +kernel
theorem dX12_of_100 : decode cX12_of 100 = .ok (.iadd, 1) := by decide +kernel
theorem dX12_of_101 : decode cX12_of 101 = .ok (.iaload, 1) := by decide +kernel
theorem dX12_of_102 : decode cX12_of 102 = .ok (.ireturn, 1) := by decide +kernel
theorem dX12_of_103 : decode cX12_of 103 = .ok (.aload_n 0, 1) := by decide +kernel
theorem dX12_of_104 : decode cX12_of 104 = .ok (.getfield 9, 3) := by decide +kernel
theorem dX12_of_107 : decode cX12_of 107 = .ok (.sipush 1058, 3) := by decide +kernel
theorem dX12_of_110 : decode cX12_of 110 = .ok (.iload_n 1, 1) := by decide +kernel
theorem dX12_of_111 : decode cX12_of 111 = .ok (.iadd, 1) := by decide +kernel
theorem dX12_of_112 : decode cX12_of 112 = .ok (.iaload, 1) := by decide +kernel
theorem dX12_of_113 : decode cX12_of 113 = .ok (.ireturn, 1) := by decide +kernel
theorem dX12_of_114 : decode cX12_of 114 = .ok (.iconst (-1), 1) := by decide +kernel
theorem dX12_of_115 : decode cX12_of 115 = .ok (.ireturn, 1) := by decide +kernel
theorem dX12_illOf_0 : decode cX12_illOf 0 = .ok (.aload_n 0, 1) := by decide +kernel
theorem dX12_illOf_1 : decode cX12_illOf 1 = .ok (.aload_n 0, 1) := by decide +kernel
theorem dX12_illOf_2 : decode cX12_illOf 2 = .ok (.getfield 9, 3) := by decide +kernel
theorem dX12_illOf_5 : decode cX12_illOf 5 = .ok (.sipush 1010, 3) := by decide +kernel
theorem dX12_illOf_8 : decode cX12_illOf 8 = .ok (.iload_n 1, 1) := by decide +kernel
theorem dX12_illOf_9 : decode cX12_illOf 9 = .ok (.iadd, 1) := by decide +kernel
theorem dX12_illOf_10 : decode cX12_illOf 10 = .ok (.iaload, 1) := by decide +kernel
theorem dX12_illOf_11 : decode cX12_illOf 11 = .ok (.iconst 0, 1) := by decide +kernel
theorem dX12_illOf_12 : decode cX12_illOf 12 = .ok (.iload_n 2, 1) := by decide +kernel
theorem dX12_illOf_13 : decode cX12_illOf 13 = .ok (.aload_n 0, 1) := by decide +kernel
theorem dX12_illOf_14 : decode cX12_illOf 14 = .ok (.getfield 9, 3) := by decide +kernel
theorem dX12_illOf_17 : decode cX12_illOf 17 = .ok (.sipush 1018, 3) := by decide +kernel
theorem dX12_illOf_20 : decode cX12_illOf 20 = .ok (.iload_n 1, 1) := by decide +kernel
theorem dX12_illOf_21 : decode cX12_illOf 21 = .ok (.iadd, 1) := by decide +kernel
theorem dX12_illOf_22 : decode cX12_illOf 22 = .ok (.iaload, 1) := by decide +kernel
theorem dX12_illOf_23 : decode cX12_illOf 23 = .ok (.invokevirtual 153, 3) := by decide +kernel
theorem dX12_illOf_26 : decode cX12_illOf 26 = .ok (.iload_n 1, 1) := by decide +kernel
theorem dX12_illOf_27 : decode cX12_illOf 27 = .ok (.aload_n 0, 1) := by decide +kernel
theorem dX12_illOf_28 : decode cX12_illOf 28 = .ok (.getfield 22, 3) := by decide +kernel
theorem dX12_illOf_31 : decode cX12_illOf 31 = .ok (.if_icmp .ne 10, 3) := by decide +kernel
theorem dX12_illOf_34 : decode cX12_illOf 34 = .ok (.aload_n 0, 1) := by decide +kernel
theorem dX12_illOf_35 : decode cX12_illOf 35 = .ok (.getfield 161, 3) := by decide +kernel
theorem dX12_illOf_38 : decode cX12_illOf 38 = .ok (.goto 4, 3) := by decide +kernel
theorem dX12_illOf_41 : decode cX12_illOf 41 = .ok (.iconst 0, 1) := by decide +kernel
theorem dX12_illOf_42 : decode cX12_illOf 42 = .ok (.iadd, 1) := by decide +kernel
theorem dX12_illOf_43 : decode cX12_illOf 43 = .ok (.istore_n 3, 1) := by decide +kernel
theorem dX12_illOf_44 : decode cX12_illOf 44 = .ok (.iload_n 3, 1) := by decide +kernel
theorem dX12_illOf_45 : decode cX12_illOf 45 = .ok (.ifCond .ge 7, 3) := by decide +kernel
theorem dX12_illOf_48 : decode cX12_illOf 48 = .ok (.iconst 0, 1) := by decide +kernel
theorem dX12_illOf_49 : decode cX12_illOf 49 = .ok (.goto 17, 3) := by decide +kernel
theorem dX12_illOf_52 : decode cX12_illOf 52 = .ok (.iload_n 3, 1) := by decide +kernel
theorem dX12_illOf_53 : decode cX12_illOf 53 = .ok (.sipush 1000, 3) := by decide +kernel
theorem dX12_illOf_56 : decode cX12_illOf 56 = .ok (.if_icmp .le 9, 3) := by decide +kernel
theorem dX12_illOf_59 : decode cX12_illOf 59 = .ok (.sipush 1000, 3) := by decide +kernel
theorem dX12_illOf_62 : decode cX12_illOf 62 = .ok (.goto 4, 3) := by decide +kernel
theorem dX12_illOf_65 : decode cX12_illOf 65 = .ok (.iload_n 3, 1) := by decide +kernel
theorem dX12_illOf_66 : decode cX12_illOf 66 = .ok (.ireturn, 1) := by decide +kernel
theorem dX12_healOf_0 : decode cX12_healOf 0 = .ok (.aload_n 0, 1) := by decide +kernel
theorem dX12_healOf_1 : decode cX12_healOf 1 = .ok (.aload_n 0, 1) := by decide +kernel
theorem dX12_healOf_2 : decode cX12_healOf 2 = .ok (.getfield 9, 3) := by decide +kernel
theorem dX12_healOf_5 : decode cX12_healOf 5 = .ok (.sipush 1010, 3) := by decide +kernel
theorem dX12_healOf_8 : decode cX12_healOf 8 = .ok (.iload_n 1, 1) := by decide +kernel
theorem dX12_healOf_9 : decode cX12_healOf 9 = .ok (.iadd, 1) := by decide +kernel
theorem dX12_healOf_10 : decode cX12_healOf 10 = .ok (.iaload, 1) := by decide +kernel
theorem dX12_healOf_11 : decode cX12_healOf 11 = .ok (.iconst 1, 1) := by decide +kernel
theorem dX12_healOf_12 : decode cX12_healOf 12 = .ok (.iload_n 2, 1) := by decide +kernel
theorem dX12_healOf_13 : decode cX12_healOf 13 = .ok (.aload_n 0, 1) := by decide +kernel
theorem dX12_healOf_14 : decode cX12_healOf 14 = .ok (.getfield 9, 3) := by decide +kernel
theorem dX12_healOf_17 : decode cX12_healOf 17 = .ok (.sipush 1018, 3) := by decide +kernel
theorem dX12_healOf_20 : decode cX12_healOf 20 = .ok (.iload_n 1, 1) := by decide +kernel
theorem dX12_healOf_21 : decode cX12_healOf 21 = .ok (.iadd, 1) := by decide +kernel
theorem dX12_healOf_22 : decode cX12_healOf 22 = .ok (.iaload, 1) := by decide +kernel
theorem dX12_healOf_23 : decode cX12_healOf 23 = .ok (.invokevirtual 153, 3) := by decide +kernel
theorem dX12_healOf_26 : decode cX12_healOf 26 = .ok (.ireturn, 1) := by decide +kernel
theorem dX12_value_0 : decode cX12_value 0 = .ok (.aload_n 0, 1) := by decide +kernel
theorem dX12_value_1 : decode cX12_value 1 = .ok (.getfield 9, 3) := by decide +kernel
theorem dX12_value_4 : decode cX12_value 4 = .ok (.sipush 140, 3) := by decide +kernel
theorem dX12_value_7 : decode cX12_value 7 = .ok (.iconst 4, 1) := by decide +kernel
theorem dX12_value_8 : decode cX12_value 8 = .ok (.aload_n 0, 1) := by decide +kernel
theorem dX12_value_9 : decode cX12_value 9 = .ok (.getfield 9, 3) := by decide +kernel
theorem dX12_value_12 : decode cX12_value 12 = .ok (.sipush 1010, 3) := by decide +kernel
theorem dX12_value_15 : decode cX12_value 15 = .ok (.iload_n 1, 1) := by decide +kernel
theorem dX12_value_16 : decode cX12_value 16 = .ok (.iadd, 1) := by decide +kernel
theorem dX12_value_17 : decode cX12_value 17 = .ok (.iaload, 1) := by decide +kernel
theorem dX12_value_18 : decode cX12_value 18 = .ok (.imul, 1) := by decide +kernel
theorem dX12_value_19 : decode cX12_value 19 = .ok (.iadd, 1) := by decide +kernel
theorem dX12_value_20 : decode cX12_value 20 = .ok (.iload_n 2, 1) := by decide +kernel
theorem dX12_value_21 : decode cX12_value 21 = .ok (.iadd, 1) := by decide +kernel
theorem dX12_value_22 : decode cX12_value 22 = .ok (.iaload, 1) := by decide +kernel
theorem dX12_value_23 : decode cX12_value 23 = .ok (.ireturn, 1) := by decide +kernel
theorem dX12_overOf_0 : decode cX12_overOf 0 = .ok (.iload_n 2, 1) := by decide +kernel
theorem dX12_overOf_1 : decode cX12_overOf 1 = .ok (.i2l, 1) := by decide +kernel
theorem dX12_overOf_2 : decode cX12_overOf 2 = .ok (.sipush 1000, 3) := by decide +kernel
theorem dX12_overOf_5 : decode cX12_overOf 5 = .ok (.aload_n 0, 1) := by decide +kernel
theorem dX12_overOf_6 : decode cX12_overOf 6 = .ok (.iload_n 1, 1) := by decide +kernel
theorem dX12_overOf_7 : decode cX12_overOf 7 = .ok (.iload_n 3, 1) := by decide +kernel
theorem dX12_overOf_8 : decode cX12_overOf 8 = .ok (.invokevirtual 164, 3) := by decide +kernel
theorem dX12_overOf_11 : decode cX12_overOf 11 = .ok (.isub, 1) := by decide +kernel
theorem dX12_overOf_12 : decode cX12_overOf 12 = .ok (.i2l, 1) := by decide +kernel
theorem dX12_overOf_13 : decode cX12_overOf 13 = .ok (.lmul, 1) := by decide +kernel
theorem dX12_overOf_14 : decode cX12_overOf 14 = .ok (.ldc2_w 168, 3) := by decide +kernel
theorem dX12_overOf_17 : decode cX12_overOf 17 = .ok (.ldiv, 1) := by decide +kernel
theorem dX12_overOf_18 : decode cX12_overOf 18 = .ok (.lstore 4, 2) := by decide +kernel
theorem dX12_overOf_20 : decode cX12_overOf 20 = .ok (.ldc 157, 2) := by decide +kernel
theorem dX12_overOf_22 : decode cX12_overOf 22 = .ok (.iload_n 2, 1) := by decide +kernel
theorem dX12_overOf_23 : decode cX12_overOf 23 = .ok (.isub, 1) := by decide +kernel
theorem dX12_overOf_24 : decode cX12_overOf 24 = .ok (.i2l, 1) := by decide +kernel
theorem dX12_overOf_25 : decode cX12_overOf 25 = .ok (.aload_n 0, 1) := by decide +kernel
theorem dX12_overOf_26 : decode cX12_overOf 26 = .ok (.iload_n 1, 1) := by decide +kernel
theorem dX12_overOf_27 : decode cX12_overOf 27 = .ok (.iload_n 3, 1) := by decide +kernel
theorem dX12_overOf_28 : decode cX12_overOf 28 = .ok (.invokevirtual 170, 3) := by decide +kernel
theorem dX12_overOf_31 : decode cX12_overOf 31 = .ok (.i2l, 1) := by decide +kernel
theorem dX12_overOf_32 : decode cX12_overOf 32 = .ok (.lmul, 1) := by decide +kernel
theorem dX12_overOf_33 : decode cX12_overOf 33 = .ok (.ldc2_w 168, 3) := by decide +kernel
theorem dX12_overOf_36 : decode cX12_overOf 36 = .ok (.ldiv, 1) := by decide +kernel
theorem dX12_overOf_37 : decode cX12_overOf 37 = .ok (.lstore 6, 2) := by decide +kernel
theorem dX12_overOf_39 : decode cX12_overOf 39 = .ok (.lload 4, 2) := by decide +kernel
theorem dX12_overOf_41 : decode cX12_overOf 41 = .ok (.lload 6, 2) := by decide +kernel
theorem dX12_overOf_43 : decode cX12_overOf 43 = .ok (.ladd, 1) := by decide +kernel
theorem dX12_overOf_44 : decode cX12_overOf 44 = .ok (.l2i, 1) := by decide +kernel
theorem dX12_overOf_45 : decode cX12_overOf 45 = .ok (.ireturn, 1) := by decide +kernel
theorem dX12_later_0 : decode cX12_later 0 = .ok (.iload_n 0, 1) := by decide +kernel
theorem dX12_later_1 : decode cX12_later 1 = .ok (.sipush 999, 3) := by decide +kernel
theorem dX12_later_4 : decode cX12_later 4 = .ok (.if_icmp .ge 9, 3) := by decide +kernel
theorem dX12_later_7 : decode cX12_later 7 = .ok (.iload_n 0, 1) := by decide +kernel
theorem dX12_later_8 : decode cX12_later 8 = .ok (.iconst 1, 1) := by decide +kernel
theorem dX12_later_9 : decode cX12_later 9 = .ok (.iadd, 1) := by decide +kernel
theorem dX12_later_10 : decode cX12_later 10 = .ok (.goto 6, 3) := by decide +kernel
theorem dX12_later_13 : decode cX12_later 13 = .ok (.sipush 999, 3) := by decide +kernel
theorem dX12_later_16 : decode cX12_later 16 = .ok (.ireturn, 1) := by decide +kernel
theorem dX12_over_0 : decode cX12_over 0 = .ok (.iconst 0, 1) := by decide +kernel
theorem dX12_over_1 : decode cX12_over 1 = .ok (.istore_n 1, 1) := by decide +kernel
theorem dX12_over_2 : decode cX12_over 2 = .ok (.iload_n 1, 1) := by decide +kernel
theorem dX12_over_3 : decode cX12_over 3 = .ok (.aload_n 0, 1) := by decide +kernel
theorem dX12_over_4 : decode cX12_over 4 = .ok (.getfield 9, 3) := by decide +kernel
theorem dX12_over_7 : decode cX12_over 7 = .ok (.iconst 1, 1) := by decide +kernel
theorem dX12_over_8 : decode cX12_over 8 = .ok (.iaload, 1) := by decide +kernel
theorem dX12_over_9 : decode cX12_over 9 = .ok (.if_icmp .ge 67, 3) := by decide +kernel
theorem dX12_over_12 : decode cX12_over 12 = .ok (.aload_n 0, 1) := by decide +kernel
theorem dX12_over_13 : decode cX12_over 13 = .ok (.getfield 9, 3) := by decide +kernel
theorem dX12_over_16 : decode cX12_over 16 = .ok (.sipush 1034, 3) := by decide +kernel
theorem dX12_over_19 : decode cX12_over 19 = .ok (.iload_n 1, 1) := by decide +kernel
theorem dX12_over_20 : decode cX12_over 20 = .ok (.iadd, 1) := by decide +kernel
theorem dX12_over_21 : decode cX12_over 21 = .ok (.aload_n 0, 1) := by decide +kernel
theorem dX12_over_22 : decode cX12_over 22 = .ok (.iload_n 1, 1) := by decide +kernel
theorem dX12_over_23 : decode cX12_over 23 = .ok (.aload_n 0, 1) := by decide +kernel
theorem dX12_over_24 : decode cX12_over 24 = .ok (.getfield 9, 3) := by decide +kernel
theorem dX12_over_27 : decode cX12_over 27 = .ok (.sipush 1034, 3) := by decide +kernel
theorem dX12_over_30 : decode cX12_over 30 = .ok (.iload_n 1, 1) := by decide +kernel
theorem dX12_over_31 : decode cX12_over 31 = .ok (.iadd, 1) := by decide +kernel
theorem dX12_over_32 : decode cX12_over 32 = .ok (.iaload, 1) := by decide +kernel
theorem dX12_over_33 : decode cX12_over 33 = .ok (.aload_n 0, 1) := by decide +kernel
theorem dX12_over_34 : decode cX12_over 34 = .ok (.getfield 9, 3) := by decide +kernel
theorem dX12_over_37 : decode cX12_over 37 = .ok (.sipush 1042, 3) := by decide +kernel
theorem dX12_over_40 : decode cX12_over 40 = .ok (.iload_n 1, 1) := by decide +kernel
theorem dX12_over_41 : decode cX12_over 41 = .ok (.iadd, 1) := by decide +kernel
theorem dX12_over_42 : decode cX12_over 42 = .ok (.iaload, 1) := by decide +kernel
theorem dX12_over_43 : decode cX12_over 43 = .ok (.invokevirtual 173, 3) := by decide +kernel
theorem dX12_over_46 : decode cX12_over 46 = .ok (.iastore, 1) := by decide +kernel
theorem dX12_over_47 : decode cX12_over 47 = .ok (.aload_n 0, 1) := by decide +kernel
theorem dX12_over_48 : decode cX12_over 48 = .ok (.getfield 9, 3) := by decide +kernel
theorem dX12_over_51 : decode cX12_over 51 = .ok (.sipush 1042, 3) := by decide +kernel
theorem dX12_over_54 : decode cX12_over 54 = .ok (.iload_n 1, 1) := by decide +kernel
theorem dX12_over_55 : decode cX12_over 55 = .ok (.iadd, 1) := by decide +kernel
theorem dX12_over_56 : decode cX12_over 56 = .ok (.aload_n 0, 1) := by decide +kernel
theorem dX12_over_57 : decode cX12_over 57 = .ok (.getfield 9, 3) := by decide +kernel
theorem dX12_over_60 : decode cX12_over 60 = .ok (.sipush 1042, 3) := by decide +kernel
theorem dX12_over_63 : decode cX12_over 63 = .ok (.iload_n 1, 1) := by decide +kernel
theorem dX12_over_64 : decode cX12_over 64 = .ok (.iadd, 1) := by decide +kernel
theorem dX12_over_65 : decode cX12_over 65 = .ok (.iaload, 1) := by decide +kernel
theorem dX12_over_66 : decode cX12_over 66 = .ok (.invokestatic 177, 3) := by decide +kernel
theorem dX12_over_69 : decode cX12_over 69 = .ok (.iastore, 1) := by decide +kernel
theorem dX12_over_70 : decode cX12_over 70 = .ok (.iinc 1 1, 3) := by decide +kernel
theorem dX12_over_73 : decode cX12_over 73 = .ok (.goto (-71), 3) := by decide +kernel
theorem dX12_over_76 : decode cX12_over 76 = .ok (.return_, 1) := by decide +kernel
theorem dX12_days_0 : decode cX12_days 0 = .ok (.iload_n 1, 1) := by decide +kernel
theorem dX12_days_1 : decode cX12_days 1 = .ok (.iconst 1, 1) := by decide +kernel
theorem dX12_days_2 : decode cX12_days 2 = .ok (.bipush 20, 2) := by decide +kernel
theorem dX12_days_4 : decode cX12_days 4 = .ok (.invokestatic 69, 3) := by decide +kernel
theorem dX12_days_7 : decode cX12_days 7 = .ok (.ifCond .eq 17, 3) := by decide +kernel
theorem dX12_days_10 : decode cX12_days 10 = .ok (.aload_n 0, 1) := by decide +kernel
theorem dX12_days_11 : decode cX12_days 11 = .ok (.getfield 9, 3) := by decide +kernel
theorem dX12_days_14 : decode cX12_days 14 = .ok (.iconst 3, 1) := by decide +kernel
theorem dX12_days_15 : decode cX12_days 15 = .ok (.iaload, 1) := by decide +kernel
theorem dX12_days_16 : decode cX12_days 16 = .ok (.iload_n 1, 1) := by decide +kernel
theorem dX12_days_17 : decode cX12_days 17 = .ok (.iadd, 1) := by decide +kernel
theorem dX12_days_18 : decode cX12_days 18 = .ok (.sipush 999, 3) := by decide +kernel
theorem dX12_days_21 : decode cX12_days 21 = .ok (.if_icmp .le 6, 3) := by decide +kernel
theorem dX12_days_24 : decode cX12_days 24 = .ok (.bipush (-2), 2) := by decide +kernel
theorem dX12_days_26 : decode cX12_days 26 = .ok (.ireturn, 1) := by decide +kernel
theorem dX12_days_27 : decode cX12_days 27 = .ok (.iconst 0, 1) := by decide +kernel
theorem dX12_days_28 : decode cX12_days 28 = .ok (.istore_n 2, 1) := by decide +kernel
theorem dX12_days_29 : decode cX12_days 29 = .ok (.iload_n 2, 1) := by decide +kernel
theorem dX12_days_30 : decode cX12_days 30 = .ok (.iload_n 1, 1) := by decide +kernel
theorem dX12_days_31 : decode cX12_days 31 = .ok (.if_icmp .ge 13, 3) := by decide +kernel
theorem dX12_days_34 : decode cX12_days 34 = .ok (.aload_n 0, 1) := by decide +kernel
theorem dX12_days_35 : decode cX12_days 35 = .ok (.invokevirtual 181, 3) := by decide +kernel
theorem dX12_days_38 : decode cX12_days 38 = .ok (.iinc 2 1, 3) := by decide +kernel
theorem dX12_days_41 : decode cX12_days 41 = .ok (.goto (-12), 3) := by decide +kernel
theorem dX12_days_44 : decode cX12_days 44 = .ok (.aload_n 0, 1) := by decide +kernel
theorem dX12_days_45 : decode cX12_days 45 = .ok (.getfield 9, 3) := by decide +kernel
theorem dX12_days_48 : decode cX12_days 48 = .ok (.iconst 3, 1) := by decide +kernel
theorem dX12_days_49 : decode cX12_days 49 = .ok (.dup2, 1) := by decide +kernel
theorem dX12_days_50 : decode cX12_days 50 = .ok (.iaload, 1) := by decide +kernel
theorem dX12_days_51 : decode cX12_days 51 = .ok (.iload_n 1, 1) := by decide +kernel
theorem dX12_days_52 : decode cX12_days 52 = .ok (.iadd, 1) := by decide +kernel
theorem dX12_days_53 : decode cX12_days 53 = .ok (.iastore, 1) := by decide +kernel
theorem dX12_days_54 : decode cX12_days 54 = .ok (.aload_n 0, 1) := by decide +kernel
theorem dX12_days_55 : decode cX12_days 55 = .ok (.getfield 9, 3) := by decide +kernel
theorem dX12_days_58 : decode cX12_days 58 = .ok (.iconst 3, 1) := by decide +kernel
theorem dX12_days_59 : decode cX12_days 59 = .ok (.iaload, 1) := by decide +kernel
theorem dX12_days_60 : decode cX12_days 60 = .ok (.ireturn, 1) := by decide +kernel
theorem dX12_seen_0 : decode cX12_seen 0 = .ok (.aload_n 0, 1) := by decide +kernel
theorem dX12_seen_1 : decode cX12_seen 1 = .ok (.iload_n 1, 1) := by decide +kernel
theorem dX12_seen_2 : decode cX12_seen 2 = .ok (.invokevirtual 158, 3) := by decide +kernel
theorem dX12_seen_5 : decode cX12_seen 5 = .ok (.ifCond .ne 5, 3) := by decide +kernel
theorem dX12_seen_8 : decode cX12_seen 8 = .ok (.iconst (-1), 1) := by decide +kernel
theorem dX12_seen_9 : decode cX12_seen 9 = .ok (.ireturn, 1) := by decide +kernel
theorem dX12_seen_10 : decode cX12_seen 10 = .ok (.aload_n 0, 1) := by decide +kernel
theorem dX12_seen_11 : decode cX12_seen 11 = .ok (.getfield 9, 3) := by decide +kernel
theorem dX12_seen_14 : decode cX12_seen 14 = .ok (.sipush 1034, 3) := by decide +kernel
theorem dX12_seen_17 : decode cX12_seen 17 = .ok (.iload_n 1, 1) := by decide +kernel
theorem dX12_seen_18 : decode cX12_seen 18 = .ok (.iadd, 1) := by decide +kernel
theorem dX12_seen_19 : decode cX12_seen 19 = .ok (.iaload, 1) := by decide +kernel
theorem dX12_seen_20 : decode cX12_seen 20 = .ok (.istore_n 3, 1) := by decide +kernel
theorem dX12_seen_21 : decode cX12_seen 21 = .ok (.aload_n 0, 1) := by decide +kernel
theorem dX12_seen_22 : decode cX12_seen 22 = .ok (.getfield 9, 3) := by decide +kernel
theorem dX12_seen_25 : decode cX12_seen 25 = .ok (.sipush 1034, 3) := by decide +kernel
theorem dX12_seen_28 : decode cX12_seen 28 = .ok (.iload_n 1, 1) := by decide +kernel
theorem dX12_seen_29 : decode cX12_seen 29 = .ok (.iadd, 1) := by decide +kernel
theorem dX12_seen_30 : decode cX12_seen 30 = .ok (.iload_n 2, 1) := by decide +kernel
theorem dX12_seen_31 : decode cX12_seen 31 = .ok (.ifCond .eq 8, 3) := by decide +kernel
theorem dX12_seen_34 : decode cX12_seen 34 = .ok (.ldc 157, 2) := by decide +kernel
theorem dX12_seen_36 : decode cX12_seen 36 = .ok (.goto 4, 3) := by decide +kernel
theorem dX12_seen_39 : decode cX12_seen 39 = .ok (.iconst 0, 1) := by decide +kernel
theorem dX12_seen_40 : decode cX12_seen 40 = .ok (.iastore, 1) := by decide +kernel
theorem dX12_seen_41 : decode cX12_seen 41 = .ok (.aload_n 0, 1) := by decide +kernel
theorem dX12_seen_42 : decode cX12_seen 42 = .ok (.getfield 9, 3) := by decide +kernel
theorem dX12_seen_45 : decode cX12_seen 45 = .ok (.sipush 1042, 3) := by decide +kernel
theorem dX12_seen_48 : decode cX12_seen 48 = .ok (.iload_n 1, 1) := by decide +kernel
theorem dX12_seen_49 : decode cX12_seen 49 = .ok (.iadd, 1) := by decide +kernel
theorem dX12_seen_50 : decode cX12_seen 50 = .ok (.iconst 0, 1) := by decide +kernel
theorem dX12_seen_51 : decode cX12_seen 51 = .ok (.iastore, 1) := by decide +kernel
theorem dX12_seen_52 : decode cX12_seen 52 = .ok (.aload_n 0, 1) := by decide +kernel
theorem dX12_seen_53 : decode cX12_seen 53 = .ok (.getfield 9, 3) := by decide +kernel
theorem dX12_seen_56 : decode cX12_seen 56 = .ok (.sipush 1026, 3) := by decide +kernel
theorem dX12_seen_59 : decode cX12_seen 59 = .ok (.iload_n 1, 1) := by decide +kernel
theorem dX12_seen_60 : decode cX12_seen 60 = .ok (.iadd, 1) := by decide +kernel
theorem dX12_seen_61 : decode cX12_seen 61 = .ok (.iload_n 2, 1) := by decide +kernel
theorem dX12_seen_62 : decode cX12_seen 62 = .ok (.ifCond .eq 7, 3) := by decide +kernel
theorem dX12_seen_65 : decode cX12_seen 65 = .ok (.iconst 1, 1) := by decide +kernel
theorem dX12_seen_66 : decode cX12_seen 66 = .ok (.goto 4, 3) := by decide +kernel
theorem dX12_seen_69 : decode cX12_seen 69 = .ok (.iconst 0, 1) := by decide +kernel
theorem dX12_seen_70 : decode cX12_seen 70 = .ok (.iastore, 1) := by decide +kernel
theorem dX12_seen_71 : decode cX12_seen 71 = .ok (.iload_n 3, 1) := by decide +kernel
theorem dX12_seen_72 : decode cX12_seen 72 = .ok (.ireturn, 1) := by decide +kernel
theorem dX12_brings_0 : decode cX12_brings 0 = .ok (.iload_n 2, 1) := by decide +kernel
theorem dX12_brings_1 : decode cX12_brings 1 = .ok (.i2l, 1) := by decide +kernel
theorem dX12_brings_2 : decode cX12_brings 2 = .ok (.aload_n 0, 1) := by decide +kernel
theorem dX12_brings_3 : decode cX12_brings 3 = .ok (.iload_n 1, 1) := by decide +kernel
theorem dX12_brings_4 : decode cX12_brings 4 = .ok (.iconst 0, 1) := by decide +kernel
theorem dX12_brings_5 : decode cX12_brings 5 = .ok (.invokevirtual 184, 3) := by decide +kernel
theorem dX12_brings_8 : decode cX12_brings 8 = .ok (.i2l, 1) := by decide +kernel
theorem dX12_brings_9 : decode cX12_brings 9 = .ok (.lmul, 1) := by decide +kernel
theorem dX12_brings_10 : decode cX12_brings 10 = .ok (.ldc2_w 168, 3) := by decide +kernel
theorem dX12_brings_13 : decode cX12_brings 13 = .ok (.ldiv, 1) := by decide +kernel
theorem dX12_brings_14 : decode cX12_brings 14 = .ok (.ldc 157, 2) := by decide +kernel
theorem dX12_brings_16 : decode cX12_brings 16 = .ok (.iload_n 2, 1) := by decide +kernel
theorem dX12_brings_17 : decode cX12_brings 17 = .ok (.isub, 1) := by decide +kernel
theorem dX12_brings_18 : decode cX12_brings 18 = .ok (.i2l, 1) := by decide +kernel
theorem dX12_brings_19 : decode cX12_brings 19 = .ok (.aload_n 0, 1) := by decide +kernel
theorem dX12_brings_20 : decode cX12_brings 20 = .ok (.iload_n 1, 1) := by decide +kernel
theorem dX12_brings_21 : decode cX12_brings 21 = .ok (.iconst 1, 1) := by decide +kernel
theorem dX12_brings_22 : decode cX12_brings 22 = .ok (.invokevirtual 184, 3) := by decide +kernel
theorem dX12_brings_25 : decode cX12_brings 25 = .ok (.i2l, 1) := by decide +kernel
theorem dX12_brings_26 : decode cX12_brings 26 = .ok (.lmul, 1) := by decide +kernel
theorem dX12_brings_27 : decode cX12_brings 27 = .ok (.ldc2_w 168, 3) := by decide +kernel
theorem dX12_brings_30 : decode cX12_brings 30 = .ok (.ldiv, 1) := by decide +kernel
theorem dX12_brings_31 : decode cX12_brings 31 = .ok (.lsub, 1) := by decide +kernel
theorem dX12_brings_32 : decode cX12_brings 32 = .ok (.lreturn, 1) := by decide +kernel
theorem dX12_rowsOf_0 : decode cX12_rowsOf 0 = .ok (.aload_n 0, 1) := by decide +kernel
theorem dX12_rowsOf_1 : decode cX12_rowsOf 1 = .ok (.iload_n 1, 1) := by decide +kernel
theorem dX12_rowsOf_2 : decode cX12_rowsOf 2 = .ok (.putfield 187, 3) := by decide +kernel
theorem dX12_rowsOf_5 : decode cX12_rowsOf 5 = .ok (.iconst 0, 1) := by decide +kernel
theorem dX12_rowsOf_6 : decode cX12_rowsOf 6 = .ok (.istore_n 2, 1) := by decide +kernel
theorem dX12_rowsOf_7 : decode cX12_rowsOf 7 = .ok (.iload_n 2, 1) := by decide +kernel
theorem dX12_rowsOf_8 : decode cX12_rowsOf 8 = .ok (.iconst 3, 1) := by decide +kernel
theorem dX12_rowsOf_9 : decode cX12_rowsOf 9 = .ok (.if_icmp .ge 146, 3) := by decide +kernel
theorem dX12_rowsOf_12 : decode cX12_rowsOf 12 = .ok (.iload_n 2, 1) := by decide +kernel
theorem dX12_rowsOf_13 : decode cX12_rowsOf 13 = .ok (.ifCond .ne 16, 3) := by decide +kernel
theorem dX12_rowsOf_16 : decode cX12_rowsOf 16 = .ok (.aload_n 0, 1) := by decide +kernel
theorem dX12_rowsOf_17 : decode cX12_rowsOf 17 = .ok (.getfield 9, 3) := by decide +kernel
theorem dX12_rowsOf_20 : decode cX12_rowsOf 20 = .ok (.sipush 1034, 3) := by decide +kernel
theorem dX12_rowsOf_23 : decode cX12_rowsOf 23 = .ok (.iload_n 1, 1) := by decide +kernel
theorem dX12_rowsOf_24 : decode cX12_rowsOf 24 = .ok (.iadd, 1) := by decide +kernel
theorem dX12_rowsOf_25 : decode cX12_rowsOf 25 = .ok (.iaload, 1) := by decide +kernel
theorem dX12_rowsOf_26 : decode cX12_rowsOf 26 = .ok (.goto 23, 3) := by decide +kernel
theorem dX12_rowsOf_29 : decode cX12_rowsOf 29 = .ok (.iload_n 2, 1) := by decide +kernel
theorem dX12_rowsOf_30 : decode cX12_rowsOf 30 = .ok (.iconst 1, 1) := by decide +kernel
theorem dX12_rowsOf_31 : decode cX12_rowsOf 31 = .ok (.if_icmp .eq 12, 3) := by decide +kernel
theorem dX12_rowsOf_34 : decode cX12_rowsOf 34 = .ok (.aload_n 0, 1) := by decide +kernel
theorem dX12_rowsOf_35 : decode cX12_rowsOf 35 = .ok (.iload_n 1, 1) := by decide +kernel
theorem dX12_rowsOf_36 : decode cX12_rowsOf 36 = .ok (.iconst 3, 1) := by decide +kernel
theorem dX12_rowsOf_37 : decode cX12_rowsOf 37 = .ok (.invokevirtual 184, 3) := by decide +kernel
theorem dX12_rowsOf_40 : decode cX12_rowsOf 40 = .ok (.ifCond .le 8, 3) := by decide +kernel
theorem dX12_rowsOf_43 : decode cX12_rowsOf 43 = .ok (.ldc 157, 2) := by decide +kernel
theorem dX12_rowsOf_45 : decode cX12_rowsOf 45 = .ok (.goto 4, 3) := by decide +kernel
theorem dX12_rowsOf_48 : decode cX12_rowsOf 48 = .ok (.iconst 0, 1) := by decide +kernel
theorem dX12_rowsOf_49 : decode cX12_rowsOf 49 = .ok (.istore_n 3, 1) := by decide +kernel
theorem dX12_rowsOf_50 : decode cX12_rowsOf 50 = .ok (.iload_n 2, 1) := by decide +kernel
theorem dX12_rowsOf_51 : decode cX12_rowsOf 51 = .ok (.ifCond .ne 16, 3) := by decide +kernel
theorem dX12_rowsOf_54 : decode cX12_rowsOf 54 = .ok (.aload_n 0, 1) := by decide +kernel
theorem dX12_rowsOf_55 : decode cX12_rowsOf 55 = .ok (.getfield 9, 3) := by decide +kernel
theorem dX12_rowsOf_58 : decode cX12_rowsOf 58 = .ok (.sipush 1042, 3) := by decide +kernel
theorem dX12_rowsOf_61 : decode cX12_rowsOf 61 = .ok (.iload_n 1, 1) := by decide +kernel
theorem dX12_rowsOf_62 : decode cX12_rowsOf 62 = .ok (.iadd, 1) := by decide +kernel
theorem dX12_rowsOf_63 : decode cX12_rowsOf 63 = .ok (.iaload, 1) := by decide +kernel
theorem dX12_rowsOf_64 : decode cX12_rowsOf 64 = .ok (.goto 4, 3) := by decide +kernel
theorem dX12_rowsOf_67 : decode cX12_rowsOf 67 = .ok (.iconst 0, 1) := by decide +kernel
theorem dX12_rowsOf_68 : decode cX12_rowsOf 68 = .ok (.istore 4, 2) := by decide +kernel
theorem dX12_rowsOf_70 : decode cX12_rowsOf 70 = .ok (.iload_n 2, 1) := by decide +kernel
theorem dX12_rowsOf_71 : decode cX12_rowsOf 71 = .ok (.ifCond .le 19, 3) := by decide +kernel
theorem dX12_rowsOf_74 : decode cX12_rowsOf 74 = .ok (.aload_n 0, 1) := by decide +kernel
theorem dX12_rowsOf_75 : decode cX12_rowsOf 75 = .ok (.iload_n 1, 1) := by decide +kernel
theorem dX12_rowsOf_76 : decode cX12_rowsOf 76 = .ok (.iload_n 3, 1) := by decide +kernel
theorem dX12_rowsOf_77 : decode cX12_rowsOf 77 = .ok (.iload 4, 2) := by decide +kernel
theorem dX12_rowsOf_79 : decode cX12_rowsOf 79 = .ok (.invokevirtual 173, 3) := by decide +kernel
theorem dX12_rowsOf_82 : decode cX12_rowsOf 82 = .ok (.istore_n 3, 1) := by decide +kernel
theorem dX12_rowsOf_83 : decode cX12_rowsOf 83 = .ok (.iload 4, 2) := by decide +kernel
theorem dX12_rowsOf_85 : decode cX12_rowsOf 85 = .ok (.invokestatic 177, 3) := by decide +kernel
theorem dX12_rowsOf_88 : decode cX12_rowsOf 88 = .ok (.istore 4, 2) := by decide +kernel
theorem dX12_rowsOf_90 : decode cX12_rowsOf 90 = .ok (.iconst 0, 1) := by decide +kernel
theorem dX12_rowsOf_91 : decode cX12_rowsOf 91 = .ok (.istore 5, 2) := by decide +kernel
theorem dX12_rowsOf_93 : decode cX12_rowsOf 93 = .ok (.iload 5, 2) := by decide +kernel
theorem dX12_rowsOf_95 : decode cX12_rowsOf 95 = .ok (.bipush 9, 2) := by decide +kernel
theorem dX12_rowsOf_97 : decode cX12_rowsOf 97 = .ok (.if_icmp .ge 52, 3) := by decide +kernel
theorem dX12_rowsOf_100 : decode cX12_rowsOf 100 = .ok (.aload_n 0, 1) := by decide +kernel
theorem dX12_rowsOf_101 : decode cX12_rowsOf 101 = .ok (.getfield 26, 3) := by decide +kernel
theorem dX12_rowsOf_104 : decode cX12_rowsOf 104 = .ok (.bipush 9, 2) := by decide +kernel
theorem dX12_rowsOf_106 : decode cX12_rowsOf 106 = .ok (.iload_n 2, 1) := by decide +kernel
theorem dX12_rowsOf_107 : decode cX12_rowsOf 107 = .ok (.imul, 1) := by decide +kernel
theorem dX12_rowsOf_108 : decode cX12_rowsOf 108 = .ok (.iload 5, 2) := by decide +kernel
theorem dX12_rowsOf_110 : decode cX12_rowsOf 110 = .ok (.iadd, 1) := by decide +kernel
theorem dX12_rowsOf_111 : decode cX12_rowsOf 111 = .ok (.iload_n 3, 1) := by decide +kernel
theorem dX12_rowsOf_112 : decode cX12_rowsOf 112 = .ok (.iastore, 1) := by decide +kernel
theorem dX12_rowsOf_113 : decode cX12_rowsOf 113 = .ok (.aload_n 0, 1) := by decide +kernel
theorem dX12_rowsOf_114 : decode cX12_rowsOf 114 = .ok (.getfield 29, 3) := by decide +kernel
theorem dX12_rowsOf_117 : decode cX12_rowsOf 117 = .ok (.bipush 9, 2) := by decide +kernel
theorem dX12_rowsOf_119 : decode cX12_rowsOf 119 = .ok (.iload_n 2, 1) := by decide +kernel
theorem dX12_rowsOf_120 : decode cX12_rowsOf 120 = .ok (.imul, 1) := by decide +kernel
theorem dX12_rowsOf_121 : decode cX12_rowsOf 121 = .ok (.iload 5, 2) := by decide +kernel
theorem dX12_rowsOf_123 : decode cX12_rowsOf 123 = .ok (.iadd, 1) := by decide +kernel
theorem dX12_rowsOf_124 : decode cX12_rowsOf 124 = .ok (.iload 4, 2) := by decide +kernel
theorem dX12_rowsOf_126 : decode cX12_rowsOf 126 = .ok (.iastore, 1) := by decide +kernel
theorem dX12_rowsOf_127 : decode cX12_rowsOf 127 = .ok (.aload_n 0, 1) := by decide +kernel
theorem dX12_rowsOf_128 : decode cX12_rowsOf 128 = .ok (.iload_n 1, 1) := by decide +kernel
theorem dX12_rowsOf_129 : decode cX12_rowsOf 129 = .ok (.iload_n 3, 1) := by decide +kernel
theorem dX12_rowsOf_130 : decode cX12_rowsOf 130 = .ok (.iload 4, 2) := by decide +kernel
theorem dX12_rowsOf_132 : decode cX12_rowsOf 132 = .ok (.invokevirtual 173, 3) := by decide +kernel
theorem dX12_rowsOf_135 : decode cX12_rowsOf 135 = .ok (.istore_n 3, 1) := by decide +kernel
theorem dX12_rowsOf_136 : decode cX12_rowsOf 136 = .ok (.iload 4, 2) := by decide +kernel
theorem dX12_rowsOf_138 : decode cX12_rowsOf 138 = .ok (.invokestatic 177, 3) := by decide +kernel
theorem dX12_rowsOf_141 : decode cX12_rowsOf 141 = .ok (.istore 4, 2) := by decide +kernel
theorem dX12_rowsOf_143 : decode cX12_rowsOf 143 = .ok (.iinc 5 1, 3) := by decide +kernel
theorem dX12_rowsOf_146 : decode cX12_rowsOf 146 = .ok (.goto (-53), 3) := by decide +kernel
theorem dX12_rowsOf_149 : decode cX12_rowsOf 149 = .ok (.iinc 2 1, 3) := by decide +kernel
theorem dX12_rowsOf_152 : decode cX12_rowsOf 152 = .ok (.goto (-145), 3) := by decide +kernel
theorem dX12_rowsOf_155 : decode cX12_rowsOf 155 = .ok (.return_, 1) := by decide +kernel
theorem dX12_bestOf_0 : decode cX12_bestOf 0 = .ok (.iload_n 2, 1) := by decide +kernel
theorem dX12_bestOf_1 : decode cX12_bestOf 1 = .ok (.ifCond .ne 5, 3) := by decide +kernel
theorem dX12_bestOf_4 : decode cX12_bestOf 4 = .ok (.lconst 0, 1) := by decide +kernel
theorem dX12_bestOf_5 : decode cX12_bestOf 5 = .ok (.lreturn, 1) := by decide +kernel
theorem dX12_bestOf_6 : decode cX12_bestOf 6 = .ok (.bipush 9, 2) := by decide +kernel
theorem dX12_bestOf_8 : decode cX12_bestOf 8 = .ok (.iload_n 1, 1) := by decide +kernel
theorem dX12_bestOf_9 : decode cX12_bestOf 9 = .ok (.imul, 1) := by decide +kernel
theorem dX12_bestOf_10 : decode cX12_bestOf 10 = .ok (.iload_n 2, 1) := by decide +kernel
theorem dX12_bestOf_11 : decode cX12_bestOf 11 = .ok (.iadd, 1) := by decide +kernel
theorem dX12_bestOf_12 : decode cX12_bestOf 12 = .ok (.istore_n 3, 1) := by decide +kernel
theorem dX12_bestOf_13 : decode cX12_bestOf 13 = .ok (.aload_n 0, 1) := by decide +kernel
theorem dX12_bestOf_14 : decode cX12_bestOf 14 = .ok (.getfield 42, 3) := by decide +kernel
theorem dX12_bestOf_17 : decode cX12_bestOf 17 = .ok (.iload_n 3, 1) := by decide +kernel
theorem dX12_bestOf_18 : decode cX12_bestOf 18 = .ok (.iaload, 1) := by decide +kernel
theorem dX12_bestOf_19 : decode cX12_bestOf 19 = .ok (.aload_n 0, 1) := by decide +kernel
theorem dX12_bestOf_20 : decode cX12_bestOf 20 = .ok (.getfield 190, 3) := by decide +kernel
theorem dX12_bestOf_23 : decode cX12_bestOf 23 = .ok (.if_icmp .eq 172, 3) := by decide +kernel
theorem dX12_bestOf_26 : decode cX12_bestOf 26 = .ok (.aload_n 0, 1) := by decide +kernel
theorem dX12_bestOf_27 : decode cX12_bestOf 27 = .ok (.getfield 26, 3) := by decide +kernel
theorem dX12_bestOf_30 : decode cX12_bestOf 30 = .ok (.iload_n 1, 1) := by decide +kernel
theorem dX12_bestOf_31 : decode cX12_bestOf 31 = .ok (.iaload, 1) := by decide +kernel
theorem dX12_bestOf_32 : decode cX12_bestOf 32 = .ok (.istore 4, 2) := by decide +kernel
theorem dX12_bestOf_34 : decode cX12_bestOf 34 = .ok (.aload_n 0, 1) := by decide +kernel
theorem dX12_bestOf_35 : decode cX12_bestOf 35 = .ok (.aload_n 0, 1) := by decide +kernel
theorem dX12_bestOf_36 : decode cX12_bestOf 36 = .ok (.getfield 187, 3) := by decide +kernel
theorem dX12_bestOf_39 : decode cX12_bestOf 39 = .ok (.iload 4, 2) := by decide +kernel
theorem dX12_bestOf_41 : decode cX12_bestOf 41 = .ok (.invokevirtual 193, 3) := by decide +kernel
theorem dX12_bestOf_44 : decode cX12_bestOf 44 = .ok (.lstore 5, 2) := by decide +kernel
theorem dX12_bestOf_46 : decode cX12_bestOf 46 = .ok (.ldc2_w 168, 3) := by decide +kernel
theorem dX12_bestOf_49 : decode cX12_bestOf 49 = .ok (.aload_n 0, 1) := by decide +kernel
theorem dX12_bestOf_50 : decode cX12_bestOf 50 = .ok (.getfield 197, 3) := by decide +kernel
theorem dX12_bestOf_53 : decode cX12_bestOf 53 = .ok (.i2l, 1) := by decide +kernel
theorem dX12_bestOf_54 : decode cX12_bestOf 54 = .ok (.lmul, 1) := by decide +kernel
theorem dX12_bestOf_55 : decode cX12_bestOf 55 = .ok (.lload 5, 2) := by decide +kernel
theorem dX12_bestOf_57 : decode cX12_bestOf 57 = .ok (.ladd, 1) := by decide +kernel
theorem dX12_bestOf_58 : decode cX12_bestOf 58 = .ok (.aload_n 0, 1) := by decide +kernel
theorem dX12_bestOf_59 : decode cX12_bestOf 59 = .ok (.iload_n 1, 1) := by decide +kernel
theorem dX12_bestOf_60 : decode cX12_bestOf 60 = .ok (.iconst 1, 1) := by decide +kernel
theorem dX12_bestOf_61 : decode cX12_bestOf 61 = .ok (.iadd, 1) := by decide +kernel
theorem dX12_bestOf_62 : decode cX12_bestOf 62 = .ok (.iload_n 2, 1) := by decide +kernel
theorem dX12_bestOf_63 : decode cX12_bestOf 63 = .ok (.iconst 1, 1) := by decide +kernel
theorem dX12_bestOf_64 : decode cX12_bestOf 64 = .ok (.isub, 1) := by decide +kernel
theorem dX12_bestOf_65 : decode cX12_bestOf 65 = .ok (.invokevirtual 200, 3) := by decide +kernel
theorem dX12_bestOf_68 : decode cX12_bestOf 68 = .ok (.ladd, 1) := by decide +kernel
theorem dX12_bestOf_69 : decode cX12_bestOf 69 = .ok (.lstore 7, 2) := by decide +kernel
theorem dX12_bestOf_71 : decode cX12_bestOf 71 = .ok (.aload_n 0, 1) := by decide +kernel
theorem dX12_bestOf_72 : decode cX12_bestOf 72 = .ok (.bipush 9, 2) := by decide +kernel
theorem dX12_bestOf_74 : decode cX12_bestOf 74 = .ok (.iload_n 2, 1) := by decide +kernel
theorem dX12_bestOf_75 : decode cX12_bestOf 75 = .ok (.iconst 1, 1) := by decide +kernel
theorem dX12_bestOf_76 : decode cX12_bestOf 76 = .ok (.isub, 1) := by decide +kernel
theorem dX12_bestOf_77 : decode cX12_bestOf 77 = .ok (.invokevirtual 200, 3) := by decide +kernel
theorem dX12_bestOf_80 : decode cX12_bestOf 80 = .ok (.lstore 9, 2) := by decide +kernel
theorem dX12_bestOf_82 : decode cX12_bestOf 82 = .ok (.aload_n 0, 1) := by decide +kernel
theorem dX12_bestOf_83 : decode cX12_bestOf 83 = .ok (.bipush 18, 2) := by decide +kernel
theorem dX12_bestOf_85 : decode cX12_bestOf 85 = .ok (.iload_n 2, 1) := by decide +kernel
theorem dX12_bestOf_86 : decode cX12_bestOf 86 = .ok (.iconst 1, 1) := by decide +kernel
theorem dX12_bestOf_87 : decode cX12_bestOf 87 = .ok (.isub, 1) := by decide +kernel
theorem dX12_bestOf_88 : decode cX12_bestOf 88 = .ok (.invokevirtual 200, 3) := by decide +kernel
theorem dX12_bestOf_91 : decode cX12_bestOf 91 = .ok (.ldc2_w 168, 3) := by decide +kernel
theorem dX12_bestOf_94 : decode cX12_bestOf 94 = .ok (.aload_n 0, 1) := by decide +kernel
theorem dX12_bestOf_95 : decode cX12_bestOf 95 = .ok (.aload_n 0, 1) := by decide +kernel
theorem dX12_bestOf_96 : decode cX12_bestOf 96 = .ok (.getfield 187, 3) := by decide +kernel
theorem dX12_bestOf_99 : decode cX12_bestOf 99 = .ok (.iconst 3, 1) := by decide +kernel
theorem dX12_bestOf_100 : decode cX12_bestOf 100 = .ok (.invokevirtual 184, 3) := by decide +kernel
theorem dX12_bestOf_103 : decode cX12_bestOf 103 = .ok (.i2l, 1) := by decide +kernel
theorem dX12_bestOf_104 : decode cX12_bestOf 104 = .ok (.lmul, 1) := by decide +kernel
theorem dX12_bestOf_105 : decode cX12_bestOf 105 = .ok (.lsub, 1) := by decide +kernel
theorem dX12_bestOf_106 : decode cX12_bestOf 106 = .ok (.lstore 11, 2) := by decide +kernel
theorem dX12_bestOf_108 : decode cX12_bestOf 108 = .ok (.lload 5, 2) := by decide +kernel
theorem dX12_bestOf_110 : decode cX12_bestOf 110 = .ok (.ldc2_w 168, 3) := by decide +kernel
theorem dX12_bestOf_113 : decode cX12_bestOf 113 = .ok (.aload_n 0, 1) := by decide +kernel
theorem dX12_bestOf_114 : decode cX12_bestOf 114 = .ok (.aload_n 0, 1) := by decide +kernel
theorem dX12_bestOf_115 : decode cX12_bestOf 115 = .ok (.getfield 187, 3) := by decide +kernel
theorem dX12_bestOf_118 : decode cX12_bestOf 118 = .ok (.iconst 2, 1) := by decide +kernel
theorem dX12_bestOf_119 : decode cX12_bestOf 119 = .ok (.invokevirtual 184, 3) := by decide +kernel
theorem dX12_bestOf_122 : decode cX12_bestOf 122 = .ok (.i2l, 1) := by decide +kernel
theorem dX12_bestOf_123 : decode cX12_bestOf 123 = .ok (.lmul, 1) := by decide +kernel
theorem dX12_bestOf_124 : decode cX12_bestOf 124 = .ok (.lsub, 1) := by decide +kernel
theorem dX12_bestOf_125 : decode cX12_bestOf 125 = .ok (.iload 4, 2) := by decide +kernel
theorem dX12_bestOf_127 : decode cX12_bestOf 127 = .ok (.i2l, 1) := by decide +kernel
theorem dX12_bestOf_128 : decode cX12_bestOf 128 = .ok (.lload 9, 2) := by decide +kernel
theorem dX12_bestOf_130 : decode cX12_bestOf 130 = .ok (.lmul, 1) := by decide +kernel
theorem dX12_bestOf_131 : decode cX12_bestOf 131 = .ok (.ldc 157, 2) := by decide +kernel
theorem dX12_bestOf_133 : decode cX12_bestOf 133 = .ok (.iload 4, 2) := by decide +kernel
theorem dX12_bestOf_135 : decode cX12_bestOf 135 = .ok (.isub, 1) := by decide +kernel
theorem dX12_bestOf_136 : decode cX12_bestOf 136 = .ok (.i2l, 1) := by decide +kernel
theorem dX12_bestOf_137 : decode cX12_bestOf 137 = .ok (.lload 11, 2) := by decide +kernel
theorem dX12_bestOf_139 : decode cX12_bestOf 139 = .ok (.lmul, 1) := by decide +kernel
theorem dX12_bestOf_140 : decode cX12_bestOf 140 = .ok (.ladd, 1) := by decide +kernel
theorem dX12_bestOf_141 : decode cX12_bestOf 141 = .ok (.ldc2_w 203, 3) := by decide +kernel
theorem dX12_bestOf_144 : decode cX12_bestOf 144 = .ok (.ldiv, 1) := by decide +kernel
theorem dX12_bestOf_145 : decode cX12_bestOf 145 = .ok (.ladd, 1) := by decide +kernel
theorem dX12_bestOf_146 : decode cX12_bestOf 146 = .ok (.lstore 13, 2) := by decide +kernel
theorem dX12_bestOf_148 : decode cX12_bestOf 148 = .ok (.aload_n 0, 1) := by decide +kernel
theorem dX12_bestOf_149 : decode cX12_bestOf 149 = .ok (.getfield 42, 3) := by decide +kernel
theorem dX12_bestOf_152 : decode cX12_bestOf 152 = .ok (.iload_n 3, 1) := by decide +kernel
theorem dX12_bestOf_153 : decode cX12_bestOf 153 = .ok (.aload_n 0, 1) := by decide +kernel
theorem dX12_bestOf_154 : decode cX12_bestOf 154 = .ok (.getfield 190, 3) := by decide +kernel
theorem dX12_bestOf_157 : decode cX12_bestOf 157 = .ok (.iastore, 1) := by decide +kernel
theorem dX12_bestOf_158 : decode cX12_bestOf 158 = .ok (.aload_n 0, 1) := by decide +kernel
theorem dX12_bestOf_159 : decode cX12_bestOf 159 = .ok (.getfield 36, 3) := by decide +kernel
theorem dX12_bestOf_162 : decode cX12_bestOf 162 = .ok (.iload_n 3, 1) := by decide +kernel
theorem dX12_bestOf_163 : decode cX12_bestOf 163 = .ok (.lload 7, 2) := by decide +kernel
theorem dX12_bestOf_165 : decode cX12_bestOf 165 = .ok (.lastore, 1) := by decide +kernel
theorem dX12_bestOf_166 : decode cX12_bestOf 166 = .ok (.aload_n 0, 1) := by decide +kernel
theorem dX12_bestOf_167 : decode cX12_bestOf 167 = .ok (.getfield 39, 3) := by decide +kernel
theorem dX12_bestOf_170 : decode cX12_bestOf 170 = .ok (.iload_n 3, 1) := by decide +kernel
theorem dX12_bestOf_171 : decode cX12_bestOf 171 = .ok (.lload 13, 2) := by decide +kernel
theorem dX12_bestOf_173 : decode cX12_bestOf 173 = .ok (.lastore, 1) := by decide +kernel
theorem dX12_bestOf_174 : decode cX12_bestOf 174 = .ok (.aload_n 0, 1) := by decide +kernel
theorem dX12_bestOf_175 : decode cX12_bestOf 175 = .ok (.getfield 32, 3) := by decide +kernel
theorem dX12_bestOf_178 : decode cX12_bestOf 178 = .ok (.iload_n 3, 1) := by decide +kernel
theorem dX12_bestOf_179 : decode cX12_bestOf 179 = .ok (.lload 7, 2) := by decide +kernel
theorem dX12_bestOf_181 : decode cX12_bestOf 181 = .ok (.lload 13, 2) := by decide +kernel
theorem dX12_bestOf_183 : decode cX12_bestOf 183 = .ok (.lcmp, 1) := by decide +kernel
theorem dX12_bestOf_184 : decode cX12_bestOf 184 = .ok (.ifCond .le 8, 3) := by decide +kernel
theorem dX12_bestOf_187 : decode cX12_bestOf 187 = .ok (.lload 7, 2) := by decide +kernel
theorem dX12_bestOf_189 : decode cX12_bestOf 189 = .ok (.goto 5, 3) := by decide +kernel
theorem dX12_bestOf_192 : decode cX12_bestOf 192 = .ok (.lload 13, 2) := by decide +kernel
theorem dX12_bestOf_194 : decode cX12_bestOf 194 = .ok (.lastore, 1) := by decide +kernel
theorem dX12_bestOf_195 : decode cX12_bestOf 195 = .ok (.aload_n 0, 1) := by decide +kernel
theorem dX12_bestOf_196 : decode cX12_bestOf 196 = .ok (.getfield 32, 3) := by decide +kernel
theorem dX12_bestOf_199 : decode cX12_bestOf 199 = .ok (.iload_n 3, 1) := by decide +kernel
theorem dX12_bestOf_200 : decode cX12_bestOf 200 = .ok (.laload, 1) := by decide +kernel
theorem dX12_bestOf_201 : decode cX12_bestOf 201 = .ok (.lreturn, 1) := by decide +kernel
theorem dX12_bestBy_0 : decode cX12_bestBy 0 = .ok (.aload_n 0, 1) := by decide +kernel
theorem dX12_bestBy_1 : decode cX12_bestBy 1 = .ok (.iload_n 1, 1) := by decide +kernel
theorem dX12_bestBy_2 : decode cX12_bestBy 2 = .ok (.putfield 197, 3) := by decide +kernel
theorem dX12_bestBy_5 : decode cX12_bestBy 5 = .ok (.aload_n 0, 1) := by decide +kernel
theorem dX12_bestBy_6 : decode cX12_bestBy 6 = .ok (.dup, 1) := by decide +kernel
theorem dX12_bestBy_7 : decode cX12_bestBy 7 = .ok (.getfield 190, 3) := by decide +kernel
theorem dX12_bestBy_10 : decode cX12_bestBy 10 = .ok (.iconst 1, 1) := by decide +kernel
theorem dX12_bestBy_11 : decode cX12_bestBy 11 = .ok (.iadd, 1) := by decide +kernel
theorem dX12_bestBy_12 : decode cX12_bestBy 12 = .ok (.putfield 190, 3) := by decide +kernel
theorem dX12_bestBy_15 : decode cX12_bestBy 15 = .ok (.aload_n 0, 1) := by decide +kernel
theorem dX12_bestBy_16 : decode cX12_bestBy 16 = .ok (.iconst 0, 1) := by decide +kernel
theorem dX12_bestBy_17 : decode cX12_bestBy 17 = .ok (.iload_n 2, 1) := by decide +kernel
theorem dX12_bestBy_18 : decode cX12_bestBy 18 = .ok (.invokevirtual 200, 3) := by decide +kernel
theorem dX12_bestBy_21 : decode cX12_bestBy 21 = .ok (.lreturn, 1) := by decide +kernel
theorem dX12_best_0 : decode cX12_best 0 = .ok (.aload_n 0, 1) := by decide +kernel
theorem dX12_best_1 : decode cX12_best 1 = .ok (.iload_n 1, 1) := by decide +kernel
theorem dX12_best_2 : decode cX12_best 2 = .ok (.invokevirtual 158, 3) := by decide +kernel
theorem dX12_best_5 : decode cX12_best 5 = .ok (.ifCond .eq 34, 3) := by decide +kernel
theorem dX12_best_8 : decode cX12_best 8 = .ok (.iload_n 2, 1) := by decide +kernel
theorem dX12_best_9 : decode cX12_best 9 = .ok (.iconst 0, 1) := by decide +kernel
theorem dX12_best_10 : decode cX12_best 10 = .ok (.sipush 200, 3) := by decide +kernel
theorem dX12_best_13 : decode cX12_best 13 = .ok (.invokestatic 69, 3) := by decide +kernel
theorem dX12_best_16 : decode cX12_best 16 = .ok (.ifCond .eq 23, 3) := by decide +kernel
theorem dX12_best_19 : decode cX12_best 19 = .ok (.iload_n 3, 1) := by decide +kernel
theorem dX12_best_20 : decode cX12_best 20 = .ok (.iconst 1, 1) := by decide +kernel
theorem dX12_best_21 : decode cX12_best 21 = .ok (.bipush 8, 2) := by decide +kernel
theorem dX12_best_23 : decode cX12_best 23 = .ok (.invokestatic 69, 3) := by decide +kernel
theorem dX12_best_26 : decode cX12_best 26 = .ok (.ifCond .eq 13, 3) := by decide +kernel
theorem dX12_best_29 : decode cX12_best 29 = .ok (.iload 4, 2) := by decide +kernel
theorem dX12_best_31 : decode cX12_best 31 = .ok (.iconst 0, 1) := by decide +kernel
theorem dX12_best_32 : decode cX12_best 32 = .ok (.iconst 2, 1) := by decide +kernel
theorem dX12_best_33 : decode cX12_best 33 = .ok (.invokestatic 69, 3) := by decide +kernel
theorem dX12_best_36 : decode cX12_best 36 = .ok (.ifCond .ne 7, 3) := by decide +kernel
theorem dX12_best_39 : decode cX12_best 39 = .ok (.ldc2_w 205, 3) := by decide +kernel
theorem dX12_best_42 : decode cX12_best 42 = .ok (.lreturn, 1) := by decide +kernel
theorem dX12_best_43 : decode cX12_best 43 = .ok (.aload_n 0, 1) := by decide +kernel
theorem dX12_best_44 : decode cX12_best 44 = .ok (.iload_n 1, 1) := by decide +kernel
theorem dX12_best_45 : decode cX12_best 45 = .ok (.invokevirtual 207, 3) := by decide +kernel
theorem dX12_best_48 : decode cX12_best 48 = .ok (.aload_n 0, 1) := by decide +kernel
theorem dX12_best_49 : decode cX12_best 49 = .ok (.iload_n 2, 1) := by decide +kernel
theorem dX12_best_50 : decode cX12_best 50 = .ok (.iload_n 3, 1) := by decide +kernel
theorem dX12_best_51 : decode cX12_best 51 = .ok (.invokevirtual 210, 3) := by decide +kernel
theorem dX12_best_54 : decode cX12_best 54 = .ok (.lstore 5, 2) := by decide +kernel
theorem dX12_best_56 : decode cX12_best 56 = .ok (.iload 4, 2) := by decide +kernel
theorem dX12_best_58 : decode cX12_best 58 = .ok (.ifCond .ne 8, 3) := by decide +kernel
theorem dX12_best_61 : decode cX12_best 61 = .ok (.lload 5, 2) := by decide +kernel
theorem dX12_best_63 : decode cX12_best 63 = .ok (.goto 24, 3) := by decide +kernel
theorem dX12_best_66 : decode cX12_best 66 = .ok (.iload 4, 2) := by decide +kernel
theorem dX12_best_68 : decode cX12_best 68 = .ok (.iconst 1, 1) := by decide +kernel
theorem dX12_best_69 : decode cX12_best 69 = .ok (.if_icmp .ne 12, 3) := by decide +kernel
theorem dX12_best_72 : decode cX12_best 72 = .ok (.aload_n 0, 1) := by decide +kernel
theorem dX12_best_73 : decode cX12_best 73 = .ok (.getfield 36, 3) := by decide +kernel
theorem dX12_best_76 : decode cX12_best 76 = .ok (.iload_n 3, 1) := by decide +kernel
theorem dX12_best_77 : decode cX12_best 77 = .ok (.laload, 1) := by decide +kernel
theorem dX12_best_78 : decode cX12_best 78 = .ok (.goto 9, 3) := by decide +kernel
theorem dX12_best_81 : decode cX12_best 81 = .ok (.aload_n 0, 1) := by decide +kernel
theorem dX12_best_82 : decode cX12_best 82 = .ok (.getfield 39, 3) := by decide +kernel
theorem dX12_best_85 : decode cX12_best 85 = .ok (.iload_n 3, 1) := by decide +kernel
theorem dX12_best_86 : decode cX12_best 86 = .ok (.laload, 1) := by decide +kernel
theorem dX12_best_87 : decode cX12_best 87 = .ok (.lreturn, 1) := by decide +kernel
theorem dX12_isNoWorse_0 : decode cX12_isNoWorse 0 = .ok (.aload_n 0, 1) := by decide +kernel
theorem dX12_isNoWorse_1 : decode cX12_isNoWorse 1 = .ok (.iload_n 1, 1) := by decide +kernel
theorem dX12_isNoWorse_2 : decode cX12_isNoWorse 2 = .ok (.iload_n 2, 1) := by decide +kernel
theorem dX12_isNoWorse_3 : decode cX12_isNoWorse 3 = .ok (.invokevirtual 210, 3) := by decide +kernel
theorem dX12_isNoWorse_6 : decode cX12_isNoWorse 6 = .ok (.lstore_n 3, 1) := by decide +kernel
theorem dX12_isNoWorse_7 : decode cX12_isNoWorse 7 = .ok (.aload_n 0, 1) := by decide +kernel
theorem dX12_isNoWorse_8 : decode cX12_isNoWorse 8 = .ok (.getfield 36, 3) := by decide +kernel
theorem dX12_isNoWorse_11 : decode cX12_isNoWorse 11 = .ok (.iload_n 2, 1) := by decide +kernel
theorem dX12_isNoWorse_12 : decode cX12_isNoWorse 12 = .ok (.laload, 1) := by decide +kernel
theorem dX12_isNoWorse_13 : decode cX12_isNoWorse 13 = .ok (.aload_n 0, 1) := by decide +kernel
theorem dX12_isNoWorse_14 : decode cX12_isNoWorse 14 = .ok (.getfield 39, 3) := by decide +kernel
theorem dX12_isNoWorse_17 : decode cX12_isNoWorse 17 = .ok (.iload_n 2, 1) := by decide +kernel
theorem dX12_isNoWorse_18 : decode cX12_isNoWorse 18 = .ok (.laload, 1) := by decide +kernel
theorem dX12_isNoWorse_19 : decode cX12_isNoWorse 19 = .ok (.lcmp, 1) := by decide +kernel
theorem dX12_isNoWorse_20 : decode cX12_isNoWorse 20 = .ok (.ifCond .lt 7, 3) := by decide +kernel
theorem dX12_isNoWorse_23 : decode cX12_isNoWorse 23 = .ok (.iconst 1, 1) := by decide +kernel
theorem dX12_isNoWorse_24 : decode cX12_isNoWorse 24 = .ok (.goto 4, 3) := by decide +kernel
theorem dX12_isNoWorse_27 : decode cX12_isNoWorse 27 = .ok (.iconst 0, 1) := by decide +kernel
theorem dX12_isNoWorse_28 : decode cX12_isNoWorse 28 = .ok (.ireturn, 1) := by decide +kernel
theorem dX12_numberOf_0 : decode cX12_numberOf 0 = .ok (.aload_n 0, 1) := by decide +kernel
theorem dX12_numberOf_1 : decode cX12_numberOf 1 = .ok (.iload_n 1, 1) := by decide +kernel
theorem dX12_numberOf_2 : decode cX12_numberOf 2 = .ok (.invokevirtual 207, 3) := by decide +kernel
theorem dX12_numberOf_5 : decode cX12_numberOf 5 = .ok (.iconst 0, 1) := by decide +kernel
theorem dX12_numberOf_6 : decode cX12_numberOf 6 = .ok (.istore_n 3, 1) := by decide +kernel
theorem dX12_numberOf_7 : decode cX12_numberOf 7 = .ok (.iload_n 3, 1) := by decide +kernel
theorem dX12_numberOf_8 : decode cX12_numberOf 8 = .ok (.sipush 200, 3) := by decide +kernel
theorem dX12_numberOf_11 : decode cX12_numberOf 11 = .ok (.if_icmp .gt 20, 3) := by decide +kernel
theorem dX12_numberOf_14 : decode cX12_numberOf 14 = .ok (.aload_n 0, 1) := by decide +kernel
theorem dX12_numberOf_15 : decode cX12_numberOf 15 = .ok (.iload_n 3, 1) := by decide +kernel
theorem dX12_numberOf_16 : decode cX12_numberOf 16 = .ok (.iload_n 2, 1) := by decide +kernel
theorem dX12_numberOf_17 : decode cX12_numberOf 17 = .ok (.invokevirtual 213, 3) := by decide +kernel
theorem dX12_numberOf_20 : decode cX12_numberOf 20 = .ok (.ifCond .eq 5, 3) := by decide +kernel
theorem dX12_numberOf_23 : decode cX12_numberOf 23 = .ok (.iload_n 3, 1) := by decide +kernel
theorem dX12_numberOf_24 : decode cX12_numberOf 24 = .ok (.ireturn, 1) := by decide +kernel
theorem dX12_numberOf_25 : decode cX12_numberOf 25 = .ok (.iinc 3 1, 3) := by decide +kernel
theorem dX12_numberOf_28 : decode cX12_numberOf 28 = .ok (.goto (-21), 3) := by decide +kernel
theorem dX12_numberOf_31 : decode cX12_numberOf 31 = .ok (.bipush (-5), 2) := by decide +kernel
theorem dX12_numberOf_33 : decode cX12_numberOf 33 = .ok (.ireturn, 1) := by decide +kernel
theorem dX12_number_0 : decode cX12_number 0 = .ok (.aload_n 0, 1) := by decide +kernel
theorem dX12_number_1 : decode cX12_number 1 = .ok (.iload_n 1, 1) := by decide +kernel
theorem dX12_number_2 : decode cX12_number 2 = .ok (.invokevirtual 158, 3) := by decide +kernel
theorem dX12_number_5 : decode cX12_number 5 = .ok (.ifCond .ne 5, 3) := by decide +kernel
theorem dX12_number_8 : decode cX12_number 8 = .ok (.iconst (-1), 1) := by decide +kernel
theorem dX12_number_9 : decode cX12_number 9 = .ok (.ireturn, 1) := by decide +kernel
theorem dX12_number_10 : decode cX12_number 10 = .ok (.iload_n 2, 1) := by decide +kernel
theorem dX12_number_11 : decode cX12_number 11 = .ok (.iconst 1, 1) := by decide +kernel
theorem dX12_number_12 : decode cX12_number 12 = .ok (.bipush 8, 2) := by decide +kernel
theorem dX12_number_14 : decode cX12_number 14 = .ok (.invokestatic 69, 3) := by decide +kernel
theorem dX12_number_17 : decode cX12_number 17 = .ok (.ifCond .eq 12, 3) := by decide +kernel
theorem dX12_number_20 : decode cX12_number 20 = .ok (.aload_n 0, 1) := by decide +kernel
theorem dX12_number_21 : decode cX12_number 21 = .ok (.iload_n 1, 1) := by decide +kernel
theorem dX12_number_22 : decode cX12_number 22 = .ok (.iload_n 2, 1) := by decide +kernel
theorem dX12_number_23 : decode cX12_number 23 = .ok (.invokevirtual 217, 3) := by decide +kernel
theorem dX12_number_26 : decode cX12_number 26 = .ok (.goto 5, 3) := by decide +kernel
theorem dX12_number_29 : decode cX12_number 29 = .ok (.bipush (-2), 2) := by decide +kernel
theorem dX12_number_31 : decode cX12_number 31 = .ok (.ireturn, 1) := by decide +kernel
theorem dX12_such_0 : decode cX12_such 0 = .ok (.aload_n 0, 1) := by decide +kernel
theorem dX12_such_1 : decode cX12_such 1 = .ok (.iload_n 1, 1) := by decide +kernel
theorem dX12_such_2 : decode cX12_such 2 = .ok (.invokevirtual 158, 3) := by decide +kernel
theorem dX12_such_5 : decode cX12_such 5 = .ok (.ifCond .ne 5, 3) := by decide +kernel
theorem dX12_such_8 : decode cX12_such 8 = .ok (.iconst (-1), 1) := by decide +kernel
theorem dX12_such_9 : decode cX12_such 9 = .ok (.ireturn, 1) := by decide +kernel
theorem dX12_such_10 : decode cX12_such 10 = .ok (.iload_n 2, 1) := by decide +kernel
theorem dX12_such_11 : decode cX12_such 11 = .ok (.iconst 1, 1) := by decide +kernel
theorem dX12_such_12 : decode cX12_such 12 = .ok (.bipush 8, 2) := by decide +kernel
theorem dX12_such_14 : decode cX12_such 14 = .ok (.invokestatic 69, 3) := by decide +kernel
theorem dX12_such_17 : decode cX12_such 17 = .ok (.ifCond .ne 6, 3) := by decide +kernel
theorem dX12_such_20 : decode cX12_such 20 = .ok (.bipush (-2), 2) := by decide +kernel
theorem dX12_such_22 : decode cX12_such 22 = .ok (.ireturn, 1) := by decide +kernel
theorem dX12_such_23 : decode cX12_such 23 = .ok (.aload_n 0, 1) := by decide +kernel
theorem dX12_such_24 : decode cX12_such 24 = .ok (.iload_n 1, 1) := by decide +kernel
theorem dX12_such_25 : decode cX12_such 25 = .ok (.iload_n 2, 1) := by decide +kernel
theorem dX12_such_26 : decode cX12_such 26 = .ok (.invokevirtual 217, 3) := by decide +kernel
theorem dX12_such_29 : decode cX12_such 29 = .ok (.istore_n 3, 1) := by decide +kernel
theorem dX12_such_30 : decode cX12_such 30 = .ok (.iload_n 3, 1) := by decide +kernel
theorem dX12_such_31 : decode cX12_such 31 = .ok (.bipush (-5), 2) := by decide +kernel
theorem dX12_such_33 : decode cX12_such 33 = .ok (.if_icmp .ne 6, 3) := by decide +kernel
theorem dX12_such_36 : decode cX12_such 36 = .ok (.bipush (-5), 2) := by decide +kernel
theorem dX12_such_38 : decode cX12_such 38 = .ok (.ireturn, 1) := by decide +kernel
theorem dX12_such_39 : decode cX12_such 39 = .ok (.iload_n 3, 1) := by decide +kernel
theorem dX12_such_40 : decode cX12_such 40 = .ok (.iconst 1, 1) := by decide +kernel
theorem dX12_such_41 : decode cX12_such 41 = .ok (.iadd, 1) := by decide +kernel
theorem dX12_such_42 : decode cX12_such 42 = .ok (.istore 4, 2) := by decide +kernel
theorem dX12_such_44 : decode cX12_such 44 = .ok (.iload 4, 2) := by decide +kernel
theorem dX12_such_46 : decode cX12_such 46 = .ok (.sipush 200, 3) := by decide +kernel
theorem dX12_such_49 : decode cX12_such 49 = .ok (.if_icmp .gt 21, 3) := by decide +kernel
theorem dX12_such_52 : decode cX12_such 52 = .ok (.aload_n 0, 1) := by decide +kernel
theorem dX12_such_53 : decode cX12_such 53 = .ok (.iload 4, 2) := by decide +kernel
theorem dX12_such_55 : decode cX12_such 55 = .ok (.iload_n 2, 1) := by decide +kernel
theorem dX12_such_56 : decode cX12_such 56 = .ok (.invokevirtual 213, 3) := by decide +kernel
theorem dX12_such_59 : decode cX12_such 59 = .ok (.ifCond .ne 5, 3) := by decide +kernel
theorem dX12_such_62 : decode cX12_such 62 = .ok (.iconst 0, 1) := by decide +kernel
theorem dX12_such_63 : decode cX12_such 63 = .ok (.ireturn, 1) := by decide +kernel
theorem dX12_such_64 : decode cX12_such 64 = .ok (.iinc 4 1, 3) := by decide +kernel
theorem dX12_such_67 : decode cX12_such 67 = .ok (.goto (-23), 3) := by decide +kernel
theorem dX12_such_70 : decode cX12_such 70 = .ok (.iconst 1, 1) := by decide +kernel
theorem dX12_such_71 : decode cX12_such 71 = .ok (.ireturn, 1) := by decide +kernel
theorem dX12_looks_0 : decode cX12_looks 0 = .ok (.iload_n 1, 1) := by decide +kernel
theorem dX12_looks_1 : decode cX12_looks 1 = .ok (.iconst 1, 1) := by decide +kernel
theorem dX12_looks_2 : decode cX12_looks 2 = .ok (.iconst 3, 1) := by decide +kernel
theorem dX12_looks_3 : decode cX12_looks 3 = .ok (.invokestatic 69, 3) := by decide +kernel
theorem dX12_looks_6 : decode cX12_looks 6 = .ok (.ifCond .ne 6, 3) := by decide +kernel
theorem dX12_looks_9 : decode cX12_looks 9 = .ok (.bipush (-2), 2) := by decide +kernel
theorem dX12_looks_11 : decode cX12_looks 11 = .ok (.ireturn, 1) := by decide +kernel
theorem dX12_looks_12 : decode cX12_looks 12 = .ok (.aload_n 0, 1) := by decide +kernel
theorem dX12_looks_13 : decode cX12_looks 13 = .ok (.getfield 9, 3) := by decide +kernel
theorem dX12_looks_16 : decode cX12_looks 16 = .ok (.iconst 4, 1) := by decide +kernel
theorem dX12_looks_17 : decode cX12_looks 17 = .ok (.iaload, 1) := by decide +kernel
theorem dX12_looks_18 : decode cX12_looks 18 = .ok (.istore_n 2, 1) := by decide +kernel
theorem dX12_looks_19 : decode cX12_looks 19 = .ok (.aload_n 0, 1) := by decide +kernel
theorem dX12_looks_20 : decode cX12_looks 20 = .ok (.getfield 9, 3) := by decide +kernel
theorem dX12_looks_23 : decode cX12_looks 23 = .ok (.iconst 4, 1) := by decide +kernel
theorem dX12_looks_24 : decode cX12_looks 24 = .ok (.iload_n 1, 1) := by decide +kernel
theorem dX12_looks_25 : decode cX12_looks 25 = .ok (.iastore, 1) := by decide +kernel
theorem dX12_looks_26 : decode cX12_looks 26 = .ok (.iload_n 2, 1) := by decide +kernel
theorem dX12_looks_27 : decode cX12_looks 27 = .ok (.ireturn, 1) := by decide +kernel
theorem dX12_looking_0 : decode cX12_looking 0 = .ok (.aload_n 0, 1) := by decide +kernel
theorem dX12_looking_1 : decode cX12_looking 1 = .ok (.getfield 9, 3) := by decide +kernel
theorem dX12_looking_4 : decode cX12_looking 4 = .ok (.iconst 4, 1) := by decide +kernel
theorem dX12_looking_5 : decode cX12_looking 5 = .ok (.iaload, 1) := by decide +kernel
theorem dX12_looking_6 : decode cX12_looking 6 = .ok (.aload_n 0, 1) := by decide +kernel
theorem dX12_looking_7 : decode cX12_looking 7 = .ok (.getfield 9, 3) := by decide +kernel
theorem dX12_looking_10 : decode cX12_looking 10 = .ok (.iconst 1, 1) := by decide +kernel
theorem dX12_looking_11 : decode cX12_looking 11 = .ok (.iaload, 1) := by decide +kernel
theorem dX12_looking_12 : decode cX12_looking 12 = .ok (.if_icmp .ge 12, 3) := by decide +kernel
theorem dX12_looking_15 : decode cX12_looking 15 = .ok (.aload_n 0, 1) := by decide +kernel
theorem dX12_looking_16 : decode cX12_looking 16 = .ok (.getfield 9, 3) := by decide +kernel
theorem dX12_looking_19 : decode cX12_looking 19 = .ok (.iconst 4, 1) := by decide +kernel
theorem dX12_looking_20 : decode cX12_looking 20 = .ok (.iaload, 1) := by decide +kernel
theorem dX12_looking_21 : decode cX12_looking 21 = .ok (.goto 9, 3) := by decide +kernel
theorem dX12_looking_24 : decode cX12_looking 24 = .ok (.aload_n 0, 1) := by decide +kernel
theorem dX12_looking_25 : decode cX12_looking 25 = .ok (.getfield 9, 3) := by decide +kernel
theorem dX12_looking_28 : decode cX12_looking 28 = .ok (.iconst 1, 1) := by decide +kernel
theorem dX12_looking_29 : decode cX12_looking 29 = .ok (.iaload, 1) := by decide +kernel
theorem dX12_looking_30 : decode cX12_looking 30 = .ok (.ireturn, 1) := by decide +kernel
theorem dX12_plan_0 : decode cX12_plan 0 = .ok (.iload_n 1, 1) := by decide +kernel
theorem dX12_plan_1 : decode cX12_plan 1 = .ok (.iconst 0, 1) := by decide +kernel
theorem dX12_plan_2 : decode cX12_plan 2 = .ok (.bipush 6, 2) := by decide +kernel
theorem dX12_plan_4 : decode cX12_plan 4 = .ok (.invokestatic 69, 3) := by decide +kernel
theorem dX12_plan_7 : decode cX12_plan 7 = .ok (.ifCond .ne 5, 3) := by decide +kernel
theorem dX12_plan_10 : decode cX12_plan 10 = .ok (.iconst (-1), 1) := by decide +kernel
theorem dX12_plan_11 : decode cX12_plan 11 = .ok (.ireturn, 1) := by decide +kernel
theorem dX12_plan_12 : decode cX12_plan 12 = .ok (.iload_n 2, 1) := by decide +kernel
theorem dX12_plan_13 : decode cX12_plan 13 = .ok (.iconst 0, 1) := by decide +kernel
theorem dX12_plan_14 : decode cX12_plan 14 = .ok (.bipush 99, 2) := by decide +kernel
theorem dX12_plan_16 : decode cX12_plan 16 = .ok (.invokestatic 69, 3) := by decide +kernel
theorem dX12_plan_19 : decode cX12_plan 19 = .ok (.ifCond .ne 6, 3) := by decide +kernel
theorem dX12_plan_22 : decode cX12_plan 22 = .ok (.bipush (-2), 2) := by decide +kernel
theorem dX12_plan_24 : decode cX12_plan 24 = .ok (.ireturn, 1) := by decide +kernel
theorem dX12_plan_25 : decode cX12_plan 25 = .ok (.aload_n 0, 1) := by decide +kernel
theorem dX12_plan_26 : decode cX12_plan 26 = .ok (.getfield 9, 3) := by decide +kernel
theorem dX12_plan_29 : decode cX12_plan 29 = .ok (.iconst 2, 1) := by decide +kernel
theorem dX12_plan_30 : decode cX12_plan 30 = .ok (.iaload, 1) := by decide +kernel
theorem dX12_plan_31 : decode cX12_plan 31 = .ok (.bipush 12, 2) := by decide +kernel
theorem dX12_plan_33 : decode cX12_plan 33 = .ok (.if_icmp .ne 6, 3) := by decide +kernel
theorem dX12_plan_36 : decode cX12_plan 36 = .ok (.bipush (-4), 2) := by decide +kernel
theorem dX12_plan_38 : decode cX12_plan 38 = .ok (.ireturn, 1) := by decide +kernel
theorem dX12_plan_39 : decode cX12_plan 39 = .ok (.aload_n 0, 1) := by decide +kernel
theorem dX12_plan_40 : decode cX12_plan 40 = .ok (.getfield 9, 3) := by decide +kernel
theorem dX12_plan_43 : decode cX12_plan 43 = .ok (.iconst 2, 1) := by decide +kernel
theorem dX12_plan_44 : decode cX12_plan 44 = .ok (.iaload, 1) := by decide +kernel
theorem dX12_plan_45 : decode cX12_plan 45 = .ok (.istore_n 3, 1) := by decide +kernel
theorem dX12_plan_46 : decode cX12_plan 46 = .ok (.aload_n 0, 1) := by decide +kernel
theorem dX12_plan_47 : decode cX12_plan 47 = .ok (.getfield 9, 3) := by decide +kernel
theorem dX12_plan_50 : decode cX12_plan 50 = .ok (.sipush 1070, 3) := by decide +kernel
theorem dX12_plan_53 : decode cX12_plan 53 = .ok (.iload_n 3, 1) := by decide +kernel
theorem dX12_plan_54 : decode cX12_plan 54 = .ok (.iadd, 1) := by decide +kernel
theorem dX12_plan_55 : decode cX12_plan 55 = .ok (.iload_n 1, 1) := by decide +kernel
theorem dX12_plan_56 : decode cX12_plan 56 = .ok (.iastore, 1) := by decide +kernel
theorem dX12_plan_57 : decode cX12_plan 57 = .ok (.aload_n 0, 1) := by decide +kernel
theorem dX12_plan_58 : decode cX12_plan 58 = .ok (.getfield 9, 3) := by decide +kernel
theorem dX12_plan_61 : decode cX12_plan 61 = .ok (.sipush 1082, 3) := by decide +kernel
theorem dX12_plan_64 : decode cX12_plan 64 = .ok (.iload_n 3, 1) := by decide +kernel
theorem dX12_plan_65 : decode cX12_plan 65 = .ok (.iadd, 1) := by decide +kernel
theorem dX12_plan_66 : decode cX12_plan 66 = .ok (.iload_n 2, 1) := by decide +kernel
theorem dX12_plan_67 : decode cX12_plan 67 = .ok (.iastore, 1) := by decide +kernel
theorem dX12_plan_68 : decode cX12_plan 68 = .ok (.aload_n 0, 1) := by decide +kernel
theorem dX12_plan_69 : decode cX12_plan 69 = .ok (.getfield 9, 3) := by decide +kernel
theorem dX12_plan_72 : decode cX12_plan 72 = .ok (.sipush 1094, 3) := by decide +kernel
theorem dX12_plan_75 : decode cX12_plan 75 = .ok (.iload_n 3, 1) := by decide +kernel
theorem dX12_plan_76 : decode cX12_plan 76 = .ok (.iadd, 1) := by decide +kernel
theorem dX12_plan_77 : decode cX12_plan 77 = .ok (.iconst 0, 1) := by decide +kernel
theorem dX12_plan_78 : decode cX12_plan 78 = .ok (.iastore, 1) := by decide +kernel
theorem dX12_plan_79 : decode cX12_plan 79 = .ok (.aload_n 0, 1) := by decide +kernel
theorem dX12_plan_80 : decode cX12_plan 80 = .ok (.getfield 9, 3) := by decide +kernel
theorem dX12_plan_83 : decode cX12_plan 83 = .ok (.iconst 2, 1) := by decide +kernel
theorem dX12_plan_84 : decode cX12_plan 84 = .ok (.dup2, 1) := by decide +kernel
theorem dX12_plan_85 : decode cX12_plan 85 = .ok (.iaload, 1) := by decide +kernel
theorem dX12_plan_86 : decode cX12_plan 86 = .ok (.iconst 1, 1) := by decide +kernel
theorem dX12_plan_87 : decode cX12_plan 87 = .ok (.iadd, 1) := by decide +kernel
theorem dX12_plan_88 : decode cX12_plan 88 = .ok (.iastore, 1) := by decide +kernel
theorem dX12_plan_89 : decode cX12_plan 89 = .ok (.iload_n 3, 1) := by decide +kernel
theorem dX12_plan_90 : decode cX12_plan 90 = .ok (.ireturn, 1) := by decide +kernel
theorem dX12_row_0 : decode cX12_row 0 = .ok (.aload_n 0, 1) := by decide +kernel
theorem dX12_row_1 : decode cX12_row 1 = .ok (.iload_n 1, 1) := by decide +kernel
theorem dX12_row_2 : decode cX12_row 2 = .ok (.invokevirtual 220, 3) := by decide +kernel
theorem dX12_row_5 : decode cX12_row 5 = .ok (.ifCond .ne 5, 3) := by decide +kernel
theorem dX12_row_8 : decode cX12_row 8 = .ok (.iconst (-1), 1) := by decide +kernel
theorem dX12_row_9 : decode cX12_row 9 = .ok (.ireturn, 1) := by decide +kernel
theorem dX12_row_10 : decode cX12_row 10 = .ok (.iload_n 2, 1) := by decide +kernel
theorem dX12_row_11 : decode cX12_row 11 = .ok (.iconst 0, 1) := by decide +kernel
theorem dX12_row_12 : decode cX12_row 12 = .ok (.iconst 1, 1) := by decide +kernel
theorem dX12_row_13 : decode cX12_row 13 = .ok (.aload_n 0, 1) := by decide +kernel
theorem dX12_row_14 : decode cX12_row 14 = .ok (.getfield 9, 3) := by decide +kernel
theorem dX12_row_17 : decode cX12_row 17 = .ok (.iconst 1, 1) := by decide +kernel
theorem dX12_row_18 : decode cX12_row 18 = .ok (.iaload, 1) := by decide +kernel
theorem dX12_row_19 : decode cX12_row 19 = .ok (.ishl, 1) := by decide +kernel
theorem dX12_row_20 : decode cX12_row 20 = .ok (.iconst 1, 1) := by decide +kernel
theorem dX12_row_21 : decode cX12_row 21 = .ok (.isub, 1) := by decide +kernel
theorem dX12_row_22 : decode cX12_row 22 = .ok (.invokestatic 69, 3) := by decide +kernel
theorem dX12_row_25 : decode cX12_row 25 = .ok (.ifCond .ne 6, 3) := by decide +kernel
theorem dX12_row_28 : decode cX12_row 28 = .ok (.bipush (-2), 2) := by decide +kernel
theorem dX12_row_30 : decode cX12_row 30 = .ok (.ireturn, 1) := by decide +kernel
theorem dX12_row_31 : decode cX12_row 31 = .ok (.aload_n 0, 1) := by decide +kernel
theorem dX12_row_32 : decode cX12_row 32 = .ok (.getfield 9, 3) := by decide +kernel
theorem dX12_row_35 : decode cX12_row 35 = .ok (.sipush 1070, 3) := by decide +kernel
theorem dX12_row_38 : decode cX12_row 38 = .ok (.iload_n 1, 1) := by decide +kernel
theorem dX12_row_39 : decode cX12_row 39 = .ok (.iadd, 1) := by decide +kernel
theorem dX12_row_40 : decode cX12_row 40 = .ok (.iaload, 1) := by decide +kernel
theorem dX12_row_41 : decode cX12_row 41 = .ok (.bipush 6, 2) := by decide +kernel
theorem dX12_row_43 : decode cX12_row 43 = .ok (.if_icmp .eq 6, 3) := by decide +kernel
theorem dX12_row_46 : decode cX12_row 46 = .ok (.bipush (-3), 2) := by decide +kernel
theorem dX12_row_48 : decode cX12_row 48 = .ok (.ireturn, 1) := by decide +kernel
theorem dX12_row_49 : decode cX12_row 49 = .ok (.aload_n 0, 1) := by decide +kernel
theorem dX12_row_50 : decode cX12_row 50 = .ok (.getfield 9, 3) := by decide +kernel
theorem dX12_row_53 : decode cX12_row 53 = .ok (.sipush 1094, 3) := by decide +kernel
theorem dX12_row_56 : decode cX12_row 56 = .ok (.iload_n 1, 1) := by decide +kernel
theorem dX12_row_57 : decode cX12_row 57 = .ok (.iadd, 1) := by decide +kernel
theorem dX12_row_58 : decode cX12_row 58 = .ok (.iaload, 1) := by decide +kernel
theorem dX12_row_59 : decode cX12_row 59 = .ok (.bipush 10, 2) := by decide +kernel
theorem dX12_row_61 : decode cX12_row 61 = .ok (.if_icmp .ne 6, 3) := by decide +kernel
theorem dX12_row_64 : decode cX12_row 64 = .ok (.bipush (-4), 2) := by decide +kernel
theorem dX12_row_66 : decode cX12_row 66 = .ok (.ireturn, 1) := by decide +kernel
theorem dX12_row_67 : decode cX12_row 67 = .ok (.aload_n 0, 1) := by decide +kernel
theorem dX12_row_68 : decode cX12_row 68 = .ok (.getfield 9, 3) := by decide +kernel
theorem dX12_row_71 : decode cX12_row 71 = .ok (.sipush 1110, 3) := by decide +kernel
theorem dX12_row_74 : decode cX12_row 74 = .ok (.bipush 10, 2) := by decide +kernel
theorem dX12_row_76 : decode cX12_row 76 = .ok (.iload_n 1, 1) := by decide +kernel
theorem dX12_row_77 : decode cX12_row 77 = .ok (.imul, 1) := by decide +kernel
theorem dX12_row_78 : decode cX12_row 78 = .ok (.iadd, 1) := by decide +kernel
theorem dX12_row_79 : decode cX12_row 79 = .ok (.aload_n 0, 1) := by decide +kernel
theorem dX12_row_80 : decode cX12_row 80 = .ok (.getfield 9, 3) := by decide +kernel
theorem dX12_row_83 : decode cX12_row 83 = .ok (.sipush 1094, 3) := by decide +kernel
theorem dX12_row_86 : decode cX12_row 86 = .ok (.iload_n 1, 1) := by decide +kernel
theorem dX12_row_87 : decode cX12_row 87 = .ok (.iadd, 1) := by decide +kernel
theorem dX12_row_88 : decode cX12_row 88 = .ok (.iaload, 1) := by decide +kernel
theorem dX12_row_89 : decode cX12_row 89 = .ok (.iadd, 1) := by decide +kernel
theorem dX12_row_90 : decode cX12_row 90 = .ok (.iload_n 2, 1) := by decide +kernel
theorem dX12_row_91 : decode cX12_row 91 = .ok (.iastore, 1) := by decide +kernel
theorem dX12_row_92 : decode cX12_row 92 = .ok (.aload_n 0, 1) := by decide +kernel
theorem dX12_row_93 : decode cX12_row 93 = .ok (.getfield 9, 3) := by decide +kernel
theorem dX12_row_96 : decode cX12_row 96 = .ok (.sipush 1094, 3) := by decide +kernel
theorem dX12_row_99 : decode cX12_row 99 = .ok (.iload_n 1, 1) := by decide +kernel
theorem dX12_row_100 : decode cX12_row 100 = .ok (.iadd, 1) := by decide +kernel
theorem dX12_row_101 : decode cX12_row 101 = .ok (.dup2, 1) := by decide +kernel
theorem dX12_row_102 : decode cX12_row 102 = .ok (.iaload, 1) := by decide +kernel
theorem dX12_row_103 : decode cX12_row 103 = .ok (.iconst 1, 1) := by decide +kernel
theorem dX12_row_104 : decode cX12_row 104 = .ok (.iadd, 1) := by decide +kernel
theorem dX12_row_105 : decode cX12_row 105 = .ok (.iastore, 1) := by decide +kernel
theorem dX12_row_106 : decode cX12_row 106 = .ok (.aload_n 0, 1) := by decide +kernel
theorem dX12_row_107 : decode cX12_row 107 = .ok (.getfield 9, 3) := by decide +kernel
theorem dX12_row_110 : decode cX12_row 110 = .ok (.sipush 1094, 3) := by decide +kernel
theorem dX12_row_113 : decode cX12_row 113 = .ok (.iload_n 1, 1) := by decide +kernel
theorem dX12_row_114 : decode cX12_row 114 = .ok (.iadd, 1) := by decide +kernel
theorem dX12_row_115 : decode cX12_row 115 = .ok (.iaload, 1) := by decide +kernel
theorem dX12_row_116 : decode cX12_row 116 = .ok (.ireturn, 1) := by decide +kernel
theorem dX12_worth_0 : decode cX12_worth 0 = .ok (.aload_n 0, 1) := by decide +kernel
theorem dX12_worth_1 : decode cX12_worth 1 = .ok (.getfield 9, 3) := by decide +kernel
theorem dX12_worth_4 : decode cX12_worth 4 = .ok (.sipush 1070, 3) := by decide +kernel
theorem dX12_worth_7 : decode cX12_worth 7 = .ok (.iload_n 1, 1) := by decide +kernel
theorem dX12_worth_8 : decode cX12_worth 8 = .ok (.iadd, 1) := by decide +kernel
theorem dX12_worth_9 : decode cX12_worth 9 = .ok (.iaload, 1) := by decide +kernel
theorem dX12_worth_10 : decode cX12_worth 10 = .ok (.tableswitch 93 1 5 #[34, 93, 68, 93, 82], 34) := by decide +kernel
theorem dX12_worth_44 : decode cX12_worth 44 = .ok (.aload_n 0, 1) := by decide +kernel
theorem dX12_worth_45 : decode cX12_worth 45 = .ok (.iload_n 2, 1) := by decide +kernel
theorem dX12_worth_46 : decode cX12_worth 46 = .ok (.iconst 1, 1) := by decide +kernel
theorem dX12_worth_47 : decode cX12_worth 47 = .ok (.aload_n 0, 1) := by decide +kernel
theorem dX12_worth_48 : decode cX12_worth 48 = .ok (.getfield 9, 3) := by decide +kernel
theorem dX12_worth_51 : decode cX12_worth 51 = .ok (.sipush 1082, 3) := by decide +kernel
theorem dX12_worth_54 : decode cX12_worth 54 = .ok (.iload_n 1, 1) := by decide +kernel
theorem dX12_worth_55 : decode cX12_worth 55 = .ok (.iadd, 1) := by decide +kernel
theorem dX12_worth_56 : decode cX12_worth 56 = .ok (.iaload, 1) := by decide +kernel
theorem dX12_worth_57 : decode cX12_worth 57 = .ok (.iconst 3, 1) := by decide +kernel
theorem dX12_worth_58 : decode cX12_worth 58 = .ok (.irem, 1) := by decide +kernel
theorem dX12_worth_59 : decode cX12_worth 59 = .ok (.iadd, 1) := by decide +kernel
theorem dX12_worth_60 : decode cX12_worth 60 = .ok (.invokevirtual 217, 3) := by decide +kernel
theorem dX12_worth_63 : decode cX12_worth 63 = .ok (.istore_n 3, 1) := by decide +kernel
theorem dX12_worth_64 : decode cX12_worth 64 = .ok (.iload_n 3, 1) := by decide +kernel
theorem dX12_worth_65 : decode cX12_worth 65 = .ok (.bipush (-5), 2) := by decide +kernel
theorem dX12_worth_67 : decode cX12_worth 67 = .ok (.if_icmp .ne 9, 3) := by decide +kernel
theorem dX12_worth_70 : decode cX12_worth 70 = .ok (.sipush 201, 3) := by decide +kernel
theorem dX12_worth_73 : decode cX12_worth 73 = .ok (.goto 4, 3) := by decide +kernel
theorem dX12_worth_76 : decode cX12_worth 76 = .ok (.iload_n 3, 1) := by decide +kernel
theorem dX12_worth_77 : decode cX12_worth 77 = .ok (.ireturn, 1) := by decide +kernel
theorem dX12_worth_78 : decode cX12_worth 78 = .ok (.ldc 157, 2) := by decide +kernel
theorem dX12_worth_80 : decode cX12_worth 80 = .ok (.aload_n 0, 1) := by decide +kernel
theorem dX12_worth_81 : decode cX12_worth 81 = .ok (.getfield 9, 3) := by decide +kernel
theorem dX12_worth_84 : decode cX12_worth 84 = .ok (.sipush 1034, 3) := by decide +kernel
theorem dX12_worth_87 : decode cX12_worth 87 = .ok (.iload_n 2, 1) := by decide +kernel
theorem dX12_worth_88 : decode cX12_worth 88 = .ok (.iadd, 1) := by decide +kernel
theorem dX12_worth_89 : decode cX12_worth 89 = .ok (.iaload, 1) := by decide +kernel
theorem dX12_worth_90 : decode cX12_worth 90 = .ok (.isub, 1) := by decide +kernel
theorem dX12_worth_91 : decode cX12_worth 91 = .ok (.ireturn, 1) := by decide +kernel
theorem dX12_worth_92 : decode cX12_worth 92 = .ok (.aload_n 0, 1) := by decide +kernel
theorem dX12_worth_93 : decode cX12_worth 93 = .ok (.getfield 9, 3) := by decide +kernel
theorem dX12_worth_96 : decode cX12_worth 96 = .ok (.sipush 1042, 3) := by decide +kernel
theorem dX12_worth_99 : decode cX12_worth 99 = .ok (.iload_n 2, 1) := by decide +kernel
theorem dX12_worth_100 : decode cX12_worth 100 = .ok (.iadd, 1) := by decide +kernel
theorem dX12_worth_101 : decode cX12_worth 101 = .ok (.iaload, 1) := by decide +kernel
theorem dX12_worth_102 : decode cX12_worth 102 = .ok (.ireturn, 1) := by decide +kernel
theorem dX12_worth_103 : decode cX12_worth 103 = .ok (.iconst 0, 1) := by decide +kernel
theorem dX12_worth_104 : decode cX12_worth 104 = .ok (.ireturn, 1) := by decide +kernel
theorem dX12_greatest_0 : decode cX12_greatest 0 = .ok (.iconst 0, 1) := by decide +kernel
theorem dX12_greatest_1 : decode cX12_greatest 1 = .ok (.istore_n 2, 1) := by decide +kernel
theorem dX12_greatest_2 : decode cX12_greatest 2 = .ok (.iload_n 2, 1) := by decide +kernel
theorem dX12_greatest_3 : decode cX12_greatest 3 = .ok (.aload_n 0, 1) := by decide +kernel
theorem dX12_greatest_4 : decode cX12_greatest 4 = .ok (.getfield 9, 3) := by decide +kernel
theorem dX12_greatest_7 : decode cX12_greatest 7 = .ok (.iconst 1, 1) := by decide +kernel
theorem dX12_greatest_8 : decode cX12_greatest 8 = .ok (.iaload, 1) := by decide +kernel
theorem dX12_greatest_9 : decode cX12_greatest 9 = .ok (.if_icmp .ge 21, 3) := by decide +kernel
theorem dX12_greatest_12 : decode cX12_greatest 12 = .ok (.aload_n 0, 1) := by decide +kernel
theorem dX12_greatest_13 : decode cX12_greatest 13 = .ok (.getfield 45, 3) := by decide +kernel
theorem dX12_greatest_16 : decode cX12_greatest 16 = .ok (.iload_n 2, 1) := by decide +kernel
theorem dX12_greatest_17 : decode cX12_greatest 17 = .ok (.aload_n 0, 1) := by decide +kernel
theorem dX12_greatest_18 : decode cX12_greatest 18 = .ok (.iload_n 1, 1) := by decide +kernel
theorem dX12_greatest_19 : decode cX12_greatest 19 = .ok (.iload_n 2, 1) := by decide +kernel
theorem dX12_greatest_20 : decode cX12_greatest 20 = .ok (.invokevirtual 223, 3) := by decide +kernel
theorem dX12_greatest_23 : decode cX12_greatest 23 = .ok (.iastore, 1) := by decide +kernel
theorem dX12_greatest_24 : decode cX12_greatest 24 = .ok (.iinc 2 1, 3) := by decide +kernel
theorem dX12_greatest_27 : decode cX12_greatest 27 = .ok (.goto (-25), 3) := by decide +kernel
theorem dX12_greatest_30 : decode cX12_greatest 30 = .ok (.iconst 0, 1) := by decide +kernel
theorem dX12_greatest_31 : decode cX12_greatest 31 = .ok (.istore_n 2, 1) := by decide +kernel
theorem dX12_greatest_32 : decode cX12_greatest 32 = .ok (.iconst 0, 1) := by decide +kernel
theorem dX12_greatest_33 : decode cX12_greatest 33 = .ok (.istore_n 3, 1) := by decide +kernel
theorem dX12_greatest_34 : decode cX12_greatest 34 = .ok (.iload_n 3, 1) := by decide +kernel
theorem dX12_greatest_35 : decode cX12_greatest 35 = .ok (.aload_n 0, 1) := by decide +kernel
theorem dX12_greatest_36 : decode cX12_greatest 36 = .ok (.invokevirtual 226, 3) := by decide +kernel
theorem dX12_greatest_39 : decode cX12_greatest 39 = .ok (.if_icmp .ge 92, 3) := by decide +kernel
theorem dX12_greatest_42 : decode cX12_greatest 42 = .ok (.iconst (-1), 1) := by decide +kernel
theorem dX12_greatest_43 : decode cX12_greatest 43 = .ok (.istore 4, 2) := by decide +kernel
theorem dX12_greatest_45 : decode cX12_greatest 45 = .ok (.iconst 0, 1) := by decide +kernel
theorem dX12_greatest_46 : decode cX12_greatest 46 = .ok (.istore 5, 2) := by decide +kernel
theorem dX12_greatest_48 : decode cX12_greatest 48 = .ok (.iload 5, 2) := by decide +kernel
theorem dX12_greatest_50 : decode cX12_greatest 50 = .ok (.aload_n 0, 1) := by decide +kernel
theorem dX12_greatest_51 : decode cX12_greatest 51 = .ok (.getfield 9, 3) := by decide +kernel
theorem dX12_greatest_54 : decode cX12_greatest 54 = .ok (.iconst 1, 1) := by decide +kernel
theorem dX12_greatest_55 : decode cX12_greatest 55 = .ok (.iaload, 1) := by decide +kernel
theorem dX12_greatest_56 : decode cX12_greatest 56 = .ok (.if_icmp .ge 62, 3) := by decide +kernel
theorem dX12_greatest_59 : decode cX12_greatest 59 = .ok (.iload_n 2, 1) := by decide +kernel
theorem dX12_greatest_60 : decode cX12_greatest 60 = .ok (.iload 5, 2) := by decide +kernel
theorem dX12_greatest_62 : decode cX12_greatest 62 = .ok (.ishr, 1) := by decide +kernel
theorem dX12_greatest_63 : decode cX12_greatest 63 = .ok (.iconst 1, 1) := by decide +kernel
theorem dX12_greatest_64 : decode cX12_greatest 64 = .ok (.iand, 1) := by decide +kernel
theorem dX12_greatest_65 : decode cX12_greatest 65 = .ok (.ifCond .ne 7, 3) := by decide +kernel
theorem dX12_greatest_68 : decode cX12_greatest 68 = .ok (.iconst 1, 1) := by decide +kernel
theorem dX12_greatest_69 : decode cX12_greatest 69 = .ok (.goto 4, 3) := by decide +kernel
theorem dX12_greatest_72 : decode cX12_greatest 72 = .ok (.iconst 0, 1) := by decide +kernel
theorem dX12_greatest_73 : decode cX12_greatest 73 = .ok (.istore 6, 2) := by decide +kernel
theorem dX12_greatest_75 : decode cX12_greatest 75 = .ok (.iload 6, 2) := by decide +kernel
theorem dX12_greatest_77 : decode cX12_greatest 77 = .ok (.ifCond .eq 31, 3) := by decide +kernel
theorem dX12_greatest_80 : decode cX12_greatest 80 = .ok (.iload 4, 2) := by decide +kernel
theorem dX12_greatest_82 : decode cX12_greatest 82 = .ok (.iconst (-1), 1) := by decide +kernel
theorem dX12_greatest_83 : decode cX12_greatest 83 = .ok (.if_icmp .eq 20, 3) := by decide +kernel
theorem dX12_greatest_86 : decode cX12_greatest 86 = .ok (.aload_n 0, 1) := by decide +kernel
theorem dX12_greatest_87 : decode cX12_greatest 87 = .ok (.getfield 45, 3) := by decide +kernel
theorem dX12_greatest_90 : decode cX12_greatest 90 = .ok (.iload 5, 2) := by decide +kernel
theorem dX12_greatest_92 : decode cX12_greatest 92 = .ok (.iaload, 1) := by decide +kernel
theorem dX12_greatest_93 : decode cX12_greatest 93 = .ok (.aload_n 0, 1) := by decide +kernel
theorem dX12_greatest_94 : decode cX12_greatest 94 = .ok (.getfield 45, 3) := by decide +kernel
theorem dX12_greatest_97 : decode cX12_greatest 97 = .ok (.iload 4, 2) := by decide +kernel
theorem dX12_greatest_99 : decode cX12_greatest 99 = .ok (.iaload, 1) := by decide +kernel
theorem dX12_greatest_100 : decode cX12_greatest 100 = .ok (.if_icmp .le 8, 3) := by decide +kernel
theorem dX12_greatest_103 : decode cX12_greatest 103 = .ok (.iload 5, 2) := by decide +kernel
theorem dX12_greatest_105 : decode cX12_greatest 105 = .ok (.goto 5, 3) := by decide +kernel
theorem dX12_greatest_108 : decode cX12_greatest 108 = .ok (.iload 4, 2) := by decide +kernel
theorem dX12_greatest_110 : decode cX12_greatest 110 = .ok (.istore 4, 2) := by decide +kernel
theorem dX12_greatest_112 : decode cX12_greatest 112 = .ok (.iinc 5 1, 3) := by decide +kernel
theorem dX12_greatest_115 : decode cX12_greatest 115 = .ok (.goto (-67), 3) := by decide +kernel
theorem dX12_greatest_118 : decode cX12_greatest 118 = .ok (.iload_n 2, 1) := by decide +kernel
theorem dX12_greatest_119 : decode cX12_greatest 119 = .ok (.iconst 1, 1) := by decide +kernel
theorem dX12_greatest_120 : decode cX12_greatest 120 = .ok (.iload 4, 2) := by decide +kernel
theorem dX12_greatest_122 : decode cX12_greatest 122 = .ok (.ishl, 1) := by decide +kernel
theorem dX12_greatest_123 : decode cX12_greatest 123 = .ok (.ior, 1) := by decide +kernel
theorem dX12_greatest_124 : decode cX12_greatest 124 = .ok (.istore_n 2, 1) := by decide +kernel
theorem dX12_greatest_125 : decode cX12_greatest 125 = .ok (.iinc 3 1, 3) := by decide +kernel
theorem dX12_greatest_128 : decode cX12_greatest 128 = .ok (.goto (-94), 3) := by decide +kernel
theorem dX12_greatest_131 : decode cX12_greatest 131 = .ok (.iload_n 2, 1) := by decide +kernel
theorem dX12_greatest_132 : decode cX12_greatest 132 = .ok (.ireturn, 1) := by decide +kernel
theorem dX12_turned_0 : decode cX12_turned 0 = .ok (.iconst 0, 1) := by decide +kernel
theorem dX12_turned_1 : decode cX12_turned 1 = .ok (.istore_n 2, 1) := by decide +kernel
theorem dX12_turned_2 : decode cX12_turned 2 = .ok (.iconst 0, 1) := by decide +kernel
theorem dX12_turned_3 : decode cX12_turned 3 = .ok (.istore_n 3, 1) := by decide +kernel
theorem dX12_turned_4 : decode cX12_turned 4 = .ok (.iload_n 3, 1) := by decide +kernel
theorem dX12_turned_5 : decode cX12_turned 5 = .ok (.aload_n 0, 1) := by decide +kernel
theorem dX12_turned_6 : decode cX12_turned 6 = .ok (.invokevirtual 226, 3) := by decide +kernel
theorem dX12_turned_9 : decode cX12_turned 9 = .ok (.if_icmp .ge 24, 3) := by decide +kernel
theorem dX12_turned_12 : decode cX12_turned 12 = .ok (.iload_n 2, 1) := by decide +kernel
theorem dX12_turned_13 : decode cX12_turned 13 = .ok (.iconst 1, 1) := by decide +kernel
theorem dX12_turned_14 : decode cX12_turned 14 = .ok (.iload_n 1, 1) := by decide +kernel
theorem dX12_turned_15 : decode cX12_turned 15 = .ok (.iload_n 3, 1) := by decide +kernel
theorem dX12_turned_16 : decode cX12_turned 16 = .ok (.iadd, 1) := by decide +kernel
theorem dX12_turned_17 : decode cX12_turned 17 = .ok (.aload_n 0, 1) := by decide +kernel
theorem dX12_turned_18 : decode cX12_turned 18 = .ok (.getfield 9, 3) := by decide +kernel
theorem dX12_turned_21 : decode cX12_turned 21 = .ok (.iconst 1, 1) := by decide +kernel
theorem dX12_turned_22 : decode cX12_turned 22 = .ok (.iaload, 1) := by decide +kernel
theorem dX12_turned_23 : decode cX12_turned 23 = .ok (.irem, 1) := by decide +kernel
theorem dX12_turned_24 : decode cX12_turned 24 = .ok (.ishl, 1) := by decide +kernel
theorem dX12_turned_25 : decode cX12_turned 25 = .ok (.ior, 1) := by decide +kernel
theorem dX12_turned_26 : decode cX12_turned 26 = .ok (.istore_n 2, 1) := by decide +kernel
theorem dX12_turned_27 : decode cX12_turned 27 = .ok (.iinc 3 1, 3) := by decide +kernel
theorem dX12_turned_30 : decode cX12_turned 30 = .ok (.goto (-26), 3) := by decide +kernel
theorem dX12_turned_33 : decode cX12_turned 33 = .ok (.iload_n 2, 1) := by decide +kernel
theorem dX12_turned_34 : decode cX12_turned 34 = .ok (.ireturn, 1) := by decide +kernel
theorem dX12_toldOn_0 : decode cX12_toldOn 0 = .ok (.aload_n 0, 1) := by decide +kernel
theorem dX12_toldOn_1 : decode cX12_toldOn 1 = .ok (.getfield 9, 3) := by decide +kernel
theorem dX12_toldOn_4 : decode cX12_toldOn 4 = .ok (.sipush 1094, 3) := by decide +kernel
theorem dX12_toldOn_7 : decode cX12_toldOn 7 = .ok (.iload_n 1, 1) := by decide +kernel
theorem dX12_toldOn_8 : decode cX12_toldOn 8 = .ok (.iadd, 1) := by decide +kernel
theorem dX12_toldOn_9 : decode cX12_toldOn 9 = .ok (.iaload, 1) := by decide +kernel
theorem dX12_toldOn_10 : decode cX12_toldOn 10 = .ok (.ifCond .ne 5, 3) := by decide +kernel
theorem dX12_toldOn_13 : decode cX12_toldOn 13 = .ok (.iconst 0, 1) := by decide +kernel
theorem dX12_toldOn_14 : decode cX12_toldOn 14 = .ok (.ireturn, 1) := by decide +kernel
theorem dX12_toldOn_15 : decode cX12_toldOn 15 = .ok (.aload_n 0, 1) := by decide +kernel
theorem dX12_toldOn_16 : decode cX12_toldOn 16 = .ok (.getfield 9, 3) := by decide +kernel
theorem dX12_toldOn_19 : decode cX12_toldOn 19 = .ok (.sipush 1110, 3) := by decide +kernel
theorem dX12_toldOn_22 : decode cX12_toldOn 22 = .ok (.bipush 10, 2) := by decide +kernel
theorem dX12_toldOn_24 : decode cX12_toldOn 24 = .ok (.iload_n 1, 1) := by decide +kernel
theorem dX12_toldOn_25 : decode cX12_toldOn 25 = .ok (.imul, 1) := by decide +kernel
theorem dX12_toldOn_26 : decode cX12_toldOn 26 = .ok (.iadd, 1) := by decide +kernel
theorem dX12_toldOn_27 : decode cX12_toldOn 27 = .ok (.iload_n 2, 1) := by decide +kernel
theorem dX12_toldOn_28 : decode cX12_toldOn 28 = .ok (.aload_n 0, 1) := by decide +kernel
theorem dX12_toldOn_29 : decode cX12_toldOn 29 = .ok (.getfield 9, 3) := by decide +kernel
theorem dX12_toldOn_32 : decode cX12_toldOn 32 = .ok (.sipush 1094, 3) := by decide +kernel
theorem dX12_toldOn_35 : decode cX12_toldOn 35 = .ok (.iload_n 1, 1) := by decide +kernel
theorem dX12_toldOn_36 : decode cX12_toldOn 36 = .ok (.iadd, 1) := by decide +kernel
theorem dX12_toldOn_37 : decode cX12_toldOn 37 = .ok (.iaload, 1) := by decide +kernel
theorem dX12_toldOn_38 : decode cX12_toldOn 38 = .ok (.irem, 1) := by decide +kernel
theorem dX12_toldOn_39 : decode cX12_toldOn 39 = .ok (.iadd, 1) := by decide +kernel
theorem dX12_toldOn_40 : decode cX12_toldOn 40 = .ok (.iaload, 1) := by decide +kernel
theorem dX12_toldOn_41 : decode cX12_toldOn 41 = .ok (.istore_n 3, 1) := by decide +kernel
theorem dX12_toldOn_42 : decode cX12_toldOn 42 = .ok (.iconst 0, 1) := by decide +kernel
theorem dX12_toldOn_43 : decode cX12_toldOn 43 = .ok (.istore 4, 2) := by decide +kernel
theorem dX12_toldOn_45 : decode cX12_toldOn 45 = .ok (.iconst 0, 1) := by decide +kernel
theorem dX12_toldOn_46 : decode cX12_toldOn 46 = .ok (.istore 5, 2) := by decide +kernel
theorem dX12_toldOn_48 : decode cX12_toldOn 48 = .ok (.iload 5, 2) := by decide +kernel
theorem dX12_toldOn_50 : decode cX12_toldOn 50 = .ok (.aload_n 0, 1) := by decide +kernel
theorem dX12_toldOn_51 : decode cX12_toldOn 51 = .ok (.getfield 9, 3) := by decide +kernel
theorem dX12_toldOn_54 : decode cX12_toldOn 54 = .ok (.iconst 1, 1) := by decide +kernel
theorem dX12_toldOn_55 : decode cX12_toldOn 55 = .ok (.iaload, 1) := by decide +kernel
theorem dX12_toldOn_56 : decode cX12_toldOn 56 = .ok (.if_icmp .ge 56, 3) := by decide +kernel
theorem dX12_toldOn_59 : decode cX12_toldOn 59 = .ok (.iload_n 3, 1) := by decide +kernel
theorem dX12_toldOn_60 : decode cX12_toldOn 60 = .ok (.iload 5, 2) := by decide +kernel
theorem dX12_toldOn_62 : decode cX12_toldOn 62 = .ok (.ishr, 1) := by decide +kernel
theorem dX12_toldOn_63 : decode cX12_toldOn 63 = .ok (.iconst 1, 1) := by decide +kernel
theorem dX12_toldOn_64 : decode cX12_toldOn 64 = .ok (.iand, 1) := by decide +kernel
theorem dX12_toldOn_65 : decode cX12_toldOn 65 = .ok (.iconst 1, 1) := by decide +kernel
theorem dX12_toldOn_66 : decode cX12_toldOn 66 = .ok (.if_icmp .ne 19, 3) := by decide +kernel
theorem dX12_toldOn_69 : decode cX12_toldOn 69 = .ok (.iload 4, 2) := by decide +kernel
theorem dX12_toldOn_71 : decode cX12_toldOn 71 = .ok (.invokestatic 229, 3) := by decide +kernel
theorem dX12_toldOn_74 : decode cX12_toldOn 74 = .ok (.aload_n 0, 1) := by decide +kernel
theorem dX12_toldOn_75 : decode cX12_toldOn 75 = .ok (.invokevirtual 226, 3) := by decide +kernel
theorem dX12_toldOn_78 : decode cX12_toldOn 78 = .ok (.if_icmp .ge 7, 3) := by decide +kernel
theorem dX12_toldOn_81 : decode cX12_toldOn 81 = .ok (.iconst 1, 1) := by decide +kernel
theorem dX12_toldOn_82 : decode cX12_toldOn 82 = .ok (.goto 4, 3) := by decide +kernel
theorem dX12_toldOn_85 : decode cX12_toldOn 85 = .ok (.iconst 0, 1) := by decide +kernel
theorem dX12_toldOn_86 : decode cX12_toldOn 86 = .ok (.istore 6, 2) := by decide +kernel
theorem dX12_toldOn_88 : decode cX12_toldOn 88 = .ok (.iload 4, 2) := by decide +kernel
theorem dX12_toldOn_90 : decode cX12_toldOn 90 = .ok (.iload 6, 2) := by decide +kernel
theorem dX12_toldOn_92 : decode cX12_toldOn 92 = .ok (.ifCond .eq 10, 3) := by decide +kernel
theorem dX12_toldOn_95 : decode cX12_toldOn 95 = .ok (.iconst 1, 1) := by decide +kernel
theorem dX12_toldOn_96 : decode cX12_toldOn 96 = .ok (.iload 5, 2) := by decide +kernel
theorem dX12_toldOn_98 : decode cX12_toldOn 98 = .ok (.ishl, 1) := by decide +kernel
theorem dX12_toldOn_99 : decode cX12_toldOn 99 = .ok (.goto 4, 3) := by decide +kernel
theorem dX12_toldOn_102 : decode cX12_toldOn 102 = .ok (.iconst 0, 1) := by decide +kernel
theorem dX12_toldOn_103 : decode cX12_toldOn 103 = .ok (.ior, 1) := by decide +kernel
theorem dX12_toldOn_104 : decode cX12_toldOn 104 = .ok (.istore 4, 2) := by decide +kernel
theorem dX12_toldOn_106 : decode cX12_toldOn 106 = .ok (.iinc 5 1, 3) := by decide +kernel
theorem dX12_toldOn_109 : decode cX12_toldOn 109 = .ok (.goto (-61), 3) := by decide +kernel
theorem dX12_toldOn_112 : decode cX12_toldOn 112 = .ok (.iload 4, 2) := by decide +kernel
theorem dX12_toldOn_114 : decode cX12_toldOn 114 = .ok (.ireturn, 1) := by decide +kernel
theorem dX12_whomOn_0 : decode cX12_whomOn 0 = .ok (.aload_n 0, 1) := by decide +kernel
theorem dX12_whomOn_1 : decode cX12_whomOn 1 = .ok (.getfield 9, 3) := by decide +kernel
theorem dX12_whomOn_4 : decode cX12_whomOn 4 = .ok (.iconst 1, 1) := by decide +kernel
theorem dX12_whomOn_5 : decode cX12_whomOn 5 = .ok (.iaload, 1) := by decide +kernel
theorem dX12_whomOn_6 : decode cX12_whomOn 6 = .ok (.ifCond .ne 5, 3) := by decide +kernel
theorem dX12_whomOn_9 : decode cX12_whomOn 9 = .ok (.iconst 0, 1) := by decide +kernel
theorem dX12_whomOn_10 : decode cX12_whomOn 10 = .ok (.ireturn, 1) := by decide +kernel
theorem dX12_whomOn_11 : decode cX12_whomOn 11 = .ok (.aload_n 0, 1) := by decide +kernel
theorem dX12_whomOn_12 : decode cX12_whomOn 12 = .ok (.getfield 9, 3) := by decide +kernel
theorem dX12_whomOn_15 : decode cX12_whomOn 15 = .ok (.sipush 1070, 3) := by decide +kernel
theorem dX12_whomOn_18 : decode cX12_whomOn 18 = .ok (.iload_n 1, 1) := by decide +kernel
theorem dX12_whomOn_19 : decode cX12_whomOn 19 = .ok (.iadd, 1) := by decide +kernel
theorem dX12_whomOn_20 : decode cX12_whomOn 20 = .ok (.iaload, 1) := by decide +kernel
theorem dX12_whomOn_21 : decode cX12_whomOn 21 = .ok (.tableswitch 104 2 6 #[35, 104, 64, 104, 97], 35) := by decide +kernel
theorem dX12_whomOn_56 : decode cX12_whomOn 56 = .ok (.aload_n 0, 1) := by decide +kernel
theorem dX12_whomOn_57 : decode cX12_whomOn 57 = .ok (.iload_n 2, 1) := by decide +kernel
theorem dX12_whomOn_58 : decode cX12_whomOn 58 = .ok (.aload_n 0, 1) := by decide +kernel
theorem dX12_whomOn_59 : decode cX12_whomOn 59 = .ok (.invokevirtual 226, 3) := by decide +kernel
theorem dX12_whomOn_62 : decode cX12_whomOn 62 = .ok (.imul, 1) := by decide +kernel
theorem dX12_whomOn_63 : decode cX12_whomOn 63 = .ok (.aload_n 0, 1) := by decide +kernel
theorem dX12_whomOn_64 : decode cX12_whomOn 64 = .ok (.getfield 9, 3) := by decide +kernel
theorem dX12_whomOn_67 : decode cX12_whomOn 67 = .ok (.sipush 1082, 3) := by decide +kernel
theorem dX12_whomOn_70 : decode cX12_whomOn 70 = .ok (.iload_n 1, 1) := by decide +kernel
theorem dX12_whomOn_71 : decode cX12_whomOn 71 = .ok (.iadd, 1) := by decide +kernel
theorem dX12_whomOn_72 : decode cX12_whomOn 72 = .ok (.iaload, 1) := by decide +kernel
theorem dX12_whomOn_73 : decode cX12_whomOn 73 = .ok (.iadd, 1) := by decide +kernel
theorem dX12_whomOn_74 : decode cX12_whomOn 74 = .ok (.aload_n 0, 1) := by decide +kernel
theorem dX12_whomOn_75 : decode cX12_whomOn 75 = .ok (.getfield 9, 3) := by decide +kernel
theorem dX12_whomOn_78 : decode cX12_whomOn 78 = .ok (.iconst 1, 1) := by decide +kernel
theorem dX12_whomOn_79 : decode cX12_whomOn 79 = .ok (.iaload, 1) := by decide +kernel
theorem dX12_whomOn_80 : decode cX12_whomOn 80 = .ok (.irem, 1) := by decide +kernel
theorem dX12_whomOn_81 : decode cX12_whomOn 81 = .ok (.invokevirtual 232, 3) := by decide +kernel
theorem dX12_whomOn_84 : decode cX12_whomOn 84 = .ok (.ireturn, 1) := by decide +kernel
theorem dX12_whomOn_85 : decode cX12_whomOn 85 = .ok (.aload_n 0, 1) := by decide +kernel
theorem dX12_whomOn_86 : decode cX12_whomOn 86 = .ok (.bipush 31, 2) := by decide +kernel
theorem dX12_whomOn_88 : decode cX12_whomOn 88 = .ok (.iload_n 2, 1) := by decide +kernel
theorem dX12_whomOn_89 : decode cX12_whomOn 89 = .ok (.imul, 1) := by decide +kernel
theorem dX12_whomOn_90 : decode cX12_whomOn 90 = .ok (.bipush 17, 2) := by decide +kernel
theorem dX12_whomOn_92 : decode cX12_whomOn 92 = .ok (.aload_n 0, 1) := by decide +kernel
theorem dX12_whomOn_93 : decode cX12_whomOn 93 = .ok (.getfield 9, 3) := by decide +kernel
theorem dX12_whomOn_96 : decode cX12_whomOn 96 = .ok (.sipush 1082, 3) := by decide +kernel
theorem dX12_whomOn_99 : decode cX12_whomOn 99 = .ok (.iload_n 1, 1) := by decide +kernel
theorem dX12_whomOn_100 : decode cX12_whomOn 100 = .ok (.iadd, 1) := by decide +kernel
theorem dX12_whomOn_101 : decode cX12_whomOn 101 = .ok (.iaload, 1) := by decide +kernel
theorem dX12_whomOn_102 : decode cX12_whomOn 102 = .ok (.imul, 1) := by decide +kernel
theorem dX12_whomOn_103 : decode cX12_whomOn 103 = .ok (.iadd, 1) := by decide +kernel
theorem dX12_whomOn_104 : decode cX12_whomOn 104 = .ok (.bipush 97, 2) := by decide +kernel
theorem dX12_whomOn_106 : decode cX12_whomOn 106 = .ok (.irem, 1) := by decide +kernel
theorem dX12_whomOn_107 : decode cX12_whomOn 107 = .ok (.aload_n 0, 1) := by decide +kernel
theorem dX12_whomOn_108 : decode cX12_whomOn 108 = .ok (.getfield 9, 3) := by decide +kernel
theorem dX12_whomOn_111 : decode cX12_whomOn 111 = .ok (.iconst 1, 1) := by decide +kernel
theorem dX12_whomOn_112 : decode cX12_whomOn 112 = .ok (.iaload, 1) := by decide +kernel
theorem dX12_whomOn_113 : decode cX12_whomOn 113 = .ok (.irem, 1) := by decide +kernel
theorem dX12_whomOn_114 : decode cX12_whomOn 114 = .ok (.invokevirtual 232, 3) := by decide +kernel
theorem dX12_whomOn_117 : decode cX12_whomOn 117 = .ok (.ireturn, 1) := by decide +kernel
theorem dX12_whomOn_118 : decode cX12_whomOn 118 = .ok (.aload_n 0, 1) := by decide +kernel
theorem dX12_whomOn_119 : decode cX12_whomOn 119 = .ok (.iload_n 1, 1) := by decide +kernel
theorem dX12_whomOn_120 : decode cX12_whomOn 120 = .ok (.iload_n 2, 1) := by decide +kernel
theorem dX12_whomOn_121 : decode cX12_whomOn 121 = .ok (.invokevirtual 235, 3) := by decide +kernel
theorem dX12_whomOn_124 : decode cX12_whomOn 124 = .ok (.ireturn, 1) := by decide +kernel
theorem dX12_whomOn_125 : decode cX12_whomOn 125 = .ok (.aload_n 0, 1) := by decide +kernel
theorem dX12_whomOn_126 : decode cX12_whomOn 126 = .ok (.iload_n 1, 1) := by decide +kernel
theorem dX12_whomOn_127 : decode cX12_whomOn 127 = .ok (.invokevirtual 238, 3) := by decide +kernel
theorem dX12_whomOn_130 : decode cX12_whomOn 130 = .ok (.ireturn, 1) := by decide +kernel
theorem dX12_whom_0 : decode cX12_whom 0 = .ok (.aload_n 0, 1) := by decide +kernel
theorem dX12_whom_1 : decode cX12_whom 1 = .ok (.iload_n 1, 1) := by decide +kernel
theorem dX12_whom_2 : decode cX12_whom 2 = .ok (.invokevirtual 220, 3) := by decide +kernel
theorem dX12_whom_5 : decode cX12_whom 5 = .ok (.ifCond .eq 17, 3) := by decide +kernel
theorem dX12_whom_8 : decode cX12_whom 8 = .ok (.aload_n 0, 1) := by decide +kernel
theorem dX12_whom_9 : decode cX12_whom 9 = .ok (.iload_n 1, 1) := by decide +kernel
theorem dX12_whom_10 : decode cX12_whom 10 = .ok (.aload_n 0, 1) := by decide +kernel
theorem dX12_whom_11 : decode cX12_whom 11 = .ok (.getfield 9, 3) := by decide +kernel
theorem dX12_whom_14 : decode cX12_whom 14 = .ok (.iconst 3, 1) := by decide +kernel
theorem dX12_whom_15 : decode cX12_whom 15 = .ok (.iaload, 1) := by decide +kernel
theorem dX12_whom_16 : decode cX12_whom 16 = .ok (.invokevirtual 241, 3) := by decide +kernel
theorem dX12_whom_19 : decode cX12_whom 19 = .ok (.goto 4, 3) := by decide +kernel
theorem dX12_whom_22 : decode cX12_whom 22 = .ok (.iconst (-1), 1) := by decide +kernel
theorem dX12_whom_23 : decode cX12_whom 23 = .ok (.ireturn, 1) := by decide +kernel
theorem dX12_lookedAt_0 : decode cX12_lookedAt 0 = .ok (.aload_n 0, 1) := by decide +kernel
theorem dX12_lookedAt_1 : decode cX12_lookedAt 1 = .ok (.getfield 244, 3) := by decide +kernel
theorem dX12_lookedAt_4 : decode cX12_lookedAt 4 = .ok (.ifCond .le 26, 3) := by decide +kernel
theorem dX12_lookedAt_7 : decode cX12_lookedAt 7 = .ok (.iconst 1, 1) := by decide +kernel
theorem dX12_lookedAt_8 : decode cX12_lookedAt 8 = .ok (.aload_n 0, 1) := by decide +kernel
theorem dX12_lookedAt_9 : decode cX12_lookedAt 9 = .ok (.getfield 54, 3) := by decide +kernel
theorem dX12_lookedAt_12 : decode cX12_lookedAt 12 = .ok (.iload_n 2, 1) := by decide +kernel
theorem dX12_lookedAt_13 : decode cX12_lookedAt 13 = .ok (.aload_n 0, 1) := by decide +kernel
theorem dX12_lookedAt_14 : decode cX12_lookedAt 14 = .ok (.getfield 9, 3) := by decide +kernel
theorem dX12_lookedAt_17 : decode cX12_lookedAt 17 = .ok (.iconst 3, 1) := by decide +kernel
theorem dX12_lookedAt_18 : decode cX12_lookedAt 18 = .ok (.iaload, 1) := by decide +kernel
theorem dX12_lookedAt_19 : decode cX12_lookedAt 19 = .ok (.isub, 1) := by decide +kernel
theorem dX12_lookedAt_20 : decode cX12_lookedAt 20 = .ok (.aload_n 0, 1) := by decide +kernel
theorem dX12_lookedAt_21 : decode cX12_lookedAt 21 = .ok (.getfield 244, 3) := by decide +kernel
theorem dX12_lookedAt_24 : decode cX12_lookedAt 24 = .ok (.irem, 1) := by decide +kernel
theorem dX12_lookedAt_25 : decode cX12_lookedAt 25 = .ok (.iaload, 1) := by decide +kernel
theorem dX12_lookedAt_26 : decode cX12_lookedAt 26 = .ok (.ishl, 1) := by decide +kernel
theorem dX12_lookedAt_27 : decode cX12_lookedAt 27 = .ok (.goto 9, 3) := by decide +kernel
theorem dX12_lookedAt_30 : decode cX12_lookedAt 30 = .ok (.aload_n 0, 1) := by decide +kernel
theorem dX12_lookedAt_31 : decode cX12_lookedAt 31 = .ok (.iload_n 1, 1) := by decide +kernel
theorem dX12_lookedAt_32 : decode cX12_lookedAt 32 = .ok (.iload_n 2, 1) := by decide +kernel
theorem dX12_lookedAt_33 : decode cX12_lookedAt 33 = .ok (.invokevirtual 241, 3) := by decide +kernel
theorem dX12_lookedAt_36 : decode cX12_lookedAt 36 = .ok (.ireturn, 1) := by decide +kernel
theorem dX12_bringsAll_0 : decode cX12_bringsAll 0 = .ok (.lconst 0, 1) := by decide +kernel
theorem dX12_bringsAll_1 : decode cX12_bringsAll 1 = .ok (.lstore_n 1, 1) := by decide +kernel
theorem dX12_bringsAll_2 : decode cX12_bringsAll 2 = .ok (.iconst 0, 1) := by decide +kernel
theorem dX12_bringsAll_3 : decode cX12_bringsAll 3 = .ok (.istore_n 3, 1) := by decide +kernel
theorem dX12_bringsAll_4 : decode cX12_bringsAll 4 = .ok (.iload_n 3, 1) := by decide +kernel
theorem dX12_bringsAll_5 : decode cX12_bringsAll 5 = .ok (.aload_n 0, 1) := by decide +kernel
theorem dX12_bringsAll_6 : decode cX12_bringsAll 6 = .ok (.getfield 9, 3) := by decide +kernel
theorem dX12_bringsAll_9 : decode cX12_bringsAll 9 = .ok (.iconst 1, 1) := by decide +kernel
theorem dX12_bringsAll_10 : decode cX12_bringsAll 10 = .ok (.iaload, 1) := by decide +kernel
theorem dX12_bringsAll_11 : decode cX12_bringsAll 11 = .ok (.if_icmp .ge 27, 3) := by decide +kernel
theorem dX12_bringsAll_14 : decode cX12_bringsAll 14 = .ok (.lload_n 1, 1) := by decide +kernel
theorem dX12_bringsAll_15 : decode cX12_bringsAll 15 = .ok (.aload_n 0, 1) := by decide +kernel
theorem dX12_bringsAll_16 : decode cX12_bringsAll 16 = .ok (.iload_n 3, 1) := by decide +kernel
theorem dX12_bringsAll_17 : decode cX12_bringsAll 17 = .ok (.aload_n 0, 1) := by decide +kernel
theorem dX12_bringsAll_18 : decode cX12_bringsAll 18 = .ok (.getfield 9, 3) := by decide +kernel
theorem dX12_bringsAll_21 : decode cX12_bringsAll 21 = .ok (.sipush 1034, 3) := by decide +kernel
theorem dX12_bringsAll_24 : decode cX12_bringsAll 24 = .ok (.iload_n 3, 1) := by decide +kernel
theorem dX12_bringsAll_25 : decode cX12_bringsAll 25 = .ok (.iadd, 1) := by decide +kernel
theorem dX12_bringsAll_26 : decode cX12_bringsAll 26 = .ok (.iaload, 1) := by decide +kernel
theorem dX12_bringsAll_27 : decode cX12_bringsAll 27 = .ok (.invokevirtual 193, 3) := by decide +kernel
theorem dX12_bringsAll_30 : decode cX12_bringsAll 30 = .ok (.ladd, 1) := by decide +kernel
theorem dX12_bringsAll_31 : decode cX12_bringsAll 31 = .ok (.lstore_n 1, 1) := by decide +kernel
theorem dX12_bringsAll_32 : decode cX12_bringsAll 32 = .ok (.iinc 3 1, 3) := by decide +kernel
theorem dX12_bringsAll_35 : decode cX12_bringsAll 35 = .ok (.goto (-31), 3) := by decide +kernel
theorem dX12_bringsAll_38 : decode cX12_bringsAll 38 = .ok (.lload_n 1, 1) := by decide +kernel
theorem dX12_bringsAll_39 : decode cX12_bringsAll 39 = .ok (.lreturn, 1) := by decide +kernel
theorem dX12_meanFrom_0 : decode cX12_meanFrom 0 = .ok (.iload_n 3, 1) := by decide +kernel
theorem dX12_meanFrom_1 : decode cX12_meanFrom 1 = .ok (.ifCond .ne 5, 3) := by decide +kernel
theorem dX12_meanFrom_4 : decode cX12_meanFrom 4 = .ok (.lconst 0, 1) := by decide +kernel
theorem dX12_meanFrom_5 : decode cX12_meanFrom 5 = .ok (.lreturn, 1) := by decide +kernel
theorem dX12_meanFrom_6 : decode cX12_meanFrom 6 = .ok (.iload_n 1, 1) := by decide +kernel
theorem dX12_meanFrom_7 : decode cX12_meanFrom 7 = .ok (.iconst (-1), 1) := by decide +kernel
theorem dX12_meanFrom_8 : decode cX12_meanFrom 8 = .ok (.if_icmp .ne 10, 3) := by decide +kernel
theorem dX12_meanFrom_11 : decode cX12_meanFrom 11 = .ok (.aload_n 0, 1) := by decide +kernel
theorem dX12_meanFrom_12 : decode cX12_meanFrom 12 = .ok (.getfield 244, 3) := by decide +kernel
theorem dX12_meanFrom_15 : decode cX12_meanFrom 15 = .ok (.ifCond .le 23, 3) := by decide +kernel
theorem dX12_meanFrom_18 : decode cX12_meanFrom 18 = .ok (.aload_n 0, 1) := by decide +kernel
theorem dX12_meanFrom_19 : decode cX12_meanFrom 19 = .ok (.invokevirtual 247, 3) := by decide +kernel
theorem dX12_meanFrom_22 : decode cX12_meanFrom 22 = .ok (.aload_n 0, 1) := by decide +kernel
theorem dX12_meanFrom_23 : decode cX12_meanFrom 23 = .ok (.iload_n 1, 1) := by decide +kernel
theorem dX12_meanFrom_24 : decode cX12_meanFrom 24 = .ok (.iload_n 2, 1) := by decide +kernel
theorem dX12_meanFrom_25 : decode cX12_meanFrom 25 = .ok (.iload_n 3, 1) := by decide +kernel
theorem dX12_meanFrom_26 : decode cX12_meanFrom 26 = .ok (.aload_n 0, 1) := by decide +kernel
theorem dX12_meanFrom_27 : decode cX12_meanFrom 27 = .ok (.iload_n 1, 1) := by decide +kernel
theorem dX12_meanFrom_28 : decode cX12_meanFrom 28 = .ok (.iload_n 2, 1) := by decide +kernel
theorem dX12_meanFrom_29 : decode cX12_meanFrom 29 = .ok (.invokevirtual 251, 3) := by decide +kernel
theorem dX12_meanFrom_32 : decode cX12_meanFrom 32 = .ok (.iconst 0, 1) := by decide +kernel
theorem dX12_meanFrom_33 : decode cX12_meanFrom 33 = .ok (.invokevirtual 254, 3) := by decide +kernel
theorem dX12_meanFrom_36 : decode cX12_meanFrom 36 = .ok (.ladd, 1) := by decide +kernel
theorem dX12_meanFrom_37 : decode cX12_meanFrom 37 = .ok (.lreturn, 1) := by decide +kernel
theorem dX12_meanFrom_38 : decode cX12_meanFrom 38 = .ok (.lconst 0, 1) := by decide +kernel
theorem dX12_meanFrom_39 : decode cX12_meanFrom 39 = .ok (.lstore 4, 2) := by decide +kernel
theorem dX12_meanFrom_41 : decode cX12_meanFrom 41 = .ok (.iconst 0, 1) := by decide +kernel
theorem dX12_meanFrom_42 : decode cX12_meanFrom 42 = .ok (.istore 6, 2) := by decide +kernel
theorem dX12_meanFrom_44 : decode cX12_meanFrom 44 = .ok (.iconst 0, 1) := by decide +kernel
theorem dX12_meanFrom_45 : decode cX12_meanFrom 45 = .ok (.istore 7, 2) := by decide +kernel
theorem dX12_meanFrom_47 : decode cX12_meanFrom 47 = .ok (.iconst 0, 1) := by decide +kernel
theorem dX12_meanFrom_48 : decode cX12_meanFrom 48 = .ok (.istore 8, 2) := by decide +kernel
theorem dX12_meanFrom_50 : decode cX12_meanFrom 50 = .ok (.iload 8, 2) := by decide +kernel
theorem dX12_meanFrom_52 : decode cX12_meanFrom 52 = .ok (.iconst 1, 1) := by decide +kernel
theorem dX12_meanFrom_53 : decode cX12_meanFrom 53 = .ok (.aload_n 0, 1) := by decide +kernel
theorem dX12_meanFrom_54 : decode cX12_meanFrom 54 = .ok (.getfield 9, 3) := by decide +kernel
theorem dX12_meanFrom_57 : decode cX12_meanFrom 57 = .ok (.iconst 1, 1) := by decide +kernel
theorem dX12_meanFrom_58 : decode cX12_meanFrom 58 = .ok (.iaload, 1) := by decide +kernel
theorem dX12_meanFrom_59 : decode cX12_meanFrom 59 = .ok (.ishl, 1) := by decide +kernel
theorem dX12_meanFrom_60 : decode cX12_meanFrom 60 = .ok (.if_icmp .ge 80, 3) := by decide +kernel
theorem dX12_meanFrom_63 : decode cX12_meanFrom 63 = .ok (.iload 8, 2) := by decide +kernel
theorem dX12_meanFrom_65 : decode cX12_meanFrom 65 = .ok (.invokestatic 229, 3) := by decide +kernel
theorem dX12_meanFrom_68 : decode cX12_meanFrom 68 = .ok (.aload_n 0, 1) := by decide +kernel
theorem dX12_meanFrom_69 : decode cX12_meanFrom 69 = .ok (.invokevirtual 226, 3) := by decide +kernel
theorem dX12_meanFrom_72 : decode cX12_meanFrom 72 = .ok (.if_icmp .ne 62, 3) := by decide +kernel
theorem dX12_meanFrom_75 : decode cX12_meanFrom 75 = .ok (.aload_n 0, 1) := by decide +kernel
theorem dX12_meanFrom_76 : decode cX12_meanFrom 76 = .ok (.iconst (-1), 1) := by decide +kernel
theorem dX12_meanFrom_77 : decode cX12_meanFrom 77 = .ok (.iload_n 2, 1) := by decide +kernel
theorem dX12_meanFrom_78 : decode cX12_meanFrom 78 = .ok (.iload_n 3, 1) := by decide +kernel
theorem dX12_meanFrom_79 : decode cX12_meanFrom 79 = .ok (.iload 8, 2) := by decide +kernel
theorem dX12_meanFrom_81 : decode cX12_meanFrom 81 = .ok (.iconst 0, 1) := by decide +kernel
theorem dX12_meanFrom_82 : decode cX12_meanFrom 82 = .ok (.invokevirtual 254, 3) := by decide +kernel
theorem dX12_meanFrom_85 : decode cX12_meanFrom 85 = .ok (.lstore 9, 2) := by decide +kernel
theorem dX12_meanFrom_87 : decode cX12_meanFrom 87 = .ok (.iload 6, 2) := by decide +kernel
theorem dX12_meanFrom_89 : decode cX12_meanFrom 89 = .ok (.ifCond .eq 11, 3) := by decide +kernel
theorem dX12_meanFrom_92 : decode cX12_meanFrom 92 = .ok (.lload 9, 2) := by decide +kernel
theorem dX12_meanFrom_94 : decode cX12_meanFrom 94 = .ok (.lload 4, 2) := by decide +kernel
theorem dX12_meanFrom_96 : decode cX12_meanFrom 96 = .ok (.lcmp, 1) := by decide +kernel
theorem dX12_meanFrom_97 : decode cX12_meanFrom 97 = .ok (.ifCond .le 8, 3) := by decide +kernel
theorem dX12_meanFrom_100 : decode cX12_meanFrom 100 = .ok (.iload 8, 2) := by decide +kernel
theorem dX12_meanFrom_102 : decode cX12_meanFrom 102 = .ok (.goto 5, 3) := by decide +kernel
theorem dX12_meanFrom_105 : decode cX12_meanFrom 105 = .ok (.iload 7, 2) := by decide +kernel
theorem dX12_meanFrom_107 : decode cX12_meanFrom 107 = .ok (.istore 7, 2) := by decide +kernel
theorem dX12_meanFrom_109 : decode cX12_meanFrom 109 = .ok (.iload 6, 2) := by decide +kernel
theorem dX12_meanFrom_111 : decode cX12_meanFrom 111 = .ok (.ifCond .eq 11, 3) := by decide +kernel
theorem dX12_meanFrom_114 : decode cX12_meanFrom 114 = .ok (.lload 9, 2) := by decide +kernel
theorem dX12_meanFrom_116 : decode cX12_meanFrom 116 = .ok (.lload 4, 2) := by decide +kernel
theorem dX12_meanFrom_118 : decode cX12_meanFrom 118 = .ok (.lcmp, 1) := by decide +kernel
theorem dX12_meanFrom_119 : decode cX12_meanFrom 119 = .ok (.ifCond .le 8, 3) := by decide +kernel
theorem dX12_meanFrom_122 : decode cX12_meanFrom 122 = .ok (.lload 9, 2) := by decide +kernel
theorem dX12_meanFrom_124 : decode cX12_meanFrom 124 = .ok (.goto 5, 3) := by decide +kernel
theorem dX12_meanFrom_127 : decode cX12_meanFrom 127 = .ok (.lload 4, 2) := by decide +kernel
theorem dX12_meanFrom_129 : decode cX12_meanFrom 129 = .ok (.lstore 4, 2) := by decide +kernel
theorem dX12_meanFrom_131 : decode cX12_meanFrom 131 = .ok (.iconst 1, 1) := by decide +kernel
theorem dX12_meanFrom_132 : decode cX12_meanFrom 132 = .ok (.istore 6, 2) := by decide +kernel
theorem dX12_meanFrom_134 : decode cX12_meanFrom 134 = .ok (.iinc 8 1, 3) := by decide +kernel
theorem dX12_meanFrom_137 : decode cX12_meanFrom 137 = .ok (.goto (-87), 3) := by decide +kernel
theorem dX12_meanFrom_140 : decode cX12_meanFrom 140 = .ok (.aload_n 0, 1) := by decide +kernel
theorem dX12_meanFrom_141 : decode cX12_meanFrom 141 = .ok (.iload 7, 2) := by decide +kernel
theorem dX12_meanFrom_143 : decode cX12_meanFrom 143 = .ok (.putfield 258, 3) := by decide +kernel
theorem dX12_meanFrom_146 : decode cX12_meanFrom 146 = .ok (.aload_n 0, 1) := by decide +kernel
theorem dX12_meanFrom_147 : decode cX12_meanFrom 147 = .ok (.invokevirtual 247, 3) := by decide +kernel
theorem dX12_meanFrom_150 : decode cX12_meanFrom 150 = .ok (.lload 4, 2) := by decide +kernel
theorem dX12_meanFrom_152 : decode cX12_meanFrom 152 = .ok (.ladd, 1) := by decide +kernel
theorem dX12_meanFrom_153 : decode cX12_meanFrom 153 = .ok (.lreturn, 1) := by decide +kernel
theorem dX12_looksFrom_0 : decode cX12_looksFrom 0 = .ok (.iload 5, 2) := by decide +kernel
theorem dX12_looksFrom_2 : decode cX12_looksFrom 2 = .ok (.istore 6, 2) := by decide +kernel
theorem dX12_looksFrom_4 : decode cX12_looksFrom 4 = .ok (.iload 6, 2) := by decide +kernel
theorem dX12_looksFrom_6 : decode cX12_looksFrom 6 = .ok (.aload_n 0, 1) := by decide +kernel
theorem dX12_looksFrom_7 : decode cX12_looksFrom 7 = .ok (.getfield 9, 3) := by decide +kernel
theorem dX12_looksFrom_10 : decode cX12_looksFrom 10 = .ok (.iconst 1, 1) := by decide +kernel
theorem dX12_looksFrom_11 : decode cX12_looksFrom 11 = .ok (.iaload, 1) := by decide +kernel
theorem dX12_looksFrom_12 : decode cX12_looksFrom 12 = .ok (.if_icmp .ge 19, 3) := by decide +kernel
theorem dX12_looksFrom_15 : decode cX12_looksFrom 15 = .ok (.iload 4, 2) := by decide +kernel
theorem dX12_looksFrom_17 : decode cX12_looksFrom 17 = .ok (.iload 6, 2) := by decide +kernel
theorem dX12_looksFrom_19 : decode cX12_looksFrom 19 = .ok (.ishr, 1) := by decide +kernel
theorem dX12_looksFrom_20 : decode cX12_looksFrom 20 = .ok (.iconst 1, 1) := by decide +kernel
theorem dX12_looksFrom_21 : decode cX12_looksFrom 21 = .ok (.iand, 1) := by decide +kernel
theorem dX12_looksFrom_22 : decode cX12_looksFrom 22 = .ok (.ifCond .ne 9, 3) := by decide +kernel
theorem dX12_looksFrom_25 : decode cX12_looksFrom 25 = .ok (.iinc 6 1, 3) := by decide +kernel
theorem dX12_looksFrom_28 : decode cX12_looksFrom 28 = .ok (.goto (-24), 3) := by decide +kernel
theorem dX12_looksFrom_31 : decode cX12_looksFrom 31 = .ok (.iload 6, 2) := by decide +kernel
theorem dX12_looksFrom_33 : decode cX12_looksFrom 33 = .ok (.aload_n 0, 1) := by decide +kernel
theorem dX12_looksFrom_34 : decode cX12_looksFrom 34 = .ok (.getfield 9, 3) := by decide +kernel
theorem dX12_looksFrom_37 : decode cX12_looksFrom 37 = .ok (.iconst 1, 1) := by decide +kernel
theorem dX12_looksFrom_38 : decode cX12_looksFrom 38 = .ok (.iaload, 1) := by decide +kernel
theorem dX12_looksFrom_39 : decode cX12_looksFrom 39 = .ok (.if_icmp .ne 162, 3) := by decide +kernel
theorem dX12_looksFrom_42 : decode cX12_looksFrom 42 = .ok (.iload_n 3, 1) := by decide +kernel
theorem dX12_looksFrom_43 : decode cX12_looksFrom 43 = .ok (.iconst 1, 1) := by decide +kernel
theorem dX12_looksFrom_44 : decode cX12_looksFrom 44 = .ok (.if_icmp .ne 5, 3) := by decide +kernel
theorem dX12_looksFrom_47 : decode cX12_looksFrom 47 = .ok (.lconst 0, 1) := by decide +kernel
theorem dX12_looksFrom_48 : decode cX12_looksFrom 48 = .ok (.lreturn, 1) := by decide +kernel
theorem dX12_looksFrom_49 : decode cX12_looksFrom 49 = .ok (.iconst 0, 1) := by decide +kernel
theorem dX12_looksFrom_50 : decode cX12_looksFrom 50 = .ok (.istore 7, 2) := by decide +kernel
theorem dX12_looksFrom_52 : decode cX12_looksFrom 52 = .ok (.iload 7, 2) := by decide +kernel
theorem dX12_looksFrom_54 : decode cX12_looksFrom 54 = .ok (.aload_n 0, 1) := by decide +kernel
theorem dX12_looksFrom_55 : decode cX12_looksFrom 55 = .ok (.getfield 9, 3) := by decide +kernel
theorem dX12_looksFrom_58 : decode cX12_looksFrom 58 = .ok (.iconst 1, 1) := by decide +kernel
theorem dX12_looksFrom_59 : decode cX12_looksFrom 59 = .ok (.iaload, 1) := by decide +kernel
theorem dX12_looksFrom_60 : decode cX12_looksFrom 60 = .ok (.if_icmp .ge 55, 3) := by decide +kernel
theorem dX12_looksFrom_63 : decode cX12_looksFrom 63 = .ok (.aload_n 0, 1) := by decide +kernel
theorem dX12_looksFrom_64 : decode cX12_looksFrom 64 = .ok (.getfield 48, 3) := by decide +kernel
theorem dX12_looksFrom_67 : decode cX12_looksFrom 67 = .ok (.bipush 8, 2) := by decide +kernel
theorem dX12_looksFrom_69 : decode cX12_looksFrom 69 = .ok (.iload_n 3, 1) := by decide +kernel
theorem dX12_looksFrom_70 : decode cX12_looksFrom 70 = .ok (.imul, 1) := by decide +kernel
theorem dX12_looksFrom_71 : decode cX12_looksFrom 71 = .ok (.iload 7, 2) := by decide +kernel
theorem dX12_looksFrom_73 : decode cX12_looksFrom 73 = .ok (.iadd, 1) := by decide +kernel
theorem dX12_looksFrom_74 : decode cX12_looksFrom 74 = .ok (.aload_n 0, 1) := by decide +kernel
theorem dX12_looksFrom_75 : decode cX12_looksFrom 75 = .ok (.getfield 9, 3) := by decide +kernel
theorem dX12_looksFrom_78 : decode cX12_looksFrom 78 = .ok (.sipush 1034, 3) := by decide +kernel
theorem dX12_looksFrom_81 : decode cX12_looksFrom 81 = .ok (.iload 7, 2) := by decide +kernel
theorem dX12_looksFrom_83 : decode cX12_looksFrom 83 = .ok (.iadd, 1) := by decide +kernel
theorem dX12_looksFrom_84 : decode cX12_looksFrom 84 = .ok (.iaload, 1) := by decide +kernel
theorem dX12_looksFrom_85 : decode cX12_looksFrom 85 = .ok (.iastore, 1) := by decide +kernel
theorem dX12_looksFrom_86 : decode cX12_looksFrom 86 = .ok (.aload_n 0, 1) := by decide +kernel
theorem dX12_looksFrom_87 : decode cX12_looksFrom 87 = .ok (.getfield 51, 3) := by decide +kernel
theorem dX12_looksFrom_90 : decode cX12_looksFrom 90 = .ok (.bipush 8, 2) := by decide +kernel
theorem dX12_looksFrom_92 : decode cX12_looksFrom 92 = .ok (.iload_n 3, 1) := by decide +kernel
theorem dX12_looksFrom_93 : decode cX12_looksFrom 93 = .ok (.imul, 1) := by decide +kernel
theorem dX12_looksFrom_94 : decode cX12_looksFrom 94 = .ok (.iload 7, 2) := by decide +kernel
theorem dX12_looksFrom_96 : decode cX12_looksFrom 96 = .ok (.iadd, 1) := by decide +kernel
theorem dX12_looksFrom_97 : decode cX12_looksFrom 97 = .ok (.aload_n 0, 1) := by decide +kernel
theorem dX12_looksFrom_98 : decode cX12_looksFrom 98 = .ok (.getfield 9, 3) := by decide +kernel
theorem dX12_looksFrom_101 : decode cX12_looksFrom 101 = .ok (.sipush 1042, 3) := by decide +kernel
theorem dX12_looksFrom_104 : decode cX12_looksFrom 104 = .ok (.iload 7, 2) := by decide +kernel
theorem dX12_looksFrom_106 : decode cX12_looksFrom 106 = .ok (.iadd, 1) := by decide +kernel
theorem dX12_looksFrom_107 : decode cX12_looksFrom 107 = .ok (.iaload, 1) := by decide +kernel
theorem dX12_looksFrom_108 : decode cX12_looksFrom 108 = .ok (.iastore, 1) := by decide +kernel
theorem dX12_looksFrom_109 : decode cX12_looksFrom 109 = .ok (.iinc 7 1, 3) := by decide +kernel
theorem dX12_looksFrom_112 : decode cX12_looksFrom 112 = .ok (.goto (-60), 3) := by decide +kernel
theorem dX12_looksFrom_115 : decode cX12_looksFrom 115 = .ok (.aload_n 0, 1) := by decide +kernel
theorem dX12_looksFrom_116 : decode cX12_looksFrom 116 = .ok (.invokevirtual 181, 3) := by decide +kernel
theorem dX12_looksFrom_119 : decode cX12_looksFrom 119 = .ok (.aload_n 0, 1) := by decide +kernel
theorem dX12_looksFrom_120 : decode cX12_looksFrom 120 = .ok (.iload_n 1, 1) := by decide +kernel
theorem dX12_looksFrom_121 : decode cX12_looksFrom 121 = .ok (.iload_n 2, 1) := by decide +kernel
theorem dX12_looksFrom_122 : decode cX12_looksFrom 122 = .ok (.iconst 1, 1) := by decide +kernel
theorem dX12_looksFrom_123 : decode cX12_looksFrom 123 = .ok (.iadd, 1) := by decide +kernel
theorem dX12_looksFrom_124 : decode cX12_looksFrom 124 = .ok (.iload_n 3, 1) := by decide +kernel
theorem dX12_looksFrom_125 : decode cX12_looksFrom 125 = .ok (.iconst 1, 1) := by decide +kernel
theorem dX12_looksFrom_126 : decode cX12_looksFrom 126 = .ok (.isub, 1) := by decide +kernel
theorem dX12_looksFrom_127 : decode cX12_looksFrom 127 = .ok (.invokevirtual 261, 3) := by decide +kernel
theorem dX12_looksFrom_130 : decode cX12_looksFrom 130 = .ok (.lstore 7, 2) := by decide +kernel
theorem dX12_looksFrom_132 : decode cX12_looksFrom 132 = .ok (.iconst 0, 1) := by decide +kernel
theorem dX12_looksFrom_133 : decode cX12_looksFrom 133 = .ok (.istore 9, 2) := by decide +kernel
theorem dX12_looksFrom_135 : decode cX12_looksFrom 135 = .ok (.iload 9, 2) := by decide +kernel
theorem dX12_looksFrom_137 : decode cX12_looksFrom 137 = .ok (.aload_n 0, 1) := by decide +kernel
theorem dX12_looksFrom_138 : decode cX12_looksFrom 138 = .ok (.getfield 9, 3) := by decide +kernel
theorem dX12_looksFrom_141 : decode cX12_looksFrom 141 = .ok (.iconst 1, 1) := by decide +kernel
theorem dX12_looksFrom_142 : decode cX12_looksFrom 142 = .ok (.iaload, 1) := by decide +kernel
theorem dX12_looksFrom_143 : decode cX12_looksFrom 143 = .ok (.if_icmp .ge 55, 3) := by decide +kernel
theorem dX12_looksFrom_146 : decode cX12_looksFrom 146 = .ok (.aload_n 0, 1) := by decide +kernel
theorem dX12_looksFrom_147 : decode cX12_looksFrom 147 = .ok (.getfield 9, 3) := by decide +kernel
theorem dX12_looksFrom_150 : decode cX12_looksFrom 150 = .ok (.sipush 1034, 3) := by decide +kernel
theorem dX12_looksFrom_153 : decode cX12_looksFrom 153 = .ok (.iload 9, 2) := by decide +kernel
theorem dX12_looksFrom_155 : decode cX12_looksFrom 155 = .ok (.iadd, 1) := by decide +kernel
theorem dX12_looksFrom_156 : decode cX12_looksFrom 156 = .ok (.aload_n 0, 1) := by decide +kernel
theorem dX12_looksFrom_157 : decode cX12_looksFrom 157 = .ok (.getfield 48, 3) := by decide +kernel
theorem dX12_looksFrom_160 : decode cX12_looksFrom 160 = .ok (.bipush 8, 2) := by decide +kernel
theorem dX12_looksFrom_162 : decode cX12_looksFrom 162 = .ok (.iload_n 3, 1) := by decide +kernel
theorem dX12_looksFrom_163 : decode cX12_looksFrom 163 = .ok (.imul, 1) := by decide +kernel
theorem dX12_looksFrom_164 : decode cX12_looksFrom 164 = .ok (.iload 9, 2) := by decide +kernel
theorem dX12_looksFrom_166 : decode cX12_looksFrom 166 = .ok (.iadd, 1) := by decide +kernel
theorem dX12_looksFrom_167 : decode cX12_looksFrom 167 = .ok (.iaload, 1) := by decide +kernel
theorem dX12_looksFrom_168 : decode cX12_looksFrom 168 = .ok (.iastore, 1) := by decide +kernel
theorem dX12_looksFrom_169 : decode cX12_looksFrom 169 = .ok (.aload_n 0, 1) := by decide +kernel
theorem dX12_looksFrom_170 : decode cX12_looksFrom 170 = .ok (.getfield 9, 3) := by decide +kernel
theorem dX12_looksFrom_173 : decode cX12_looksFrom 173 = .ok (.sipush 1042, 3) := by decide +kernel
theorem dX12_looksFrom_176 : decode cX12_looksFrom 176 = .ok (.iload 9, 2) := by decide +kernel
theorem dX12_looksFrom_178 : decode cX12_looksFrom 178 = .ok (.iadd, 1) := by decide +kernel
theorem dX12_looksFrom_179 : decode cX12_looksFrom 179 = .ok (.aload_n 0, 1) := by decide +kernel
theorem dX12_looksFrom_180 : decode cX12_looksFrom 180 = .ok (.getfield 51, 3) := by decide +kernel
theorem dX12_looksFrom_183 : decode cX12_looksFrom 183 = .ok (.bipush 8, 2) := by decide +kernel
theorem dX12_looksFrom_185 : decode cX12_looksFrom 185 = .ok (.iload_n 3, 1) := by decide +kernel
theorem dX12_looksFrom_186 : decode cX12_looksFrom 186 = .ok (.imul, 1) := by decide +kernel
theorem dX12_looksFrom_187 : decode cX12_looksFrom 187 = .ok (.iload 9, 2) := by decide +kernel
theorem dX12_looksFrom_189 : decode cX12_looksFrom 189 = .ok (.iadd, 1) := by decide +kernel
theorem dX12_looksFrom_190 : decode cX12_looksFrom 190 = .ok (.iaload, 1) := by decide +kernel
theorem dX12_looksFrom_191 : decode cX12_looksFrom 191 = .ok (.iastore, 1) := by decide +kernel
theorem dX12_looksFrom_192 : decode cX12_looksFrom 192 = .ok (.iinc 9 1, 3) := by decide +kernel
theorem dX12_looksFrom_195 : decode cX12_looksFrom 195 = .ok (.goto (-60), 3) := by decide +kernel
theorem dX12_looksFrom_198 : decode cX12_looksFrom 198 = .ok (.lload 7, 2) := by decide +kernel
theorem dX12_looksFrom_200 : decode cX12_looksFrom 200 = .ok (.lreturn, 1) := by decide +kernel
theorem dX12_looksFrom_201 : decode cX12_looksFrom 201 = .ok (.aload_n 0, 1) := by decide +kernel
theorem dX12_looksFrom_202 : decode cX12_looksFrom 202 = .ok (.getfield 9, 3) := by decide +kernel
theorem dX12_looksFrom_205 : decode cX12_looksFrom 205 = .ok (.sipush 1034, 3) := by decide +kernel
theorem dX12_looksFrom_208 : decode cX12_looksFrom 208 = .ok (.iload 6, 2) := by decide +kernel
theorem dX12_looksFrom_210 : decode cX12_looksFrom 210 = .ok (.iadd, 1) := by decide +kernel
theorem dX12_looksFrom_211 : decode cX12_looksFrom 211 = .ok (.iaload, 1) := by decide +kernel
theorem dX12_looksFrom_212 : decode cX12_looksFrom 212 = .ok (.istore 7, 2) := by decide +kernel
theorem dX12_looksFrom_214 : decode cX12_looksFrom 214 = .ok (.aload_n 0, 1) := by decide +kernel
theorem dX12_looksFrom_215 : decode cX12_looksFrom 215 = .ok (.getfield 9, 3) := by decide +kernel
theorem dX12_looksFrom_218 : decode cX12_looksFrom 218 = .ok (.sipush 1042, 3) := by decide +kernel
theorem dX12_looksFrom_221 : decode cX12_looksFrom 221 = .ok (.iload 6, 2) := by decide +kernel
theorem dX12_looksFrom_223 : decode cX12_looksFrom 223 = .ok (.iadd, 1) := by decide +kernel
theorem dX12_looksFrom_224 : decode cX12_looksFrom 224 = .ok (.iaload, 1) := by decide +kernel
theorem dX12_looksFrom_225 : decode cX12_looksFrom 225 = .ok (.istore 8, 2) := by decide +kernel
theorem dX12_looksFrom_227 : decode cX12_looksFrom 227 = .ok (.aload_n 0, 1) := by decide +kernel
theorem dX12_looksFrom_228 : decode cX12_looksFrom 228 = .ok (.iload 6, 2) := by decide +kernel
theorem dX12_looksFrom_230 : decode cX12_looksFrom 230 = .ok (.iconst 3, 1) := by decide +kernel
theorem dX12_looksFrom_231 : decode cX12_looksFrom 231 = .ok (.invokevirtual 184, 3) := by decide +kernel
theorem dX12_looksFrom_234 : decode cX12_looksFrom 234 = .ok (.istore 9, 2) := by decide +kernel
theorem dX12_looksFrom_236 : decode cX12_looksFrom 236 = .ok (.aload_n 0, 1) := by decide +kernel
theorem dX12_looksFrom_237 : decode cX12_looksFrom 237 = .ok (.getfield 9, 3) := by decide +kernel
theorem dX12_looksFrom_240 : decode cX12_looksFrom 240 = .ok (.sipush 1034, 3) := by decide +kernel
theorem dX12_looksFrom_243 : decode cX12_looksFrom 243 = .ok (.iload 6, 2) := by decide +kernel
theorem dX12_looksFrom_245 : decode cX12_looksFrom 245 = .ok (.iadd, 1) := by decide +kernel
theorem dX12_looksFrom_246 : decode cX12_looksFrom 246 = .ok (.ldc 157, 2) := by decide +kernel
theorem dX12_looksFrom_248 : decode cX12_looksFrom 248 = .ok (.iastore, 1) := by decide +kernel
theorem dX12_looksFrom_249 : decode cX12_looksFrom 249 = .ok (.aload_n 0, 1) := by decide +kernel
theorem dX12_looksFrom_250 : decode cX12_looksFrom 250 = .ok (.getfield 9, 3) := by decide +kernel
theorem dX12_looksFrom_253 : decode cX12_looksFrom 253 = .ok (.sipush 1042, 3) := by decide +kernel
theorem dX12_looksFrom_256 : decode cX12_looksFrom 256 = .ok (.iload 6, 2) := by decide +kernel
theorem dX12_looksFrom_258 : decode cX12_looksFrom 258 = .ok (.iadd, 1) := by decide +kernel
theorem dX12_looksFrom_259 : decode cX12_looksFrom 259 = .ok (.iconst 0, 1) := by decide +kernel
theorem dX12_looksFrom_260 : decode cX12_looksFrom 260 = .ok (.iastore, 1) := by decide +kernel
theorem dX12_looksFrom_261 : decode cX12_looksFrom 261 = .ok (.aload_n 0, 1) := by decide +kernel
theorem dX12_looksFrom_262 : decode cX12_looksFrom 262 = .ok (.iload_n 1, 1) := by decide +kernel
theorem dX12_looksFrom_263 : decode cX12_looksFrom 263 = .ok (.iload_n 2, 1) := by decide +kernel
theorem dX12_looksFrom_264 : decode cX12_looksFrom 264 = .ok (.iload_n 3, 1) := by decide +kernel
theorem dX12_looksFrom_265 : decode cX12_looksFrom 265 = .ok (.iload 4, 2) := by decide +kernel
theorem dX12_looksFrom_267 : decode cX12_looksFrom 267 = .ok (.iload 6, 2) := by decide +kernel
theorem dX12_looksFrom_269 : decode cX12_looksFrom 269 = .ok (.iconst 1, 1) := by decide +kernel
theorem dX12_looksFrom_270 : decode cX12_looksFrom 270 = .ok (.iadd, 1) := by decide +kernel
theorem dX12_looksFrom_271 : decode cX12_looksFrom 271 = .ok (.invokevirtual 254, 3) := by decide +kernel
theorem dX12_looksFrom_274 : decode cX12_looksFrom 274 = .ok (.lstore 10, 2) := by decide +kernel
theorem dX12_looksFrom_276 : decode cX12_looksFrom 276 = .ok (.aload_n 0, 1) := by decide +kernel
theorem dX12_looksFrom_277 : decode cX12_looksFrom 277 = .ok (.getfield 9, 3) := by decide +kernel
theorem dX12_looksFrom_280 : decode cX12_looksFrom 280 = .ok (.sipush 1034, 3) := by decide +kernel
theorem dX12_looksFrom_283 : decode cX12_looksFrom 283 = .ok (.iload 6, 2) := by decide +kernel
theorem dX12_looksFrom_285 : decode cX12_looksFrom 285 = .ok (.iadd, 1) := by decide +kernel
theorem dX12_looksFrom_286 : decode cX12_looksFrom 286 = .ok (.iload 9, 2) := by decide +kernel
theorem dX12_looksFrom_288 : decode cX12_looksFrom 288 = .ok (.ifCond .le 8, 3) := by decide +kernel
theorem dX12_looksFrom_291 : decode cX12_looksFrom 291 = .ok (.ldc 157, 2) := by decide +kernel
theorem dX12_looksFrom_293 : decode cX12_looksFrom 293 = .ok (.goto 4, 3) := by decide +kernel
theorem dX12_looksFrom_296 : decode cX12_looksFrom 296 = .ok (.iconst 0, 1) := by decide +kernel
theorem dX12_looksFrom_297 : decode cX12_looksFrom 297 = .ok (.iastore, 1) := by decide +kernel
theorem dX12_looksFrom_298 : decode cX12_looksFrom 298 = .ok (.iload 9, 2) := by decide +kernel
theorem dX12_looksFrom_300 : decode cX12_looksFrom 300 = .ok (.ifCond .le 16, 3) := by decide +kernel
theorem dX12_looksFrom_303 : decode cX12_looksFrom 303 = .ok (.lload 10, 2) := by decide +kernel
theorem dX12_looksFrom_305 : decode cX12_looksFrom 305 = .ok (.ldc2_w 168, 3) := by decide +kernel
theorem dX12_looksFrom_308 : decode cX12_looksFrom 308 = .ok (.iload 9, 2) := by decide +kernel
theorem dX12_looksFrom_310 : decode cX12_looksFrom 310 = .ok (.i2l, 1) := by decide +kernel
theorem dX12_looksFrom_311 : decode cX12_looksFrom 311 = .ok (.lmul, 1) := by decide +kernel
theorem dX12_looksFrom_312 : decode cX12_looksFrom 312 = .ok (.lsub, 1) := by decide +kernel
theorem dX12_looksFrom_313 : decode cX12_looksFrom 313 = .ok (.goto 16, 3) := by decide +kernel
theorem dX12_looksFrom_316 : decode cX12_looksFrom 316 = .ok (.aload_n 0, 1) := by decide +kernel
theorem dX12_looksFrom_317 : decode cX12_looksFrom 317 = .ok (.iload_n 1, 1) := by decide +kernel
theorem dX12_looksFrom_318 : decode cX12_looksFrom 318 = .ok (.iload_n 2, 1) := by decide +kernel
theorem dX12_looksFrom_319 : decode cX12_looksFrom 319 = .ok (.iload_n 3, 1) := by decide +kernel
theorem dX12_looksFrom_320 : decode cX12_looksFrom 320 = .ok (.iload 4, 2) := by decide +kernel
theorem dX12_looksFrom_322 : decode cX12_looksFrom 322 = .ok (.iload 6, 2) := by decide +kernel
theorem dX12_looksFrom_324 : decode cX12_looksFrom 324 = .ok (.iconst 1, 1) := by decide +kernel
theorem dX12_looksFrom_325 : decode cX12_looksFrom 325 = .ok (.iadd, 1) := by decide +kernel
theorem dX12_looksFrom_326 : decode cX12_looksFrom 326 = .ok (.invokevirtual 254, 3) := by decide +kernel
theorem dX12_looksFrom_329 : decode cX12_looksFrom 329 = .ok (.lstore 12, 2) := by decide +kernel
theorem dX12_looksFrom_331 : decode cX12_looksFrom 331 = .ok (.aload_n 0, 1) := by decide +kernel
theorem dX12_looksFrom_332 : decode cX12_looksFrom 332 = .ok (.getfield 9, 3) := by decide +kernel
theorem dX12_looksFrom_335 : decode cX12_looksFrom 335 = .ok (.sipush 1034, 3) := by decide +kernel
theorem dX12_looksFrom_338 : decode cX12_looksFrom 338 = .ok (.iload 6, 2) := by decide +kernel
theorem dX12_looksFrom_340 : decode cX12_looksFrom 340 = .ok (.iadd, 1) := by decide +kernel
theorem dX12_looksFrom_341 : decode cX12_looksFrom 341 = .ok (.iload 7, 2) := by decide +kernel
theorem dX12_looksFrom_343 : decode cX12_looksFrom 343 = .ok (.iastore, 1) := by decide +kernel
theorem dX12_looksFrom_344 : decode cX12_looksFrom 344 = .ok (.aload_n 0, 1) := by decide +kernel
theorem dX12_looksFrom_345 : decode cX12_looksFrom 345 = .ok (.getfield 9, 3) := by decide +kernel
theorem dX12_looksFrom_348 : decode cX12_looksFrom 348 = .ok (.sipush 1042, 3) := by decide +kernel
theorem dX12_looksFrom_351 : decode cX12_looksFrom 351 = .ok (.iload 6, 2) := by decide +kernel
theorem dX12_looksFrom_353 : decode cX12_looksFrom 353 = .ok (.iadd, 1) := by decide +kernel
theorem dX12_looksFrom_354 : decode cX12_looksFrom 354 = .ok (.iload 8, 2) := by decide +kernel
theorem dX12_looksFrom_356 : decode cX12_looksFrom 356 = .ok (.iastore, 1) := by decide +kernel
theorem dX12_looksFrom_357 : decode cX12_looksFrom 357 = .ok (.iload 7, 2) := by decide +kernel
theorem dX12_looksFrom_359 : decode cX12_looksFrom 359 = .ok (.i2l, 1) := by decide +kernel
theorem dX12_looksFrom_360 : decode cX12_looksFrom 360 = .ok (.lload 10, 2) := by decide +kernel
theorem dX12_looksFrom_362 : decode cX12_looksFrom 362 = .ok (.lmul, 1) := by decide +kernel
theorem dX12_looksFrom_363 : decode cX12_looksFrom 363 = .ok (.ldc 157, 2) := by decide +kernel
theorem dX12_looksFrom_365 : decode cX12_looksFrom 365 = .ok (.iload 7, 2) := by decide +kernel
theorem dX12_looksFrom_367 : decode cX12_looksFrom 367 = .ok (.isub, 1) := by decide +kernel
theorem dX12_looksFrom_368 : decode cX12_looksFrom 368 = .ok (.i2l, 1) := by decide +kernel
theorem dX12_looksFrom_369 : decode cX12_looksFrom 369 = .ok (.lload 12, 2) := by decide +kernel
theorem dX12_looksFrom_371 : decode cX12_looksFrom 371 = .ok (.lmul, 1) := by decide +kernel
theorem dX12_looksFrom_372 : decode cX12_looksFrom 372 = .ok (.ladd, 1) := by decide +kernel
theorem dX12_looksFrom_373 : decode cX12_looksFrom 373 = .ok (.ldc2_w 203, 3) := by decide +kernel
theorem dX12_looksFrom_376 : decode cX12_looksFrom 376 = .ok (.ldiv, 1) := by decide +kernel
theorem dX12_looksFrom_377 : decode cX12_looksFrom 377 = .ok (.ldc2_w 168, 3) := by decide +kernel
theorem dX12_looksFrom_380 : decode cX12_looksFrom 380 = .ok (.aload_n 0, 1) := by decide +kernel
theorem dX12_looksFrom_381 : decode cX12_looksFrom 381 = .ok (.iload 6, 2) := by decide +kernel
theorem dX12_looksFrom_383 : decode cX12_looksFrom 383 = .ok (.iconst 2, 1) := by decide +kernel
theorem dX12_looksFrom_384 : decode cX12_looksFrom 384 = .ok (.invokevirtual 184, 3) := by decide +kernel
theorem dX12_looksFrom_387 : decode cX12_looksFrom 387 = .ok (.i2l, 1) := by decide +kernel
theorem dX12_looksFrom_388 : decode cX12_looksFrom 388 = .ok (.lmul, 1) := by decide +kernel
theorem dX12_looksFrom_389 : decode cX12_looksFrom 389 = .ok (.lsub, 1) := by decide +kernel
theorem dX12_looksFrom_390 : decode cX12_looksFrom 390 = .ok (.lreturn, 1) := by decide +kernel
theorem dX12_mean_0 : decode cX12_mean 0 = .ok (.aload_n 0, 1) := by decide +kernel
theorem dX12_mean_1 : decode cX12_mean 1 = .ok (.iload_n 1, 1) := by decide +kernel
theorem dX12_mean_2 : decode cX12_mean 2 = .ok (.invokevirtual 220, 3) := by decide +kernel
theorem dX12_mean_5 : decode cX12_mean 5 = .ok (.ifCond .eq 12, 3) := by decide +kernel
theorem dX12_mean_8 : decode cX12_mean 8 = .ok (.iload_n 2, 1) := by decide +kernel
theorem dX12_mean_9 : decode cX12_mean 9 = .ok (.iconst 1, 1) := by decide +kernel
theorem dX12_mean_10 : decode cX12_mean 10 = .ok (.iconst 3, 1) := by decide +kernel
theorem dX12_mean_11 : decode cX12_mean 11 = .ok (.invokestatic 69, 3) := by decide +kernel
theorem dX12_mean_14 : decode cX12_mean 14 = .ok (.ifCond .ne 7, 3) := by decide +kernel
theorem dX12_mean_17 : decode cX12_mean 17 = .ok (.ldc2_w 205, 3) := by decide +kernel
theorem dX12_mean_20 : decode cX12_mean 20 = .ok (.lreturn, 1) := by decide +kernel
theorem dX12_mean_21 : decode cX12_mean 21 = .ok (.aload_n 0, 1) := by decide +kernel
theorem dX12_mean_22 : decode cX12_mean 22 = .ok (.iconst 0, 1) := by decide +kernel
theorem dX12_mean_23 : decode cX12_mean 23 = .ok (.putfield 244, 3) := by decide +kernel
theorem dX12_mean_26 : decode cX12_mean 26 = .ok (.aload_n 0, 1) := by decide +kernel
theorem dX12_mean_27 : decode cX12_mean 27 = .ok (.iload_n 1, 1) := by decide +kernel
theorem dX12_mean_28 : decode cX12_mean 28 = .ok (.aload_n 0, 1) := by decide +kernel
theorem dX12_mean_29 : decode cX12_mean 29 = .ok (.getfield 9, 3) := by decide +kernel
theorem dX12_mean_32 : decode cX12_mean 32 = .ok (.iconst 3, 1) := by decide +kernel
theorem dX12_mean_33 : decode cX12_mean 33 = .ok (.iaload, 1) := by decide +kernel
theorem dX12_mean_34 : decode cX12_mean 34 = .ok (.iload_n 2, 1) := by decide +kernel
theorem dX12_mean_35 : decode cX12_mean 35 = .ok (.invokevirtual 261, 3) := by decide +kernel
theorem dX12_mean_38 : decode cX12_mean 38 = .ok (.lreturn, 1) := by decide +kernel
theorem dX12_allOf_0 : decode cX12_allOf 0 = .ok (.aload_n 0, 1) := by decide +kernel
theorem dX12_allOf_1 : decode cX12_allOf 1 = .ok (.iconst 0, 1) := by decide +kernel
theorem dX12_allOf_2 : decode cX12_allOf 2 = .ok (.putfield 244, 3) := by decide +kernel
theorem dX12_allOf_5 : decode cX12_allOf 5 = .ok (.aload_n 0, 1) := by decide +kernel
theorem dX12_allOf_6 : decode cX12_allOf 6 = .ok (.iconst (-1), 1) := by decide +kernel
theorem dX12_allOf_7 : decode cX12_allOf 7 = .ok (.aload_n 0, 1) := by decide +kernel
theorem dX12_allOf_8 : decode cX12_allOf 8 = .ok (.getfield 9, 3) := by decide +kernel
theorem dX12_allOf_11 : decode cX12_allOf 11 = .ok (.iconst 3, 1) := by decide +kernel
theorem dX12_allOf_12 : decode cX12_allOf 12 = .ok (.iaload, 1) := by decide +kernel
theorem dX12_allOf_13 : decode cX12_allOf 13 = .ok (.iload_n 1, 1) := by decide +kernel
theorem dX12_allOf_14 : decode cX12_allOf 14 = .ok (.invokevirtual 261, 3) := by decide +kernel
theorem dX12_allOf_17 : decode cX12_allOf 17 = .ok (.lreturn, 1) := by decide +kernel
theorem dX12_all_0 : decode cX12_all 0 = .ok (.iload_n 1, 1) := by decide +kernel
theorem dX12_all_1 : decode cX12_all 1 = .ok (.iconst 1, 1) := by decide +kernel
theorem dX12_all_2 : decode cX12_all 2 = .ok (.iconst 2, 1) := by decide +kernel
theorem dX12_all_3 : decode cX12_all 3 = .ok (.invokestatic 69, 3) := by decide +kernel
theorem dX12_all_6 : decode cX12_all 6 = .ok (.ifCond .eq 21, 3) := by decide +kernel
theorem dX12_all_9 : decode cX12_all 9 = .ok (.iload_n 2, 1) := by decide +kernel
theorem dX12_all_10 : decode cX12_all 10 = .ok (.iconst 0, 1) := by decide +kernel
theorem dX12_all_11 : decode cX12_all 11 = .ok (.iconst 1, 1) := by decide +kernel
theorem dX12_all_12 : decode cX12_all 12 = .ok (.invokestatic 69, 3) := by decide +kernel
theorem dX12_all_15 : decode cX12_all 15 = .ok (.ifCond .eq 12, 3) := by decide +kernel
theorem dX12_all_18 : decode cX12_all 18 = .ok (.aload_n 0, 1) := by decide +kernel
theorem dX12_all_19 : decode cX12_all 19 = .ok (.getfield 9, 3) := by decide +kernel
theorem dX12_all_22 : decode cX12_all 22 = .ok (.iconst 1, 1) := by decide +kernel
theorem dX12_all_23 : decode cX12_all 23 = .ok (.iaload, 1) := by decide +kernel
theorem dX12_all_24 : decode cX12_all 24 = .ok (.ifCond .ne 7, 3) := by decide +kernel
theorem dX12_all_27 : decode cX12_all 27 = .ok (.ldc2_w 205, 3) := by decide +kernel
theorem dX12_all_30 : decode cX12_all 30 = .ok (.lreturn, 1) := by decide +kernel
theorem dX12_all_31 : decode cX12_all 31 = .ok (.aload_n 0, 1) := by decide +kernel
theorem dX12_all_32 : decode cX12_all 32 = .ok (.iload_n 1, 1) := by decide +kernel
theorem dX12_all_33 : decode cX12_all 33 = .ok (.invokevirtual 265, 3) := by decide +kernel
theorem dX12_all_36 : decode cX12_all 36 = .ok (.lstore_n 3, 1) := by decide +kernel
theorem dX12_all_37 : decode cX12_all 37 = .ok (.iload_n 2, 1) := by decide +kernel
theorem dX12_all_38 : decode cX12_all 38 = .ok (.ifCond .ne 7, 3) := by decide +kernel
theorem dX12_all_41 : decode cX12_all 41 = .ok (.lload_n 3, 1) := by decide +kernel
theorem dX12_all_42 : decode cX12_all 42 = .ok (.goto 8, 3) := by decide +kernel
theorem dX12_all_45 : decode cX12_all 45 = .ok (.aload_n 0, 1) := by decide +kernel
theorem dX12_all_46 : decode cX12_all 46 = .ok (.getfield 258, 3) := by decide +kernel
theorem dX12_all_49 : decode cX12_all 49 = .ok (.i2l, 1) := by decide +kernel
theorem dX12_all_50 : decode cX12_all 50 = .ok (.lreturn, 1) := by decide +kernel
theorem dX12_loses_0 : decode cX12_loses 0 = .ok (.aload_n 0, 1) := by decide +kernel
theorem dX12_loses_1 : decode cX12_loses 1 = .ok (.iload_n 1, 1) := by decide +kernel
theorem dX12_loses_2 : decode cX12_loses 2 = .ok (.invokevirtual 220, 3) := by decide +kernel
theorem dX12_loses_5 : decode cX12_loses 5 = .ok (.ifCond .eq 21, 3) := by decide +kernel
theorem dX12_loses_8 : decode cX12_loses 8 = .ok (.iload_n 2, 1) := by decide +kernel
theorem dX12_loses_9 : decode cX12_loses 9 = .ok (.iconst 1, 1) := by decide +kernel
theorem dX12_loses_10 : decode cX12_loses 10 = .ok (.iconst 2, 1) := by decide +kernel
theorem dX12_loses_11 : decode cX12_loses 11 = .ok (.invokestatic 69, 3) := by decide +kernel
theorem dX12_loses_14 : decode cX12_loses 14 = .ok (.ifCond .eq 12, 3) := by decide +kernel
theorem dX12_loses_17 : decode cX12_loses 17 = .ok (.aload_n 0, 1) := by decide +kernel
theorem dX12_loses_18 : decode cX12_loses 18 = .ok (.getfield 9, 3) := by decide +kernel
theorem dX12_loses_21 : decode cX12_loses 21 = .ok (.iconst 1, 1) := by decide +kernel
theorem dX12_loses_22 : decode cX12_loses 22 = .ok (.iaload, 1) := by decide +kernel
theorem dX12_loses_23 : decode cX12_loses 23 = .ok (.ifCond .ne 7, 3) := by decide +kernel
theorem dX12_loses_26 : decode cX12_loses 26 = .ok (.ldc2_w 205, 3) := by decide +kernel
theorem dX12_loses_29 : decode cX12_loses 29 = .ok (.lreturn, 1) := by decide +kernel
theorem dX12_loses_30 : decode cX12_loses 30 = .ok (.aload_n 0, 1) := by decide +kernel
theorem dX12_loses_31 : decode cX12_loses 31 = .ok (.iload_n 2, 1) := by decide +kernel
theorem dX12_loses_32 : decode cX12_loses 32 = .ok (.invokevirtual 265, 3) := by decide +kernel
theorem dX12_loses_35 : decode cX12_loses 35 = .ok (.aload_n 0, 1) := by decide +kernel
theorem dX12_loses_36 : decode cX12_loses 36 = .ok (.iload_n 1, 1) := by decide +kernel
theorem dX12_loses_37 : decode cX12_loses 37 = .ok (.iload_n 2, 1) := by decide +kernel
theorem dX12_loses_38 : decode cX12_loses 38 = .ok (.invokevirtual 269, 3) := by decide +kernel
theorem dX12_loses_41 : decode cX12_loses 41 = .ok (.lsub, 1) := by decide +kernel
theorem dX12_loses_42 : decode cX12_loses 42 = .ok (.lreturn, 1) := by decide +kernel
theorem dX12_bound_0 : decode cX12_bound 0 = .ok (.iload_n 1, 1) := by decide +kernel
theorem dX12_bound_1 : decode cX12_bound 1 = .ok (.iconst 1, 1) := by decide +kernel
theorem dX12_bound_2 : decode cX12_bound 2 = .ok (.bipush 8, 2) := by decide +kernel
theorem dX12_bound_4 : decode cX12_bound 4 = .ok (.invokestatic 69, 3) := by decide +kernel
theorem dX12_bound_7 : decode cX12_bound 7 = .ok (.ifCond .ne 7, 3) := by decide +kernel
theorem dX12_bound_10 : decode cX12_bound 10 = .ok (.ldc2_w 205, 3) := by decide +kernel
theorem dX12_bound_13 : decode cX12_bound 13 = .ok (.lreturn, 1) := by decide +kernel
theorem dX12_bound_14 : decode cX12_bound 14 = .ok (.iconst 0, 1) := by decide +kernel
theorem dX12_bound_15 : decode cX12_bound 15 = .ok (.istore_n 2, 1) := by decide +kernel
theorem dX12_bound_16 : decode cX12_bound 16 = .ok (.iload_n 2, 1) := by decide +kernel
theorem dX12_bound_17 : decode cX12_bound 17 = .ok (.sipush 200, 3) := by decide +kernel
theorem dX12_bound_20 : decode cX12_bound 20 = .ok (.if_icmp .gt 37, 3) := by decide +kernel
theorem dX12_bound_23 : decode cX12_bound 23 = .ok (.aload_n 0, 1) := by decide +kernel
theorem dX12_bound_24 : decode cX12_bound 24 = .ok (.getfield 57, 3) := by decide +kernel
theorem dX12_bound_27 : decode cX12_bound 27 = .ok (.iload_n 2, 1) := by decide +kernel
theorem dX12_bound_28 : decode cX12_bound 28 = .ok (.ldc2_w 272, 3) := by decide +kernel
theorem dX12_bound_31 : decode cX12_bound 31 = .ok (.iload_n 2, 1) := by decide +kernel
theorem dX12_bound_32 : decode cX12_bound 32 = .ok (.i2l, 1) := by decide +kernel
theorem dX12_bound_33 : decode cX12_bound 33 = .ok (.lmul, 1) := by decide +kernel
theorem dX12_bound_34 : decode cX12_bound 34 = .ok (.iload_n 1, 1) := by decide +kernel
theorem dX12_bound_35 : decode cX12_bound 35 = .ok (.i2l, 1) := by decide +kernel
theorem dX12_bound_36 : decode cX12_bound 36 = .ok (.lmul, 1) := by decide +kernel
theorem dX12_bound_37 : decode cX12_bound 37 = .ok (.aload_n 0, 1) := by decide +kernel
theorem dX12_bound_38 : decode cX12_bound 38 = .ok (.getfield 9, 3) := by decide +kernel
theorem dX12_bound_41 : decode cX12_bound 41 = .ok (.iconst 1, 1) := by decide +kernel
theorem dX12_bound_42 : decode cX12_bound 42 = .ok (.iaload, 1) := by decide +kernel
theorem dX12_bound_43 : decode cX12_bound 43 = .ok (.aload_n 0, 1) := by decide +kernel
theorem dX12_bound_44 : decode cX12_bound 44 = .ok (.invokevirtual 226, 3) := by decide +kernel
theorem dX12_bound_47 : decode cX12_bound 47 = .ok (.isub, 1) := by decide +kernel
theorem dX12_bound_48 : decode cX12_bound 48 = .ok (.i2l, 1) := by decide +kernel
theorem dX12_bound_49 : decode cX12_bound 49 = .ok (.lmul, 1) := by decide +kernel
theorem dX12_bound_50 : decode cX12_bound 50 = .ok (.lastore, 1) := by decide +kernel
theorem dX12_bound_51 : decode cX12_bound 51 = .ok (.iinc 2 1, 3) := by decide +kernel
theorem dX12_bound_54 : decode cX12_bound 54 = .ok (.goto (-38), 3) := by decide +kernel
theorem dX12_bound_57 : decode cX12_bound 57 = .ok (.iconst 0, 1) := by decide +kernel
theorem dX12_bound_58 : decode cX12_bound 58 = .ok (.istore_n 2, 1) := by decide +kernel
theorem dX12_bound_59 : decode cX12_bound 59 = .ok (.iload_n 2, 1) := by decide +kernel
theorem dX12_bound_60 : decode cX12_bound 60 = .ok (.aload_n 0, 1) := by decide +kernel
theorem dX12_bound_61 : decode cX12_bound 61 = .ok (.getfield 9, 3) := by decide +kernel
theorem dX12_bound_64 : decode cX12_bound 64 = .ok (.iconst 1, 1) := by decide +kernel
theorem dX12_bound_65 : decode cX12_bound 65 = .ok (.iaload, 1) := by decide +kernel
theorem dX12_bound_66 : decode cX12_bound 66 = .ok (.if_icmp .ge 44, 3) := by decide +kernel
theorem dX12_bound_69 : decode cX12_bound 69 = .ok (.aload_n 0, 1) := by decide +kernel
theorem dX12_bound_70 : decode cX12_bound 70 = .ok (.iload_n 2, 1) := by decide +kernel
theorem dX12_bound_71 : decode cX12_bound 71 = .ok (.invokevirtual 207, 3) := by decide +kernel
theorem dX12_bound_74 : decode cX12_bound 74 = .ok (.iconst 0, 1) := by decide +kernel
theorem dX12_bound_75 : decode cX12_bound 75 = .ok (.istore_n 3, 1) := by decide +kernel
theorem dX12_bound_76 : decode cX12_bound 76 = .ok (.iload_n 3, 1) := by decide +kernel
theorem dX12_bound_77 : decode cX12_bound 77 = .ok (.sipush 200, 3) := by decide +kernel
theorem dX12_bound_80 : decode cX12_bound 80 = .ok (.if_icmp .gt 24, 3) := by decide +kernel
theorem dX12_bound_83 : decode cX12_bound 83 = .ok (.aload_n 0, 1) := by decide +kernel
theorem dX12_bound_84 : decode cX12_bound 84 = .ok (.getfield 57, 3) := by decide +kernel
theorem dX12_bound_87 : decode cX12_bound 87 = .ok (.iload_n 3, 1) := by decide +kernel
theorem dX12_bound_88 : decode cX12_bound 88 = .ok (.dup2, 1) := by decide +kernel
theorem dX12_bound_89 : decode cX12_bound 89 = .ok (.laload, 1) := by decide +kernel
theorem dX12_bound_90 : decode cX12_bound 90 = .ok (.aload_n 0, 1) := by decide +kernel
theorem dX12_bound_91 : decode cX12_bound 91 = .ok (.iload_n 3, 1) := by decide +kernel
theorem dX12_bound_92 : decode cX12_bound 92 = .ok (.iload_n 1, 1) := by decide +kernel
theorem dX12_bound_93 : decode cX12_bound 93 = .ok (.invokevirtual 210, 3) := by decide +kernel
theorem dX12_bound_96 : decode cX12_bound 96 = .ok (.ladd, 1) := by decide +kernel
theorem dX12_bound_97 : decode cX12_bound 97 = .ok (.lastore, 1) := by decide +kernel
theorem dX12_bound_98 : decode cX12_bound 98 = .ok (.iinc 3 1, 3) := by decide +kernel
theorem dX12_bound_101 : decode cX12_bound 101 = .ok (.goto (-25), 3) := by decide +kernel
theorem dX12_bound_104 : decode cX12_bound 104 = .ok (.iinc 2 1, 3) := by decide +kernel
theorem dX12_bound_107 : decode cX12_bound 107 = .ok (.goto (-48), 3) := by decide +kernel
theorem dX12_bound_110 : decode cX12_bound 110 = .ok (.aload_n 0, 1) := by decide +kernel
theorem dX12_bound_111 : decode cX12_bound 111 = .ok (.getfield 57, 3) := by decide +kernel
theorem dX12_bound_114 : decode cX12_bound 114 = .ok (.iconst 0, 1) := by decide +kernel
theorem dX12_bound_115 : decode cX12_bound 115 = .ok (.laload, 1) := by decide +kernel
theorem dX12_bound_116 : decode cX12_bound 116 = .ok (.lstore_n 2, 1) := by decide +kernel
theorem dX12_bound_117 : decode cX12_bound 117 = .ok (.iconst 1, 1) := by decide +kernel
theorem dX12_bound_118 : decode cX12_bound 118 = .ok (.istore 4, 2) := by decide +kernel
theorem dX12_bound_120 : decode cX12_bound 120 = .ok (.iload 4, 2) := by decide +kernel
theorem dX12_bound_122 : decode cX12_bound 122 = .ok (.sipush 200, 3) := by decide +kernel
theorem dX12_bound_125 : decode cX12_bound 125 = .ok (.if_icmp .gt 33, 3) := by decide +kernel
theorem dX12_bound_128 : decode cX12_bound 128 = .ok (.aload_n 0, 1) := by decide +kernel
theorem dX12_bound_129 : decode cX12_bound 129 = .ok (.getfield 57, 3) := by decide +kernel
theorem dX12_bound_132 : decode cX12_bound 132 = .ok (.iload 4, 2) := by decide +kernel
theorem dX12_bound_134 : decode cX12_bound 134 = .ok (.laload, 1) := by decide +kernel
theorem dX12_bound_135 : decode cX12_bound 135 = .ok (.lload_n 2, 1) := by decide +kernel
theorem dX12_bound_136 : decode cX12_bound 136 = .ok (.lcmp, 1) := by decide +kernel
theorem dX12_bound_137 : decode cX12_bound 137 = .ok (.ifCond .ge 13, 3) := by decide +kernel
theorem dX12_bound_140 : decode cX12_bound 140 = .ok (.aload_n 0, 1) := by decide +kernel
theorem dX12_bound_141 : decode cX12_bound 141 = .ok (.getfield 57, 3) := by decide +kernel
theorem dX12_bound_144 : decode cX12_bound 144 = .ok (.iload 4, 2) := by decide +kernel
theorem dX12_bound_146 : decode cX12_bound 146 = .ok (.laload, 1) := by decide +kernel
theorem dX12_bound_147 : decode cX12_bound 147 = .ok (.goto 4, 3) := by decide +kernel
theorem dX12_bound_150 : decode cX12_bound 150 = .ok (.lload_n 2, 1) := by decide +kernel
theorem dX12_bound_151 : decode cX12_bound 151 = .ok (.lstore_n 2, 1) := by decide +kernel
theorem dX12_bound_152 : decode cX12_bound 152 = .ok (.iinc 4 1, 3) := by decide +kernel
theorem dX12_bound_155 : decode cX12_bound 155 = .ok (.goto (-35), 3) := by decide +kernel
theorem dX12_bound_158 : decode cX12_bound 158 = .ok (.lload_n 2, 1) := by decide +kernel
theorem dX12_bound_159 : decode cX12_bound 159 = .ok (.lreturn, 1) := by decide +kernel
theorem dX12_shows_0 : decode cX12_shows 0 = .ok (.aload_n 0, 1) := by decide +kernel
theorem dX12_shows_1 : decode cX12_shows 1 = .ok (.getfield 9, 3) := by decide +kernel
theorem dX12_shows_4 : decode cX12_shows 4 = .ok (.sipush 1034, 3) := by decide +kernel
theorem dX12_shows_7 : decode cX12_shows 7 = .ok (.iload_n 1, 1) := by decide +kernel
theorem dX12_shows_8 : decode cX12_shows 8 = .ok (.iadd, 1) := by decide +kernel
theorem dX12_shows_9 : decode cX12_shows 9 = .ok (.iload_n 2, 1) := by decide +kernel
theorem dX12_shows_10 : decode cX12_shows 10 = .ok (.ifCond .ne 12, 3) := by decide +kernel
theorem dX12_shows_13 : decode cX12_shows 13 = .ok (.aload_n 0, 1) := by decide +kernel
theorem dX12_shows_14 : decode cX12_shows 14 = .ok (.iload_n 1, 1) := by decide +kernel
theorem dX12_shows_15 : decode cX12_shows 15 = .ok (.iconst 3, 1) := by decide +kernel
theorem dX12_shows_16 : decode cX12_shows 16 = .ok (.invokevirtual 184, 3) := by decide +kernel
theorem dX12_shows_19 : decode cX12_shows 19 = .ok (.ifCond .le 8, 3) := by decide +kernel
theorem dX12_shows_22 : decode cX12_shows 22 = .ok (.ldc 157, 2) := by decide +kernel
theorem dX12_shows_24 : decode cX12_shows 24 = .ok (.goto 4, 3) := by decide +kernel
theorem dX12_shows_27 : decode cX12_shows 27 = .ok (.iconst 0, 1) := by decide +kernel
theorem dX12_shows_28 : decode cX12_shows 28 = .ok (.iastore, 1) := by decide +kernel
theorem dX12_shows_29 : decode cX12_shows 29 = .ok (.aload_n 0, 1) := by decide +kernel
theorem dX12_shows_30 : decode cX12_shows 30 = .ok (.getfield 9, 3) := by decide +kernel
theorem dX12_shows_33 : decode cX12_shows 33 = .ok (.sipush 1042, 3) := by decide +kernel
theorem dX12_shows_36 : decode cX12_shows 36 = .ok (.iload_n 1, 1) := by decide +kernel
theorem dX12_shows_37 : decode cX12_shows 37 = .ok (.iadd, 1) := by decide +kernel
theorem dX12_shows_38 : decode cX12_shows 38 = .ok (.iconst 0, 1) := by decide +kernel
theorem dX12_shows_39 : decode cX12_shows 39 = .ok (.iastore, 1) := by decide +kernel
theorem dX12_shows_40 : decode cX12_shows 40 = .ok (.return_, 1) := by decide +kernel
theorem dX12_doubt_0 : decode cX12_doubt 0 = .ok (.lconst 0, 1) := by decide +kernel
theorem dX12_doubt_1 : decode cX12_doubt 1 = .ok (.lstore_n 2, 1) := by decide +kernel
theorem dX12_doubt_2 : decode cX12_doubt 2 = .ok (.iconst 0, 1) := by decide +kernel
theorem dX12_doubt_3 : decode cX12_doubt 3 = .ok (.istore 4, 2) := by decide +kernel
theorem dX12_doubt_5 : decode cX12_doubt 5 = .ok (.iload 4, 2) := by decide +kernel
theorem dX12_doubt_7 : decode cX12_doubt 7 = .ok (.aload_n 0, 1) := by decide +kernel
theorem dX12_doubt_8 : decode cX12_doubt 8 = .ok (.getfield 9, 3) := by decide +kernel
theorem dX12_doubt_11 : decode cX12_doubt 11 = .ok (.iconst 1, 1) := by decide +kernel
theorem dX12_doubt_12 : decode cX12_doubt 12 = .ok (.iaload, 1) := by decide +kernel
theorem dX12_doubt_13 : decode cX12_doubt 13 = .ok (.if_icmp .ge 41, 3) := by decide +kernel
theorem dX12_doubt_16 : decode cX12_doubt 16 = .ok (.lload_n 2, 1) := by decide +kernel
theorem dX12_doubt_17 : decode cX12_doubt 17 = .ok (.iload_n 1, 1) := by decide +kernel
theorem dX12_doubt_18 : decode cX12_doubt 18 = .ok (.iload 4, 2) := by decide +kernel
theorem dX12_doubt_20 : decode cX12_doubt 20 = .ok (.ishr, 1) := by decide +kernel
theorem dX12_doubt_21 : decode cX12_doubt 21 = .ok (.iconst 1, 1) := by decide +kernel
theorem dX12_doubt_22 : decode cX12_doubt 22 = .ok (.iand, 1) := by decide +kernel
theorem dX12_doubt_23 : decode cX12_doubt 23 = .ok (.iconst 1, 1) := by decide +kernel
theorem dX12_doubt_24 : decode cX12_doubt 24 = .ok (.if_icmp .ne 21, 3) := by decide +kernel
theorem dX12_doubt_27 : decode cX12_doubt 27 = .ok (.ldc 157, 2) := by decide +kernel
theorem dX12_doubt_29 : decode cX12_doubt 29 = .ok (.aload_n 0, 1) := by decide +kernel
theorem dX12_doubt_30 : decode cX12_doubt 30 = .ok (.getfield 9, 3) := by decide +kernel
theorem dX12_doubt_33 : decode cX12_doubt 33 = .ok (.sipush 1034, 3) := by decide +kernel
theorem dX12_doubt_36 : decode cX12_doubt 36 = .ok (.iload 4, 2) := by decide +kernel
theorem dX12_doubt_38 : decode cX12_doubt 38 = .ok (.iadd, 1) := by decide +kernel
theorem dX12_doubt_39 : decode cX12_doubt 39 = .ok (.iaload, 1) := by decide +kernel
theorem dX12_doubt_40 : decode cX12_doubt 40 = .ok (.isub, 1) := by decide +kernel
theorem dX12_doubt_41 : decode cX12_doubt 41 = .ok (.i2l, 1) := by decide +kernel
theorem dX12_doubt_42 : decode cX12_doubt 42 = .ok (.goto 4, 3) := by decide +kernel
theorem dX12_doubt_45 : decode cX12_doubt 45 = .ok (.lconst 0, 1) := by decide +kernel
theorem dX12_doubt_46 : decode cX12_doubt 46 = .ok (.ladd, 1) := by decide +kernel
theorem dX12_doubt_47 : decode cX12_doubt 47 = .ok (.lstore_n 2, 1) := by decide +kernel
theorem dX12_doubt_48 : decode cX12_doubt 48 = .ok (.iinc 4 1, 3) := by decide +kernel
theorem dX12_doubt_51 : decode cX12_doubt 51 = .ok (.goto (-46), 3) := by decide +kernel
theorem dX12_doubt_54 : decode cX12_doubt 54 = .ok (.lload_n 2, 1) := by decide +kernel
theorem dX12_doubt_55 : decode cX12_doubt 55 = .ok (.lreturn, 1) := by decide +kernel
theorem dX12_judged_0 : decode cX12_judged 0 = .ok (.aload_n 0, 1) := by decide +kernel
theorem dX12_judged_1 : decode cX12_judged 1 = .ok (.iload_n 1, 1) := by decide +kernel
theorem dX12_judged_2 : decode cX12_judged 2 = .ok (.invokevirtual 220, 3) := by decide +kernel
theorem dX12_judged_5 : decode cX12_judged 5 = .ok (.ifCond .ne 5, 3) := by decide +kernel
theorem dX12_judged_8 : decode cX12_judged 8 = .ok (.iconst (-1), 1) := by decide +kernel
theorem dX12_judged_9 : decode cX12_judged 9 = .ok (.ireturn, 1) := by decide +kernel
theorem dX12_judged_10 : decode cX12_judged 10 = .ok (.iload_n 2, 1) := by decide +kernel
theorem dX12_judged_11 : decode cX12_judged 11 = .ok (.iconst 1, 1) := by decide +kernel
theorem dX12_judged_12 : decode cX12_judged 12 = .ok (.bipush 10, 2) := by decide +kernel
theorem dX12_judged_14 : decode cX12_judged 14 = .ok (.invokestatic 69, 3) := by decide +kernel
theorem dX12_judged_17 : decode cX12_judged 17 = .ok (.ifCond .ne 6, 3) := by decide +kernel
theorem dX12_judged_20 : decode cX12_judged 20 = .ok (.bipush (-2), 2) := by decide +kernel
theorem dX12_judged_22 : decode cX12_judged 22 = .ok (.ireturn, 1) := by decide +kernel
theorem dX12_judged_23 : decode cX12_judged 23 = .ok (.aload_n 0, 1) := by decide +kernel
theorem dX12_judged_24 : decode cX12_judged 24 = .ok (.getfield 9, 3) := by decide +kernel
theorem dX12_judged_27 : decode cX12_judged 27 = .ok (.sipush 1070, 3) := by decide +kernel
theorem dX12_judged_30 : decode cX12_judged 30 = .ok (.iload_n 1, 1) := by decide +kernel
theorem dX12_judged_31 : decode cX12_judged 31 = .ok (.iadd, 1) := by decide +kernel
theorem dX12_judged_32 : decode cX12_judged 32 = .ok (.iaload, 1) := by decide +kernel
theorem dX12_judged_33 : decode cX12_judged 33 = .ok (.bipush 6, 2) := by decide +kernel
theorem dX12_judged_35 : decode cX12_judged 35 = .ok (.if_icmp .ne 16, 3) := by decide +kernel
theorem dX12_judged_38 : decode cX12_judged 38 = .ok (.aload_n 0, 1) := by decide +kernel
theorem dX12_judged_39 : decode cX12_judged 39 = .ok (.getfield 9, 3) := by decide +kernel
theorem dX12_judged_42 : decode cX12_judged 42 = .ok (.sipush 1094, 3) := by decide +kernel
theorem dX12_judged_45 : decode cX12_judged 45 = .ok (.iload_n 1, 1) := by decide +kernel
theorem dX12_judged_46 : decode cX12_judged 46 = .ok (.iadd, 1) := by decide +kernel
theorem dX12_judged_47 : decode cX12_judged 47 = .ok (.iaload, 1) := by decide +kernel
theorem dX12_judged_48 : decode cX12_judged 48 = .ok (.ifCond .ne 6, 3) := by decide +kernel
theorem dX12_judged_51 : decode cX12_judged 51 = .ok (.bipush (-3), 2) := by decide +kernel
theorem dX12_judged_53 : decode cX12_judged 53 = .ok (.ireturn, 1) := by decide +kernel
theorem dX12_judged_54 : decode cX12_judged 54 = .ok (.iconst 0, 1) := by decide +kernel
theorem dX12_judged_55 : decode cX12_judged 55 = .ok (.istore_n 3, 1) := by decide +kernel
theorem dX12_judged_56 : decode cX12_judged 56 = .ok (.iload_n 3, 1) := by decide +kernel
theorem dX12_judged_57 : decode cX12_judged 57 = .ok (.bipush 8, 2) := by decide +kernel
theorem dX12_judged_59 : decode cX12_judged 59 = .ok (.if_icmp .ge 41, 3) := by decide +kernel
theorem dX12_judged_62 : decode cX12_judged 62 = .ok (.aload_n 0, 1) := by decide +kernel
theorem dX12_judged_63 : decode cX12_judged 63 = .ok (.getfield 48, 3) := by decide +kernel
theorem dX12_judged_66 : decode cX12_judged 66 = .ok (.iload_n 3, 1) := by decide +kernel
theorem dX12_judged_67 : decode cX12_judged 67 = .ok (.aload_n 0, 1) := by decide +kernel
theorem dX12_judged_68 : decode cX12_judged 68 = .ok (.getfield 9, 3) := by decide +kernel
theorem dX12_judged_71 : decode cX12_judged 71 = .ok (.sipush 1034, 3) := by decide +kernel
theorem dX12_judged_74 : decode cX12_judged 74 = .ok (.iload_n 3, 1) := by decide +kernel
theorem dX12_judged_75 : decode cX12_judged 75 = .ok (.iadd, 1) := by decide +kernel
theorem dX12_judged_76 : decode cX12_judged 76 = .ok (.iaload, 1) := by decide +kernel
theorem dX12_judged_77 : decode cX12_judged 77 = .ok (.iastore, 1) := by decide +kernel
theorem dX12_judged_78 : decode cX12_judged 78 = .ok (.aload_n 0, 1) := by decide +kernel
theorem dX12_judged_79 : decode cX12_judged 79 = .ok (.getfield 51, 3) := by decide +kernel
theorem dX12_judged_82 : decode cX12_judged 82 = .ok (.iload_n 3, 1) := by decide +kernel
theorem dX12_judged_83 : decode cX12_judged 83 = .ok (.aload_n 0, 1) := by decide +kernel
theorem dX12_judged_84 : decode cX12_judged 84 = .ok (.getfield 9, 3) := by decide +kernel
theorem dX12_judged_87 : decode cX12_judged 87 = .ok (.sipush 1042, 3) := by decide +kernel
theorem dX12_judged_90 : decode cX12_judged 90 = .ok (.iload_n 3, 1) := by decide +kernel
theorem dX12_judged_91 : decode cX12_judged 91 = .ok (.iadd, 1) := by decide +kernel
theorem dX12_judged_92 : decode cX12_judged 92 = .ok (.iaload, 1) := by decide +kernel
theorem dX12_judged_93 : decode cX12_judged 93 = .ok (.iastore, 1) := by decide +kernel
theorem dX12_judged_94 : decode cX12_judged 94 = .ok (.iinc 3 1, 3) := by decide +kernel
theorem dX12_judged_97 : decode cX12_judged 97 = .ok (.goto (-41), 3) := by decide +kernel
theorem dX12_judged_100 : decode cX12_judged 100 = .ok (.bipush (-5), 2) := by decide +kernel
theorem dX12_judged_102 : decode cX12_judged 102 = .ok (.istore_n 3, 1) := by decide +kernel
theorem dX12_judged_103 : decode cX12_judged 103 = .ok (.iconst 0, 1) := by decide +kernel
theorem dX12_judged_104 : decode cX12_judged 104 = .ok (.istore 4, 2) := by decide +kernel
theorem dX12_judged_106 : decode cX12_judged 106 = .ok (.iload 4, 2) := by decide +kernel
theorem dX12_judged_108 : decode cX12_judged 108 = .ok (.iload_n 2, 1) := by decide +kernel
theorem dX12_judged_109 : decode cX12_judged 109 = .ok (.if_icmp .ge 151, 3) := by decide +kernel
theorem dX12_judged_112 : decode cX12_judged 112 = .ok (.iload_n 3, 1) := by decide +kernel
theorem dX12_judged_113 : decode cX12_judged 113 = .ok (.bipush (-5), 2) := by decide +kernel
theorem dX12_judged_115 : decode cX12_judged 115 = .ok (.if_icmp .ne 145, 3) := by decide +kernel
theorem dX12_judged_118 : decode cX12_judged 118 = .ok (.aload_n 0, 1) := by decide +kernel
theorem dX12_judged_119 : decode cX12_judged 119 = .ok (.iload_n 1, 1) := by decide +kernel
theorem dX12_judged_120 : decode cX12_judged 120 = .ok (.aload_n 0, 1) := by decide +kernel
theorem dX12_judged_121 : decode cX12_judged 121 = .ok (.getfield 9, 3) := by decide +kernel
theorem dX12_judged_124 : decode cX12_judged 124 = .ok (.iconst 3, 1) := by decide +kernel
theorem dX12_judged_125 : decode cX12_judged 125 = .ok (.iaload, 1) := by decide +kernel
theorem dX12_judged_126 : decode cX12_judged 126 = .ok (.iload 4, 2) := by decide +kernel
theorem dX12_judged_128 : decode cX12_judged 128 = .ok (.iadd, 1) := by decide +kernel
theorem dX12_judged_129 : decode cX12_judged 129 = .ok (.invokevirtual 241, 3) := by decide +kernel
theorem dX12_judged_132 : decode cX12_judged 132 = .ok (.istore 5, 2) := by decide +kernel
theorem dX12_judged_134 : decode cX12_judged 134 = .ok (.iconst 0, 1) := by decide +kernel
theorem dX12_judged_135 : decode cX12_judged 135 = .ok (.istore 6, 2) := by decide +kernel
theorem dX12_judged_137 : decode cX12_judged 137 = .ok (.iload 6, 2) := by decide +kernel
theorem dX12_judged_139 : decode cX12_judged 139 = .ok (.iconst 1, 1) := by decide +kernel
theorem dX12_judged_140 : decode cX12_judged 140 = .ok (.aload_n 0, 1) := by decide +kernel
theorem dX12_judged_141 : decode cX12_judged 141 = .ok (.getfield 9, 3) := by decide +kernel
theorem dX12_judged_144 : decode cX12_judged 144 = .ok (.iconst 1, 1) := by decide +kernel
theorem dX12_judged_145 : decode cX12_judged 145 = .ok (.iaload, 1) := by decide +kernel
theorem dX12_judged_146 : decode cX12_judged 146 = .ok (.ishl, 1) := by decide +kernel
theorem dX12_judged_147 : decode cX12_judged 147 = .ok (.if_icmp .ge 44, 3) := by decide +kernel
theorem dX12_judged_150 : decode cX12_judged 150 = .ok (.iload 6, 2) := by decide +kernel
theorem dX12_judged_152 : decode cX12_judged 152 = .ok (.invokestatic 229, 3) := by decide +kernel
theorem dX12_judged_155 : decode cX12_judged 155 = .ok (.aload_n 0, 1) := by decide +kernel
theorem dX12_judged_156 : decode cX12_judged 156 = .ok (.invokevirtual 226, 3) := by decide +kernel
theorem dX12_judged_159 : decode cX12_judged 159 = .ok (.if_icmp .ne 24, 3) := by decide +kernel
theorem dX12_judged_162 : decode cX12_judged 162 = .ok (.aload_n 0, 1) := by decide +kernel
theorem dX12_judged_163 : decode cX12_judged 163 = .ok (.iload 6, 2) := by decide +kernel
theorem dX12_judged_165 : decode cX12_judged 165 = .ok (.invokevirtual 274, 3) := by decide +kernel
theorem dX12_judged_168 : decode cX12_judged 168 = .ok (.aload_n 0, 1) := by decide +kernel
theorem dX12_judged_169 : decode cX12_judged 169 = .ok (.iload 5, 2) := by decide +kernel
theorem dX12_judged_171 : decode cX12_judged 171 = .ok (.invokevirtual 274, 3) := by decide +kernel
theorem dX12_judged_174 : decode cX12_judged 174 = .ok (.lcmp, 1) := by decide +kernel
theorem dX12_judged_175 : decode cX12_judged 175 = .ok (.ifCond .le 8, 3) := by decide +kernel
theorem dX12_judged_178 : decode cX12_judged 178 = .ok (.iload 4, 2) := by decide +kernel
theorem dX12_judged_180 : decode cX12_judged 180 = .ok (.goto 4, 3) := by decide +kernel
theorem dX12_judged_183 : decode cX12_judged 183 = .ok (.iload_n 3, 1) := by decide +kernel
theorem dX12_judged_184 : decode cX12_judged 184 = .ok (.istore_n 3, 1) := by decide +kernel
theorem dX12_judged_185 : decode cX12_judged 185 = .ok (.iinc 6 1, 3) := by decide +kernel
theorem dX12_judged_188 : decode cX12_judged 188 = .ok (.goto (-51), 3) := by decide +kernel
theorem dX12_judged_191 : decode cX12_judged 191 = .ok (.iconst 0, 1) := by decide +kernel
theorem dX12_judged_192 : decode cX12_judged 192 = .ok (.istore 6, 2) := by decide +kernel
theorem dX12_judged_194 : decode cX12_judged 194 = .ok (.iload 6, 2) := by decide +kernel
theorem dX12_judged_196 : decode cX12_judged 196 = .ok (.aload_n 0, 1) := by decide +kernel
theorem dX12_judged_197 : decode cX12_judged 197 = .ok (.getfield 9, 3) := by decide +kernel
theorem dX12_judged_200 : decode cX12_judged 200 = .ok (.iconst 1, 1) := by decide +kernel
theorem dX12_judged_201 : decode cX12_judged 201 = .ok (.iaload, 1) := by decide +kernel
theorem dX12_judged_202 : decode cX12_judged 202 = .ok (.if_icmp .ge 48, 3) := by decide +kernel
theorem dX12_judged_205 : decode cX12_judged 205 = .ok (.iload 5, 2) := by decide +kernel
theorem dX12_judged_207 : decode cX12_judged 207 = .ok (.iload 6, 2) := by decide +kernel
theorem dX12_judged_209 : decode cX12_judged 209 = .ok (.ishr, 1) := by decide +kernel
theorem dX12_judged_210 : decode cX12_judged 210 = .ok (.iconst 1, 1) := by decide +kernel
theorem dX12_judged_211 : decode cX12_judged 211 = .ok (.iand, 1) := by decide +kernel
theorem dX12_judged_212 : decode cX12_judged 212 = .ok (.iconst 1, 1) := by decide +kernel
theorem dX12_judged_213 : decode cX12_judged 213 = .ok (.if_icmp .ne 31, 3) := by decide +kernel
theorem dX12_judged_216 : decode cX12_judged 216 = .ok (.aload_n 0, 1) := by decide +kernel
theorem dX12_judged_217 : decode cX12_judged 217 = .ok (.iload 6, 2) := by decide +kernel
theorem dX12_judged_219 : decode cX12_judged 219 = .ok (.aload_n 0, 1) := by decide +kernel
theorem dX12_judged_220 : decode cX12_judged 220 = .ok (.getfield 9, 3) := by decide +kernel
theorem dX12_judged_223 : decode cX12_judged 223 = .ok (.sipush 1034, 3) := by decide +kernel
theorem dX12_judged_226 : decode cX12_judged 226 = .ok (.iload 6, 2) := by decide +kernel
theorem dX12_judged_228 : decode cX12_judged 228 = .ok (.iadd, 1) := by decide +kernel
theorem dX12_judged_229 : decode cX12_judged 229 = .ok (.iaload, 1) := by decide +kernel
theorem dX12_judged_230 : decode cX12_judged 230 = .ok (.ldc_w 277, 3) := by decide +kernel
theorem dX12_judged_233 : decode cX12_judged 233 = .ok (.if_icmp .lt 7, 3) := by decide +kernel
theorem dX12_judged_236 : decode cX12_judged 236 = .ok (.iconst 1, 1) := by decide +kernel
theorem dX12_judged_237 : decode cX12_judged 237 = .ok (.goto 4, 3) := by decide +kernel
theorem dX12_judged_240 : decode cX12_judged 240 = .ok (.iconst 0, 1) := by decide +kernel
theorem dX12_judged_241 : decode cX12_judged 241 = .ok (.invokevirtual 278, 3) := by decide +kernel
theorem dX12_judged_244 : decode cX12_judged 244 = .ok (.iinc 6 1, 3) := by decide +kernel
theorem dX12_judged_247 : decode cX12_judged 247 = .ok (.goto (-53), 3) := by decide +kernel
theorem dX12_judged_250 : decode cX12_judged 250 = .ok (.aload_n 0, 1) := by decide +kernel
theorem dX12_judged_251 : decode cX12_judged 251 = .ok (.invokevirtual 181, 3) := by decide +kernel
theorem dX12_judged_254 : decode cX12_judged 254 = .ok (.iinc 4 1, 3) := by decide +kernel
theorem dX12_judged_257 : decode cX12_judged 257 = .ok (.goto (-151), 3) := by decide +kernel
theorem dX12_judged_260 : decode cX12_judged 260 = .ok (.iconst 0, 1) := by decide +kernel
theorem dX12_judged_261 : decode cX12_judged 261 = .ok (.istore 4, 2) := by decide +kernel
theorem dX12_judged_263 : decode cX12_judged 263 = .ok (.iload 4, 2) := by decide +kernel
theorem dX12_judged_265 : decode cX12_judged 265 = .ok (.bipush 8, 2) := by decide +kernel
theorem dX12_judged_267 : decode cX12_judged 267 = .ok (.if_icmp .ge 45, 3) := by decide +kernel
theorem dX12_judged_270 : decode cX12_judged 270 = .ok (.aload_n 0, 1) := by decide +kernel
theorem dX12_judged_271 : decode cX12_judged 271 = .ok (.getfield 9, 3) := by decide +kernel
theorem dX12_judged_274 : decode cX12_judged 274 = .ok (.sipush 1034, 3) := by decide +kernel
theorem dX12_judged_277 : decode cX12_judged 277 = .ok (.iload 4, 2) := by decide +kernel
theorem dX12_judged_279 : decode cX12_judged 279 = .ok (.iadd, 1) := by decide +kernel
theorem dX12_judged_280 : decode cX12_judged 280 = .ok (.aload_n 0, 1) := by decide +kernel
theorem dX12_judged_281 : decode cX12_judged 281 = .ok (.getfield 48, 3) := by decide +kernel
theorem dX12_judged_284 : decode cX12_judged 284 = .ok (.iload 4, 2) := by decide +kernel
theorem dX12_judged_286 : decode cX12_judged 286 = .ok (.iaload, 1) := by decide +kernel
theorem dX12_judged_287 : decode cX12_judged 287 = .ok (.iastore, 1) := by decide +kernel
theorem dX12_judged_288 : decode cX12_judged 288 = .ok (.aload_n 0, 1) := by decide +kernel
theorem dX12_judged_289 : decode cX12_judged 289 = .ok (.getfield 9, 3) := by decide +kernel
theorem dX12_judged_292 : decode cX12_judged 292 = .ok (.sipush 1042, 3) := by decide +kernel
theorem dX12_judged_295 : decode cX12_judged 295 = .ok (.iload 4, 2) := by decide +kernel
theorem dX12_judged_297 : decode cX12_judged 297 = .ok (.iadd, 1) := by decide +kernel
theorem dX12_judged_298 : decode cX12_judged 298 = .ok (.aload_n 0, 1) := by decide +kernel
theorem dX12_judged_299 : decode cX12_judged 299 = .ok (.getfield 51, 3) := by decide +kernel
theorem dX12_judged_302 : decode cX12_judged 302 = .ok (.iload 4, 2) := by decide +kernel
theorem dX12_judged_304 : decode cX12_judged 304 = .ok (.iaload, 1) := by decide +kernel
theorem dX12_judged_305 : decode cX12_judged 305 = .ok (.iastore, 1) := by decide +kernel
theorem dX12_judged_306 : decode cX12_judged 306 = .ok (.iinc 4 1, 3) := by decide +kernel
theorem dX12_judged_309 : decode cX12_judged 309 = .ok (.goto (-46), 3) := by decide +kernel
theorem dX12_judged_312 : decode cX12_judged 312 = .ok (.iload_n 3, 1) := by decide +kernel
theorem dX12_judged_313 : decode cX12_judged 313 = .ok (.ireturn, 1) := by decide +kernel
theorem dX12_lookNow_0 : decode cX12_lookNow 0 = .ok (.aload_n 0, 1) := by decide +kernel
theorem dX12_lookNow_1 : decode cX12_lookNow 1 = .ok (.getfield 9, 3) := by decide +kernel
theorem dX12_lookNow_4 : decode cX12_lookNow 4 = .ok (.sipush 1026, 3) := by decide +kernel
theorem dX12_lookNow_7 : decode cX12_lookNow 7 = .ok (.iload_n 1, 1) := by decide +kernel
theorem dX12_lookNow_8 : decode cX12_lookNow 8 = .ok (.iadd, 1) := by decide +kernel
theorem dX12_lookNow_9 : decode cX12_lookNow 9 = .ok (.iaload, 1) := by decide +kernel
theorem dX12_lookNow_10 : decode cX12_lookNow 10 = .ok (.iconst 1, 1) := by decide +kernel
theorem dX12_lookNow_11 : decode cX12_lookNow 11 = .ok (.if_icmp .ne 7, 3) := by decide +kernel
theorem dX12_lookNow_14 : decode cX12_lookNow 14 = .ok (.iconst 1, 1) := by decide +kernel
theorem dX12_lookNow_15 : decode cX12_lookNow 15 = .ok (.goto 4, 3) := by decide +kernel
theorem dX12_lookNow_18 : decode cX12_lookNow 18 = .ok (.iconst 0, 1) := by decide +kernel
theorem dX12_lookNow_19 : decode cX12_lookNow 19 = .ok (.istore_n 2, 1) := by decide +kernel
theorem dX12_lookNow_20 : decode cX12_lookNow 20 = .ok (.aload_n 0, 1) := by decide +kernel
theorem dX12_lookNow_21 : decode cX12_lookNow 21 = .ok (.getfield 9, 3) := by decide +kernel
theorem dX12_lookNow_24 : decode cX12_lookNow 24 = .ok (.iload_n 2, 1) := by decide +kernel
theorem dX12_lookNow_25 : decode cX12_lookNow 25 = .ok (.ifCond .eq 11, 3) := by decide +kernel
theorem dX12_lookNow_28 : decode cX12_lookNow 28 = .ok (.sipush 1050, 3) := by decide +kernel
theorem dX12_lookNow_31 : decode cX12_lookNow 31 = .ok (.iload_n 1, 1) := by decide +kernel
theorem dX12_lookNow_32 : decode cX12_lookNow 32 = .ok (.iadd, 1) := by decide +kernel
theorem dX12_lookNow_33 : decode cX12_lookNow 33 = .ok (.goto 8, 3) := by decide +kernel
theorem dX12_lookNow_36 : decode cX12_lookNow 36 = .ok (.sipush 1058, 3) := by decide +kernel
theorem dX12_lookNow_39 : decode cX12_lookNow 39 = .ok (.iload_n 1, 1) := by decide +kernel
theorem dX12_lookNow_40 : decode cX12_lookNow 40 = .ok (.iadd, 1) := by decide +kernel
theorem dX12_lookNow_41 : decode cX12_lookNow 41 = .ok (.dup2, 1) := by decide +kernel
theorem dX12_lookNow_42 : decode cX12_lookNow 42 = .ok (.iaload, 1) := by decide +kernel
theorem dX12_lookNow_43 : decode cX12_lookNow 43 = .ok (.iconst 1, 1) := by decide +kernel
theorem dX12_lookNow_44 : decode cX12_lookNow 44 = .ok (.iadd, 1) := by decide +kernel
theorem dX12_lookNow_45 : decode cX12_lookNow 45 = .ok (.iastore, 1) := by decide +kernel
theorem dX12_lookNow_46 : decode cX12_lookNow 46 = .ok (.iload_n 2, 1) := by decide +kernel
theorem dX12_lookNow_47 : decode cX12_lookNow 47 = .ok (.ifCond .eq 7, 3) := by decide +kernel
theorem dX12_lookNow_50 : decode cX12_lookNow 50 = .ok (.iconst 0, 1) := by decide +kernel
theorem dX12_lookNow_51 : decode cX12_lookNow 51 = .ok (.goto 9, 3) := by decide +kernel
theorem dX12_lookNow_54 : decode cX12_lookNow 54 = .ok (.aload_n 0, 1) := by decide +kernel
theorem dX12_lookNow_55 : decode cX12_lookNow 55 = .ok (.iload_n 1, 1) := by decide +kernel
theorem dX12_lookNow_56 : decode cX12_lookNow 56 = .ok (.iconst 3, 1) := by decide +kernel
theorem dX12_lookNow_57 : decode cX12_lookNow 57 = .ok (.invokevirtual 184, 3) := by decide +kernel
theorem dX12_lookNow_60 : decode cX12_lookNow 60 = .ok (.istore_n 3, 1) := by decide +kernel
theorem dX12_lookNow_61 : decode cX12_lookNow 61 = .ok (.aload_n 0, 1) := by decide +kernel
theorem dX12_lookNow_62 : decode cX12_lookNow 62 = .ok (.iload_n 1, 1) := by decide +kernel
theorem dX12_lookNow_63 : decode cX12_lookNow 63 = .ok (.iload_n 2, 1) := by decide +kernel
theorem dX12_lookNow_64 : decode cX12_lookNow 64 = .ok (.invokevirtual 278, 3) := by decide +kernel
theorem dX12_lookNow_67 : decode cX12_lookNow 67 = .ok (.aload_n 0, 1) := by decide +kernel
theorem dX12_lookNow_68 : decode cX12_lookNow 68 = .ok (.getfield 9, 3) := by decide +kernel
theorem dX12_lookNow_71 : decode cX12_lookNow 71 = .ok (.sipush 1026, 3) := by decide +kernel
theorem dX12_lookNow_74 : decode cX12_lookNow 74 = .ok (.iload_n 1, 1) := by decide +kernel
theorem dX12_lookNow_75 : decode cX12_lookNow 75 = .ok (.iadd, 1) := by decide +kernel
theorem dX12_lookNow_76 : decode cX12_lookNow 76 = .ok (.iload_n 2, 1) := by decide +kernel
theorem dX12_lookNow_77 : decode cX12_lookNow 77 = .ok (.ifCond .ne 7, 3) := by decide +kernel
theorem dX12_lookNow_80 : decode cX12_lookNow 80 = .ok (.iload_n 3, 1) := by decide +kernel
theorem dX12_lookNow_81 : decode cX12_lookNow 81 = .ok (.ifCond .le 7, 3) := by decide +kernel
theorem dX12_lookNow_84 : decode cX12_lookNow 84 = .ok (.iconst 1, 1) := by decide +kernel
theorem dX12_lookNow_85 : decode cX12_lookNow 85 = .ok (.goto 4, 3) := by decide +kernel
theorem dX12_lookNow_88 : decode cX12_lookNow 88 = .ok (.iconst 0, 1) := by decide +kernel
theorem dX12_lookNow_89 : decode cX12_lookNow 89 = .ok (.iastore, 1) := by decide +kernel
theorem dX12_lookNow_90 : decode cX12_lookNow 90 = .ok (.ldc2_w 272, 3) := by decide +kernel
theorem dX12_lookNow_93 : decode cX12_lookNow 93 = .ok (.aload_n 0, 1) := by decide +kernel
theorem dX12_lookNow_94 : decode cX12_lookNow 94 = .ok (.iload_n 1, 1) := by decide +kernel
theorem dX12_lookNow_95 : decode cX12_lookNow 95 = .ok (.iconst 2, 1) := by decide +kernel
theorem dX12_lookNow_96 : decode cX12_lookNow 96 = .ok (.invokevirtual 184, 3) := by decide +kernel
theorem dX12_lookNow_99 : decode cX12_lookNow 99 = .ok (.iload_n 3, 1) := by decide +kernel
theorem dX12_lookNow_100 : decode cX12_lookNow 100 = .ok (.iadd, 1) := by decide +kernel
theorem dX12_lookNow_101 : decode cX12_lookNow 101 = .ok (.i2l, 1) := by decide +kernel
theorem dX12_lookNow_102 : decode cX12_lookNow 102 = .ok (.lmul, 1) := by decide +kernel
theorem dX12_lookNow_103 : decode cX12_lookNow 103 = .ok (.lreturn, 1) := by decide +kernel
theorem dX12_turns_0 : decode cX12_turns 0 = .ok (.bipush 31, 2) := by decide +kernel
theorem dX12_turns_2 : decode cX12_turns 2 = .ok (.iload_n 2, 1) := by decide +kernel
theorem dX12_turns_3 : decode cX12_turns 3 = .ok (.imul, 1) := by decide +kernel
theorem dX12_turns_4 : decode cX12_turns 4 = .ok (.bipush 17, 2) := by decide +kernel
theorem dX12_turns_6 : decode cX12_turns 6 = .ok (.aload_n 0, 1) := by decide +kernel
theorem dX12_turns_7 : decode cX12_turns 7 = .ok (.getfield 9, 3) := by decide +kernel
theorem dX12_turns_10 : decode cX12_turns 10 = .ok (.iconst 3, 1) := by decide +kernel
theorem dX12_turns_11 : decode cX12_turns 11 = .ok (.iaload, 1) := by decide +kernel
theorem dX12_turns_12 : decode cX12_turns 12 = .ok (.imul, 1) := by decide +kernel
theorem dX12_turns_13 : decode cX12_turns 13 = .ok (.iadd, 1) := by decide +kernel
theorem dX12_turns_14 : decode cX12_turns 14 = .ok (.bipush 7, 2) := by decide +kernel
theorem dX12_turns_16 : decode cX12_turns 16 = .ok (.iload_n 1, 1) := by decide +kernel
theorem dX12_turns_17 : decode cX12_turns 17 = .ok (.imul, 1) := by decide +kernel
theorem dX12_turns_18 : decode cX12_turns 18 = .ok (.iadd, 1) := by decide +kernel
theorem dX12_turns_19 : decode cX12_turns 19 = .ok (.bipush 13, 2) := by decide +kernel
theorem dX12_turns_21 : decode cX12_turns 21 = .ok (.iadd, 1) := by decide +kernel
theorem dX12_turns_22 : decode cX12_turns 22 = .ok (.bipush 7, 2) := by decide +kernel
theorem dX12_turns_24 : decode cX12_turns 24 = .ok (.imul, 1) := by decide +kernel
theorem dX12_turns_25 : decode cX12_turns 25 = .ok (.sipush 1000, 3) := by decide +kernel
theorem dX12_turns_28 : decode cX12_turns 28 = .ok (.irem, 1) := by decide +kernel
theorem dX12_turns_29 : decode cX12_turns 29 = .ok (.istore_n 3, 1) := by decide +kernel
theorem dX12_turns_30 : decode cX12_turns 30 = .ok (.aload_n 0, 1) := by decide +kernel
theorem dX12_turns_31 : decode cX12_turns 31 = .ok (.getfield 9, 3) := by decide +kernel
theorem dX12_turns_34 : decode cX12_turns 34 = .ok (.sipush 1026, 3) := by decide +kernel
theorem dX12_turns_37 : decode cX12_turns 37 = .ok (.iload_n 1, 1) := by decide +kernel
theorem dX12_turns_38 : decode cX12_turns 38 = .ok (.iadd, 1) := by decide +kernel
theorem dX12_turns_39 : decode cX12_turns 39 = .ok (.iaload, 1) := by decide +kernel
theorem dX12_turns_40 : decode cX12_turns 40 = .ok (.iconst 1, 1) := by decide +kernel
theorem dX12_turns_41 : decode cX12_turns 41 = .ok (.if_icmp .ne 7, 3) := by decide +kernel
theorem dX12_turns_44 : decode cX12_turns 44 = .ok (.iconst 1, 1) := by decide +kernel
theorem dX12_turns_45 : decode cX12_turns 45 = .ok (.goto 4, 3) := by decide +kernel
theorem dX12_turns_48 : decode cX12_turns 48 = .ok (.iconst 0, 1) := by decide +kernel
theorem dX12_turns_49 : decode cX12_turns 49 = .ok (.istore 4, 2) := by decide +kernel
theorem dX12_turns_51 : decode cX12_turns 51 = .ok (.iload_n 3, 1) := by decide +kernel
theorem dX12_turns_52 : decode cX12_turns 52 = .ok (.iload 4, 2) := by decide +kernel
theorem dX12_turns_54 : decode cX12_turns 54 = .ok (.ifCond .eq 21, 3) := by decide +kernel
theorem dX12_turns_57 : decode cX12_turns 57 = .ok (.aload_n 0, 1) := by decide +kernel
theorem dX12_turns_58 : decode cX12_turns 58 = .ok (.iload_n 1, 1) := by decide +kernel
theorem dX12_turns_59 : decode cX12_turns 59 = .ok (.aload_n 0, 1) := by decide +kernel
theorem dX12_turns_60 : decode cX12_turns 60 = .ok (.getfield 9, 3) := by decide +kernel
theorem dX12_turns_63 : decode cX12_turns 63 = .ok (.sipush 1042, 3) := by decide +kernel
theorem dX12_turns_66 : decode cX12_turns 66 = .ok (.iload_n 1, 1) := by decide +kernel
theorem dX12_turns_67 : decode cX12_turns 67 = .ok (.iadd, 1) := by decide +kernel
theorem dX12_turns_68 : decode cX12_turns 68 = .ok (.iaload, 1) := by decide +kernel
theorem dX12_turns_69 : decode cX12_turns 69 = .ok (.invokevirtual 164, 3) := by decide +kernel
theorem dX12_turns_72 : decode cX12_turns 72 = .ok (.goto 18, 3) := by decide +kernel
theorem dX12_turns_75 : decode cX12_turns 75 = .ok (.aload_n 0, 1) := by decide +kernel
theorem dX12_turns_76 : decode cX12_turns 76 = .ok (.iload_n 1, 1) := by decide +kernel
theorem dX12_turns_77 : decode cX12_turns 77 = .ok (.aload_n 0, 1) := by decide +kernel
theorem dX12_turns_78 : decode cX12_turns 78 = .ok (.getfield 9, 3) := by decide +kernel
theorem dX12_turns_81 : decode cX12_turns 81 = .ok (.sipush 1042, 3) := by decide +kernel
theorem dX12_turns_84 : decode cX12_turns 84 = .ok (.iload_n 1, 1) := by decide +kernel
theorem dX12_turns_85 : decode cX12_turns 85 = .ok (.iadd, 1) := by decide +kernel
theorem dX12_turns_86 : decode cX12_turns 86 = .ok (.iaload, 1) := by decide +kernel
theorem dX12_turns_87 : decode cX12_turns 87 = .ok (.invokevirtual 170, 3) := by decide +kernel
theorem dX12_turns_90 : decode cX12_turns 90 = .ok (.if_icmp .ge 7, 3) := by decide +kernel
theorem dX12_turns_93 : decode cX12_turns 93 = .ok (.iconst 1, 1) := by decide +kernel
theorem dX12_turns_94 : decode cX12_turns 94 = .ok (.goto 4, 3) := by decide +kernel
theorem dX12_turns_97 : decode cX12_turns 97 = .ok (.iconst 0, 1) := by decide +kernel
theorem dX12_turns_98 : decode cX12_turns 98 = .ok (.istore 5, 2) := by decide +kernel
theorem dX12_turns_100 : decode cX12_turns 100 = .ok (.aload_n 0, 1) := by decide +kernel
theorem dX12_turns_101 : decode cX12_turns 101 = .ok (.getfield 9, 3) := by decide +kernel
theorem dX12_turns_104 : decode cX12_turns 104 = .ok (.sipush 1026, 3) := by decide +kernel
theorem dX12_turns_107 : decode cX12_turns 107 = .ok (.iload_n 1, 1) := by decide +kernel
theorem dX12_turns_108 : decode cX12_turns 108 = .ok (.iadd, 1) := by decide +kernel
theorem dX12_turns_109 : decode cX12_turns 109 = .ok (.iload 4, 2) := by decide +kernel
theorem dX12_turns_111 : decode cX12_turns 111 = .ok (.iload 5, 2) := by decide +kernel
theorem dX12_turns_113 : decode cX12_turns 113 = .ok (.if_icmp .eq 7, 3) := by decide +kernel
theorem dX12_turns_116 : decode cX12_turns 116 = .ok (.iconst 1, 1) := by decide +kernel
theorem dX12_turns_117 : decode cX12_turns 117 = .ok (.goto 4, 3) := by decide +kernel
theorem dX12_turns_120 : decode cX12_turns 120 = .ok (.iconst 0, 1) := by decide +kernel
theorem dX12_turns_121 : decode cX12_turns 121 = .ok (.iastore, 1) := by decide +kernel
theorem dX12_turns_122 : decode cX12_turns 122 = .ok (.return_, 1) := by decide +kernel
theorem dX12_run_0 : decode cX12_run 0 = .ok (.aload_n 0, 1) := by decide +kernel
theorem dX12_run_1 : decode cX12_run 1 = .ok (.iload_n 1, 1) := by decide +kernel
theorem dX12_run_2 : decode cX12_run 2 = .ok (.invokevirtual 220, 3) := by decide +kernel
theorem dX12_run_5 : decode cX12_run 5 = .ok (.ifCond .eq 38, 3) := by decide +kernel
theorem dX12_run_8 : decode cX12_run 8 = .ok (.iload_n 2, 1) := by decide +kernel
theorem dX12_run_9 : decode cX12_run 9 = .ok (.iconst 1, 1) := by decide +kernel
theorem dX12_run_10 : decode cX12_run 10 = .ok (.bipush 30, 2) := by decide +kernel
theorem dX12_run_12 : decode cX12_run 12 = .ok (.invokestatic 69, 3) := by decide +kernel
theorem dX12_run_15 : decode cX12_run 15 = .ok (.ifCond .eq 28, 3) := by decide +kernel
theorem dX12_run_18 : decode cX12_run 18 = .ok (.iload_n 3, 1) := by decide +kernel
theorem dX12_run_19 : decode cX12_run 19 = .ok (.iconst 0, 1) := by decide +kernel
theorem dX12_run_20 : decode cX12_run 20 = .ok (.sipush 999, 3) := by decide +kernel
theorem dX12_run_23 : decode cX12_run 23 = .ok (.invokestatic 69, 3) := by decide +kernel
theorem dX12_run_26 : decode cX12_run 26 = .ok (.ifCond .eq 17, 3) := by decide +kernel
theorem dX12_run_29 : decode cX12_run 29 = .ok (.aload_n 0, 1) := by decide +kernel
theorem dX12_run_30 : decode cX12_run 30 = .ok (.getfield 9, 3) := by decide +kernel
theorem dX12_run_33 : decode cX12_run 33 = .ok (.iconst 3, 1) := by decide +kernel
theorem dX12_run_34 : decode cX12_run 34 = .ok (.iaload, 1) := by decide +kernel
theorem dX12_run_35 : decode cX12_run 35 = .ok (.iload_n 2, 1) := by decide +kernel
theorem dX12_run_36 : decode cX12_run 36 = .ok (.iadd, 1) := by decide +kernel
theorem dX12_run_37 : decode cX12_run 37 = .ok (.sipush 999, 3) := by decide +kernel
theorem dX12_run_40 : decode cX12_run 40 = .ok (.if_icmp .le 7, 3) := by decide +kernel
theorem dX12_run_43 : decode cX12_run 43 = .ok (.ldc2_w 205, 3) := by decide +kernel
theorem dX12_run_46 : decode cX12_run 46 = .ok (.lreturn, 1) := by decide +kernel
theorem dX12_run_47 : decode cX12_run 47 = .ok (.lconst 0, 1) := by decide +kernel
theorem dX12_run_48 : decode cX12_run 48 = .ok (.lstore 4, 2) := by decide +kernel
theorem dX12_run_50 : decode cX12_run 50 = .ok (.iconst 0, 1) := by decide +kernel
theorem dX12_run_51 : decode cX12_run 51 = .ok (.istore 6, 2) := by decide +kernel
theorem dX12_run_53 : decode cX12_run 53 = .ok (.iload 6, 2) := by decide +kernel
theorem dX12_run_55 : decode cX12_run 55 = .ok (.iload_n 2, 1) := by decide +kernel
theorem dX12_run_56 : decode cX12_run 56 = .ok (.if_icmp .ge 176, 3) := by decide +kernel
theorem dX12_run_59 : decode cX12_run 59 = .ok (.aload_n 0, 1) := by decide +kernel
theorem dX12_run_60 : decode cX12_run 60 = .ok (.iload_n 1, 1) := by decide +kernel
theorem dX12_run_61 : decode cX12_run 61 = .ok (.aload_n 0, 1) := by decide +kernel
theorem dX12_run_62 : decode cX12_run 62 = .ok (.getfield 9, 3) := by decide +kernel
theorem dX12_run_65 : decode cX12_run 65 = .ok (.iconst 3, 1) := by decide +kernel
theorem dX12_run_66 : decode cX12_run 66 = .ok (.iaload, 1) := by decide +kernel
theorem dX12_run_67 : decode cX12_run 67 = .ok (.invokevirtual 241, 3) := by decide +kernel
theorem dX12_run_70 : decode cX12_run 70 = .ok (.istore 7, 2) := by decide +kernel
theorem dX12_run_72 : decode cX12_run 72 = .ok (.iconst 0, 1) := by decide +kernel
theorem dX12_run_73 : decode cX12_run 73 = .ok (.istore 8, 2) := by decide +kernel
theorem dX12_run_75 : decode cX12_run 75 = .ok (.iload 8, 2) := by decide +kernel
theorem dX12_run_77 : decode cX12_run 77 = .ok (.aload_n 0, 1) := by decide +kernel
theorem dX12_run_78 : decode cX12_run 78 = .ok (.getfield 9, 3) := by decide +kernel
theorem dX12_run_81 : decode cX12_run 81 = .ok (.iconst 1, 1) := by decide +kernel
theorem dX12_run_82 : decode cX12_run 82 = .ok (.iaload, 1) := by decide +kernel
theorem dX12_run_83 : decode cX12_run 83 = .ok (.if_icmp .ge 56, 3) := by decide +kernel
theorem dX12_run_86 : decode cX12_run 86 = .ok (.lload 4, 2) := by decide +kernel
theorem dX12_run_88 : decode cX12_run 88 = .ok (.aload_n 0, 1) := by decide +kernel
theorem dX12_run_89 : decode cX12_run 89 = .ok (.getfield 9, 3) := by decide +kernel
theorem dX12_run_92 : decode cX12_run 92 = .ok (.sipush 1026, 3) := by decide +kernel
theorem dX12_run_95 : decode cX12_run 95 = .ok (.iload 8, 2) := by decide +kernel
theorem dX12_run_97 : decode cX12_run 97 = .ok (.iadd, 1) := by decide +kernel
theorem dX12_run_98 : decode cX12_run 98 = .ok (.iaload, 1) := by decide +kernel
theorem dX12_run_99 : decode cX12_run 99 = .ok (.iconst 1, 1) := by decide +kernel
theorem dX12_run_100 : decode cX12_run 100 = .ok (.if_icmp .ne 18, 3) := by decide +kernel
theorem dX12_run_103 : decode cX12_run 103 = .ok (.ldc2_w 168, 3) := by decide +kernel
theorem dX12_run_106 : decode cX12_run 106 = .ok (.aload_n 0, 1) := by decide +kernel
theorem dX12_run_107 : decode cX12_run 107 = .ok (.iload 8, 2) := by decide +kernel
theorem dX12_run_109 : decode cX12_run 109 = .ok (.iconst 0, 1) := by decide +kernel
theorem dX12_run_110 : decode cX12_run 110 = .ok (.invokevirtual 184, 3) := by decide +kernel
theorem dX12_run_113 : decode cX12_run 113 = .ok (.i2l, 1) := by decide +kernel
theorem dX12_run_114 : decode cX12_run 114 = .ok (.lmul, 1) := by decide +kernel
theorem dX12_run_115 : decode cX12_run 115 = .ok (.goto 15, 3) := by decide +kernel
theorem dX12_run_118 : decode cX12_run 118 = .ok (.ldc2_w 272, 3) := by decide +kernel
theorem dX12_run_121 : decode cX12_run 121 = .ok (.aload_n 0, 1) := by decide +kernel
theorem dX12_run_122 : decode cX12_run 122 = .ok (.iload 8, 2) := by decide +kernel
theorem dX12_run_124 : decode cX12_run 124 = .ok (.iconst 1, 1) := by decide +kernel
theorem dX12_run_125 : decode cX12_run 125 = .ok (.invokevirtual 184, 3) := by decide +kernel
theorem dX12_run_128 : decode cX12_run 128 = .ok (.i2l, 1) := by decide +kernel
theorem dX12_run_129 : decode cX12_run 129 = .ok (.lmul, 1) := by decide +kernel
theorem dX12_run_130 : decode cX12_run 130 = .ok (.ladd, 1) := by decide +kernel
theorem dX12_run_131 : decode cX12_run 131 = .ok (.lstore 4, 2) := by decide +kernel
theorem dX12_run_133 : decode cX12_run 133 = .ok (.iinc 8 1, 3) := by decide +kernel
theorem dX12_run_136 : decode cX12_run 136 = .ok (.goto (-61), 3) := by decide +kernel
theorem dX12_run_139 : decode cX12_run 139 = .ok (.iconst 0, 1) := by decide +kernel
theorem dX12_run_140 : decode cX12_run 140 = .ok (.istore 8, 2) := by decide +kernel
theorem dX12_run_142 : decode cX12_run 142 = .ok (.iload 8, 2) := by decide +kernel
theorem dX12_run_144 : decode cX12_run 144 = .ok (.aload_n 0, 1) := by decide +kernel
theorem dX12_run_145 : decode cX12_run 145 = .ok (.getfield 9, 3) := by decide +kernel
theorem dX12_run_148 : decode cX12_run 148 = .ok (.iconst 1, 1) := by decide +kernel
theorem dX12_run_149 : decode cX12_run 149 = .ok (.iaload, 1) := by decide +kernel
theorem dX12_run_150 : decode cX12_run 150 = .ok (.if_icmp .ge 35, 3) := by decide +kernel
theorem dX12_run_153 : decode cX12_run 153 = .ok (.lload 4, 2) := by decide +kernel
theorem dX12_run_155 : decode cX12_run 155 = .ok (.iload 7, 2) := by decide +kernel
theorem dX12_run_157 : decode cX12_run 157 = .ok (.iload 8, 2) := by decide +kernel
theorem dX12_run_159 : decode cX12_run 159 = .ok (.ishr, 1) := by decide +kernel
theorem dX12_run_160 : decode cX12_run 160 = .ok (.iconst 1, 1) := by decide +kernel
theorem dX12_run_161 : decode cX12_run 161 = .ok (.iand, 1) := by decide +kernel
theorem dX12_run_162 : decode cX12_run 162 = .ok (.iconst 1, 1) := by decide +kernel
theorem dX12_run_163 : decode cX12_run 163 = .ok (.if_icmp .ne 12, 3) := by decide +kernel
theorem dX12_run_166 : decode cX12_run 166 = .ok (.aload_n 0, 1) := by decide +kernel
theorem dX12_run_167 : decode cX12_run 167 = .ok (.iload 8, 2) := by decide +kernel
theorem dX12_run_169 : decode cX12_run 169 = .ok (.invokevirtual 282, 3) := by decide +kernel
theorem dX12_run_172 : decode cX12_run 172 = .ok (.goto 4, 3) := by decide +kernel
theorem dX12_run_175 : decode cX12_run 175 = .ok (.lconst 0, 1) := by decide +kernel
theorem dX12_run_176 : decode cX12_run 176 = .ok (.ladd, 1) := by decide +kernel
theorem dX12_run_177 : decode cX12_run 177 = .ok (.lstore 4, 2) := by decide +kernel
theorem dX12_run_179 : decode cX12_run 179 = .ok (.iinc 8 1, 3) := by decide +kernel
theorem dX12_run_182 : decode cX12_run 182 = .ok (.goto (-40), 3) := by decide +kernel
theorem dX12_run_185 : decode cX12_run 185 = .ok (.iconst 0, 1) := by decide +kernel
theorem dX12_run_186 : decode cX12_run 186 = .ok (.istore 8, 2) := by decide +kernel
theorem dX12_run_188 : decode cX12_run 188 = .ok (.iload 8, 2) := by decide +kernel
theorem dX12_run_190 : decode cX12_run 190 = .ok (.aload_n 0, 1) := by decide +kernel
theorem dX12_run_191 : decode cX12_run 191 = .ok (.getfield 9, 3) := by decide +kernel
theorem dX12_run_194 : decode cX12_run 194 = .ok (.iconst 1, 1) := by decide +kernel
theorem dX12_run_195 : decode cX12_run 195 = .ok (.iaload, 1) := by decide +kernel
theorem dX12_run_196 : decode cX12_run 196 = .ok (.if_icmp .ge 16, 3) := by decide +kernel
theorem dX12_run_199 : decode cX12_run 199 = .ok (.aload_n 0, 1) := by decide +kernel
theorem dX12_run_200 : decode cX12_run 200 = .ok (.iload 8, 2) := by decide +kernel
theorem dX12_run_202 : decode cX12_run 202 = .ok (.iload_n 3, 1) := by decide +kernel
theorem dX12_run_203 : decode cX12_run 203 = .ok (.invokevirtual 285, 3) := by decide +kernel
theorem dX12_run_206 : decode cX12_run 206 = .ok (.iinc 8 1, 3) := by decide +kernel
theorem dX12_run_209 : decode cX12_run 209 = .ok (.goto (-21), 3) := by decide +kernel
theorem dX12_run_212 : decode cX12_run 212 = .ok (.aload_n 0, 1) := by decide +kernel
theorem dX12_run_213 : decode cX12_run 213 = .ok (.invokevirtual 181, 3) := by decide +kernel
theorem dX12_run_216 : decode cX12_run 216 = .ok (.aload_n 0, 1) := by decide +kernel
theorem dX12_run_217 : decode cX12_run 217 = .ok (.getfield 9, 3) := by decide +kernel
theorem dX12_run_220 : decode cX12_run 220 = .ok (.iconst 3, 1) := by decide +kernel
theorem dX12_run_221 : decode cX12_run 221 = .ok (.dup2, 1) := by decide +kernel
theorem dX12_run_222 : decode cX12_run 222 = .ok (.iaload, 1) := by decide +kernel
theorem dX12_run_223 : decode cX12_run 223 = .ok (.iconst 1, 1) := by decide +kernel
theorem dX12_run_224 : decode cX12_run 224 = .ok (.iadd, 1) := by decide +kernel
theorem dX12_run_225 : decode cX12_run 225 = .ok (.iastore, 1) := by decide +kernel
theorem dX12_run_226 : decode cX12_run 226 = .ok (.iinc 6 1, 3) := by decide +kernel
theorem dX12_run_229 : decode cX12_run 229 = .ok (.goto (-176), 3) := by decide +kernel
theorem dX12_run_232 : decode cX12_run 232 = .ok (.lload 4, 2) := by decide +kernel
theorem dX12_run_234 : decode cX12_run 234 = .ok (.lreturn, 1) := by decide +kernel
theorem dX12_round_0 : decode cX12_round 0 = .ok (.iload_n 1, 1) := by decide +kernel
theorem dX12_round_1 : decode cX12_round 1 = .ok (.iconst 1, 1) := by decide +kernel
theorem dX12_round_2 : decode cX12_round 2 = .ok (.iconst 3, 1) := by decide +kernel
theorem dX12_round_3 : decode cX12_round 3 = .ok (.invokestatic 69, 3) := by decide +kernel
theorem dX12_round_6 : decode cX12_round 6 = .ok (.ifCond .eq 23, 3) := by decide +kernel
theorem dX12_round_9 : decode cX12_round 9 = .ok (.iload_n 2, 1) := by decide +kernel
theorem dX12_round_10 : decode cX12_round 10 = .ok (.iconst (-1), 1) := by decide +kernel
theorem dX12_round_11 : decode cX12_round 11 = .ok (.iload_n 1, 1) := by decide +kernel
theorem dX12_round_12 : decode cX12_round 12 = .ok (.iconst 1, 1) := by decide +kernel
theorem dX12_round_13 : decode cX12_round 13 = .ok (.isub, 1) := by decide +kernel
theorem dX12_round_14 : decode cX12_round 14 = .ok (.invokestatic 69, 3) := by decide +kernel
theorem dX12_round_17 : decode cX12_round 17 = .ok (.ifCond .eq 12, 3) := by decide +kernel
theorem dX12_round_20 : decode cX12_round 20 = .ok (.aload_n 0, 1) := by decide +kernel
theorem dX12_round_21 : decode cX12_round 21 = .ok (.getfield 9, 3) := by decide +kernel
theorem dX12_round_24 : decode cX12_round 24 = .ok (.iconst 1, 1) := by decide +kernel
theorem dX12_round_25 : decode cX12_round 25 = .ok (.iaload, 1) := by decide +kernel
theorem dX12_round_26 : decode cX12_round 26 = .ok (.ifCond .ne 7, 3) := by decide +kernel
theorem dX12_round_29 : decode cX12_round 29 = .ok (.ldc2_w 205, 3) := by decide +kernel
theorem dX12_round_32 : decode cX12_round 32 = .ok (.lreturn, 1) := by decide +kernel
theorem dX12_round_33 : decode cX12_round 33 = .ok (.iconst 1, 1) := by decide +kernel
theorem dX12_round_34 : decode cX12_round 34 = .ok (.istore_n 3, 1) := by decide +kernel
theorem dX12_round_35 : decode cX12_round 35 = .ok (.iconst 0, 1) := by decide +kernel
theorem dX12_round_36 : decode cX12_round 36 = .ok (.istore 4, 2) := by decide +kernel
theorem dX12_round_38 : decode cX12_round 38 = .ok (.iload 4, 2) := by decide +kernel
theorem dX12_round_40 : decode cX12_round 40 = .ok (.iload_n 1, 1) := by decide +kernel
theorem dX12_round_41 : decode cX12_round 41 = .ok (.if_icmp .ge 18, 3) := by decide +kernel
theorem dX12_round_44 : decode cX12_round 44 = .ok (.iload_n 3, 1) := by decide +kernel
theorem dX12_round_45 : decode cX12_round 45 = .ok (.aload_n 0, 1) := by decide +kernel
theorem dX12_round_46 : decode cX12_round 46 = .ok (.getfield 9, 3) := by decide +kernel
theorem dX12_round_49 : decode cX12_round 49 = .ok (.iconst 1, 1) := by decide +kernel
theorem dX12_round_50 : decode cX12_round 50 = .ok (.iaload, 1) := by decide +kernel
theorem dX12_round_51 : decode cX12_round 51 = .ok (.imul, 1) := by decide +kernel
theorem dX12_round_52 : decode cX12_round 52 = .ok (.istore_n 3, 1) := by decide +kernel
theorem dX12_round_53 : decode cX12_round 53 = .ok (.iinc 4 1, 3) := by decide +kernel
theorem dX12_round_56 : decode cX12_round 56 = .ok (.goto (-18), 3) := by decide +kernel
theorem dX12_round_59 : decode cX12_round 59 = .ok (.lconst 0, 1) := by decide +kernel
theorem dX12_round_60 : decode cX12_round 60 = .ok (.lstore 4, 2) := by decide +kernel
theorem dX12_round_62 : decode cX12_round 62 = .ok (.iconst 0, 1) := by decide +kernel
theorem dX12_round_63 : decode cX12_round 63 = .ok (.istore 6, 2) := by decide +kernel
theorem dX12_round_65 : decode cX12_round 65 = .ok (.iload 6, 2) := by decide +kernel
theorem dX12_round_67 : decode cX12_round 67 = .ok (.iload_n 3, 1) := by decide +kernel
theorem dX12_round_68 : decode cX12_round 68 = .ok (.if_icmp .ge 121, 3) := by decide +kernel
theorem dX12_round_71 : decode cX12_round 71 = .ok (.iload 6, 2) := by decide +kernel
theorem dX12_round_73 : decode cX12_round 73 = .ok (.istore 7, 2) := by decide +kernel
theorem dX12_round_75 : decode cX12_round 75 = .ok (.iload_n 1, 1) := by decide +kernel
theorem dX12_round_76 : decode cX12_round 76 = .ok (.iconst 1, 1) := by decide +kernel
theorem dX12_round_77 : decode cX12_round 77 = .ok (.isub, 1) := by decide +kernel
theorem dX12_round_78 : decode cX12_round 78 = .ok (.istore 8, 2) := by decide +kernel
theorem dX12_round_80 : decode cX12_round 80 = .ok (.iload 8, 2) := by decide +kernel
theorem dX12_round_82 : decode cX12_round 82 = .ok (.ifCond .lt 36, 3) := by decide +kernel
theorem dX12_round_85 : decode cX12_round 85 = .ok (.aload_n 0, 1) := by decide +kernel
theorem dX12_round_86 : decode cX12_round 86 = .ok (.getfield 54, 3) := by decide +kernel
theorem dX12_round_89 : decode cX12_round 89 = .ok (.iload 8, 2) := by decide +kernel
theorem dX12_round_91 : decode cX12_round 91 = .ok (.iload 7, 2) := by decide +kernel
theorem dX12_round_93 : decode cX12_round 93 = .ok (.aload_n 0, 1) := by decide +kernel
theorem dX12_round_94 : decode cX12_round 94 = .ok (.getfield 9, 3) := by decide +kernel
theorem dX12_round_97 : decode cX12_round 97 = .ok (.iconst 1, 1) := by decide +kernel
theorem dX12_round_98 : decode cX12_round 98 = .ok (.iaload, 1) := by decide +kernel
theorem dX12_round_99 : decode cX12_round 99 = .ok (.irem, 1) := by decide +kernel
theorem dX12_round_100 : decode cX12_round 100 = .ok (.iastore, 1) := by decide +kernel
theorem dX12_round_101 : decode cX12_round 101 = .ok (.iload 7, 2) := by decide +kernel
theorem dX12_round_103 : decode cX12_round 103 = .ok (.aload_n 0, 1) := by decide +kernel
theorem dX12_round_104 : decode cX12_round 104 = .ok (.getfield 9, 3) := by decide +kernel
theorem dX12_round_107 : decode cX12_round 107 = .ok (.iconst 1, 1) := by decide +kernel
theorem dX12_round_108 : decode cX12_round 108 = .ok (.iaload, 1) := by decide +kernel
theorem dX12_round_109 : decode cX12_round 109 = .ok (.idiv, 1) := by decide +kernel
theorem dX12_round_110 : decode cX12_round 110 = .ok (.istore 7, 2) := by decide +kernel
theorem dX12_round_112 : decode cX12_round 112 = .ok (.iinc 8 (-1), 3) := by decide +kernel
theorem dX12_round_115 : decode cX12_round 115 = .ok (.goto (-35), 3) := by decide +kernel
theorem dX12_round_118 : decode cX12_round 118 = .ok (.aload_n 0, 1) := by decide +kernel
theorem dX12_round_119 : decode cX12_round 119 = .ok (.iload_n 1, 1) := by decide +kernel
theorem dX12_round_120 : decode cX12_round 120 = .ok (.putfield 244, 3) := by decide +kernel
theorem dX12_round_123 : decode cX12_round 123 = .ok (.aload_n 0, 1) := by decide +kernel
theorem dX12_round_124 : decode cX12_round 124 = .ok (.iconst (-1), 1) := by decide +kernel
theorem dX12_round_125 : decode cX12_round 125 = .ok (.aload_n 0, 1) := by decide +kernel
theorem dX12_round_126 : decode cX12_round 126 = .ok (.getfield 9, 3) := by decide +kernel
theorem dX12_round_129 : decode cX12_round 129 = .ok (.iconst 3, 1) := by decide +kernel
theorem dX12_round_130 : decode cX12_round 130 = .ok (.iaload, 1) := by decide +kernel
theorem dX12_round_131 : decode cX12_round 131 = .ok (.iconst 3, 1) := by decide +kernel
theorem dX12_round_132 : decode cX12_round 132 = .ok (.invokevirtual 261, 3) := by decide +kernel
theorem dX12_round_135 : decode cX12_round 135 = .ok (.lstore 8, 2) := by decide +kernel
theorem dX12_round_137 : decode cX12_round 137 = .ok (.iload 6, 2) := by decide +kernel
theorem dX12_round_139 : decode cX12_round 139 = .ok (.ifCond .eq 11, 3) := by decide +kernel
theorem dX12_round_142 : decode cX12_round 142 = .ok (.lload 8, 2) := by decide +kernel
theorem dX12_round_144 : decode cX12_round 144 = .ok (.lload 4, 2) := by decide +kernel
theorem dX12_round_146 : decode cX12_round 146 = .ok (.lcmp, 1) := by decide +kernel
theorem dX12_round_147 : decode cX12_round 147 = .ok (.ifCond .le 36, 3) := by decide +kernel
theorem dX12_round_150 : decode cX12_round 150 = .ok (.lload 8, 2) := by decide +kernel
theorem dX12_round_152 : decode cX12_round 152 = .ok (.lstore 4, 2) := by decide +kernel
theorem dX12_round_154 : decode cX12_round 154 = .ok (.iconst 0, 1) := by decide +kernel
theorem dX12_round_155 : decode cX12_round 155 = .ok (.istore 10, 2) := by decide +kernel
theorem dX12_round_157 : decode cX12_round 157 = .ok (.iload 10, 2) := by decide +kernel
theorem dX12_round_159 : decode cX12_round 159 = .ok (.iload_n 1, 1) := by decide +kernel
theorem dX12_round_160 : decode cX12_round 160 = .ok (.if_icmp .ge 23, 3) := by decide +kernel
theorem dX12_round_163 : decode cX12_round 163 = .ok (.aload_n 0, 1) := by decide +kernel
theorem dX12_round_164 : decode cX12_round 164 = .ok (.getfield 60, 3) := by decide +kernel
theorem dX12_round_167 : decode cX12_round 167 = .ok (.iload 10, 2) := by decide +kernel
theorem dX12_round_169 : decode cX12_round 169 = .ok (.aload_n 0, 1) := by decide +kernel
theorem dX12_round_170 : decode cX12_round 170 = .ok (.getfield 54, 3) := by decide +kernel
theorem dX12_round_173 : decode cX12_round 173 = .ok (.iload 10, 2) := by decide +kernel
theorem dX12_round_175 : decode cX12_round 175 = .ok (.iaload, 1) := by decide +kernel
theorem dX12_round_176 : decode cX12_round 176 = .ok (.iastore, 1) := by decide +kernel
theorem dX12_round_177 : decode cX12_round 177 = .ok (.iinc 10 1, 3) := by decide +kernel
theorem dX12_round_180 : decode cX12_round 180 = .ok (.goto (-23), 3) := by decide +kernel
theorem dX12_round_183 : decode cX12_round 183 = .ok (.iinc 6 1, 3) := by decide +kernel
theorem dX12_round_186 : decode cX12_round 186 = .ok (.goto (-121), 3) := by decide +kernel
theorem dX12_round_189 : decode cX12_round 189 = .ok (.aload_n 0, 1) := by decide +kernel
theorem dX12_round_190 : decode cX12_round 190 = .ok (.iconst 0, 1) := by decide +kernel
theorem dX12_round_191 : decode cX12_round 191 = .ok (.putfield 244, 3) := by decide +kernel
theorem dX12_round_194 : decode cX12_round 194 = .ok (.iload_n 2, 1) := by decide +kernel
theorem dX12_round_195 : decode cX12_round 195 = .ok (.iconst (-1), 1) := by decide +kernel
theorem dX12_round_196 : decode cX12_round 196 = .ok (.if_icmp .ne 8, 3) := by decide +kernel
theorem dX12_round_199 : decode cX12_round 199 = .ok (.lload 4, 2) := by decide +kernel
theorem dX12_round_201 : decode cX12_round 201 = .ok (.goto 10, 3) := by decide +kernel
theorem dX12_round_204 : decode cX12_round 204 = .ok (.aload_n 0, 1) := by decide +kernel
theorem dX12_round_205 : decode cX12_round 205 = .ok (.getfield 60, 3) := by decide +kernel
theorem dX12_round_208 : decode cX12_round 208 = .ok (.iload_n 2, 1) := by decide +kernel
theorem dX12_round_209 : decode cX12_round 209 = .ok (.iaload, 1) := by decide +kernel
theorem dX12_round_210 : decode cX12_round 210 = .ok (.i2l, 1) := by decide +kernel
theorem dX12_round_211 : decode cX12_round 211 = .ok (.lreturn, 1) := by decide +kernel
theorem dX12_weight_0 : decode cX12_weight 0 = .ok (.aload_n 0, 1) := by decide +kernel
theorem dX12_weight_1 : decode cX12_weight 1 = .ok (.iload_n 1, 1) := by decide +kernel
theorem dX12_weight_2 : decode cX12_weight 2 = .ok (.iload_n 2, 1) := by decide +kernel
theorem dX12_weight_3 : decode cX12_weight 3 = .ok (.invokevirtual 217, 3) := by decide +kernel
theorem dX12_weight_6 : decode cX12_weight 6 = .ok (.istore_n 3, 1) := by decide +kernel
theorem dX12_weight_7 : decode cX12_weight 7 = .ok (.iload_n 3, 1) := by decide +kernel
theorem dX12_weight_8 : decode cX12_weight 8 = .ok (.bipush (-5), 2) := by decide +kernel
theorem dX12_weight_10 : decode cX12_weight 10 = .ok (.if_icmp .ne 9, 3) := by decide +kernel
theorem dX12_weight_13 : decode cX12_weight 13 = .ok (.sipush 201, 3) := by decide +kernel
theorem dX12_weight_16 : decode cX12_weight 16 = .ok (.goto 4, 3) := by decide +kernel
theorem dX12_weight_19 : decode cX12_weight 19 = .ok (.iload_n 3, 1) := by decide +kernel
theorem dX12_weight_20 : decode cX12_weight 20 = .ok (.ireturn, 1) := by decide +kernel
theorem dX12_tour_0 : decode cX12_tour 0 = .ok (.iload_n 1, 1) := by decide +kernel
theorem dX12_tour_1 : decode cX12_tour 1 = .ok (.iconst 0, 1) := by decide +kernel
theorem dX12_tour_2 : decode cX12_tour 2 = .ok (.sipush 200, 3) := by decide +kernel
theorem dX12_tour_5 : decode cX12_tour 5 = .ok (.invokestatic 69, 3) := by decide +kernel
theorem dX12_tour_8 : decode cX12_tour 8 = .ok (.ifCond .eq 13, 3) := by decide +kernel
theorem dX12_tour_11 : decode cX12_tour 11 = .ok (.iload_n 2, 1) := by decide +kernel
theorem dX12_tour_12 : decode cX12_tour 12 = .ok (.iconst 1, 1) := by decide +kernel
theorem dX12_tour_13 : decode cX12_tour 13 = .ok (.bipush 8, 2) := by decide +kernel
theorem dX12_tour_15 : decode cX12_tour 15 = .ok (.invokestatic 69, 3) := by decide +kernel
theorem dX12_tour_18 : decode cX12_tour 18 = .ok (.ifCond .ne 6, 3) := by decide +kernel
theorem dX12_tour_21 : decode cX12_tour 21 = .ok (.bipush (-2), 2) := by decide +kernel
theorem dX12_tour_23 : decode cX12_tour 23 = .ok (.ireturn, 1) := by decide +kernel
theorem dX12_tour_24 : decode cX12_tour 24 = .ok (.iconst 0, 1) := by decide +kernel
theorem dX12_tour_25 : decode cX12_tour 25 = .ok (.istore_n 3, 1) := by decide +kernel
theorem dX12_tour_26 : decode cX12_tour 26 = .ok (.iload_n 3, 1) := by decide +kernel
theorem dX12_tour_27 : decode cX12_tour 27 = .ok (.aload_n 0, 1) := by decide +kernel
theorem dX12_tour_28 : decode cX12_tour 28 = .ok (.getfield 9, 3) := by decide +kernel
theorem dX12_tour_31 : decode cX12_tour 31 = .ok (.iconst 1, 1) := by decide +kernel
theorem dX12_tour_32 : decode cX12_tour 32 = .ok (.iaload, 1) := by decide +kernel
theorem dX12_tour_33 : decode cX12_tour 33 = .ok (.if_icmp .ge 21, 3) := by decide +kernel
theorem dX12_tour_36 : decode cX12_tour 36 = .ok (.aload_n 0, 1) := by decide +kernel
theorem dX12_tour_37 : decode cX12_tour 37 = .ok (.getfield 45, 3) := by decide +kernel
theorem dX12_tour_40 : decode cX12_tour 40 = .ok (.iload_n 3, 1) := by decide +kernel
theorem dX12_tour_41 : decode cX12_tour 41 = .ok (.aload_n 0, 1) := by decide +kernel
theorem dX12_tour_42 : decode cX12_tour 42 = .ok (.iload_n 3, 1) := by decide +kernel
theorem dX12_tour_43 : decode cX12_tour 43 = .ok (.iload_n 2, 1) := by decide +kernel
theorem dX12_tour_44 : decode cX12_tour 44 = .ok (.invokevirtual 289, 3) := by decide +kernel
theorem dX12_tour_47 : decode cX12_tour 47 = .ok (.iastore, 1) := by decide +kernel
theorem dX12_tour_48 : decode cX12_tour 48 = .ok (.iinc 3 1, 3) := by decide +kernel
theorem dX12_tour_51 : decode cX12_tour 51 = .ok (.goto (-25), 3) := by decide +kernel
theorem dX12_tour_54 : decode cX12_tour 54 = .ok (.iconst 0, 1) := by decide +kernel
theorem dX12_tour_55 : decode cX12_tour 55 = .ok (.istore_n 3, 1) := by decide +kernel
theorem dX12_tour_56 : decode cX12_tour 56 = .ok (.iconst 0, 1) := by decide +kernel
theorem dX12_tour_57 : decode cX12_tour 57 = .ok (.istore 4, 2) := by decide +kernel
theorem dX12_tour_59 : decode cX12_tour 59 = .ok (.iconst 1, 1) := by decide +kernel
theorem dX12_tour_60 : decode cX12_tour 60 = .ok (.istore 5, 2) := by decide +kernel
theorem dX12_tour_62 : decode cX12_tour 62 = .ok (.iload 5, 2) := by decide +kernel
theorem dX12_tour_64 : decode cX12_tour 64 = .ok (.iconst 1, 1) := by decide +kernel
theorem dX12_tour_65 : decode cX12_tour 65 = .ok (.aload_n 0, 1) := by decide +kernel
theorem dX12_tour_66 : decode cX12_tour 66 = .ok (.getfield 9, 3) := by decide +kernel
theorem dX12_tour_69 : decode cX12_tour 69 = .ok (.iconst 1, 1) := by decide +kernel
theorem dX12_tour_70 : decode cX12_tour 70 = .ok (.iaload, 1) := by decide +kernel
theorem dX12_tour_71 : decode cX12_tour 71 = .ok (.ishl, 1) := by decide +kernel
theorem dX12_tour_72 : decode cX12_tour 72 = .ok (.if_icmp .ge 175, 3) := by decide +kernel
theorem dX12_tour_75 : decode cX12_tour 75 = .ok (.iconst 0, 1) := by decide +kernel
theorem dX12_tour_76 : decode cX12_tour 76 = .ok (.istore 6, 2) := by decide +kernel
theorem dX12_tour_78 : decode cX12_tour 78 = .ok (.iconst 0, 1) := by decide +kernel
theorem dX12_tour_79 : decode cX12_tour 79 = .ok (.istore 7, 2) := by decide +kernel
theorem dX12_tour_81 : decode cX12_tour 81 = .ok (.iconst 0, 1) := by decide +kernel
theorem dX12_tour_82 : decode cX12_tour 82 = .ok (.istore 8, 2) := by decide +kernel
theorem dX12_tour_84 : decode cX12_tour 84 = .ok (.iload 8, 2) := by decide +kernel
theorem dX12_tour_86 : decode cX12_tour 86 = .ok (.aload_n 0, 1) := by decide +kernel
theorem dX12_tour_87 : decode cX12_tour 87 = .ok (.getfield 9, 3) := by decide +kernel
theorem dX12_tour_90 : decode cX12_tour 90 = .ok (.iconst 1, 1) := by decide +kernel
theorem dX12_tour_91 : decode cX12_tour 91 = .ok (.iaload, 1) := by decide +kernel
theorem dX12_tour_92 : decode cX12_tour 92 = .ok (.if_icmp .ge 87, 3) := by decide +kernel
theorem dX12_tour_95 : decode cX12_tour 95 = .ok (.iload 5, 2) := by decide +kernel
theorem dX12_tour_97 : decode cX12_tour 97 = .ok (.iload 8, 2) := by decide +kernel
theorem dX12_tour_99 : decode cX12_tour 99 = .ok (.ishr, 1) := by decide +kernel
theorem dX12_tour_100 : decode cX12_tour 100 = .ok (.iconst 1, 1) := by decide +kernel
theorem dX12_tour_101 : decode cX12_tour 101 = .ok (.iand, 1) := by decide +kernel
theorem dX12_tour_102 : decode cX12_tour 102 = .ok (.iconst 1, 1) := by decide +kernel
theorem dX12_tour_103 : decode cX12_tour 103 = .ok (.if_icmp .ne 7, 3) := by decide +kernel
theorem dX12_tour_106 : decode cX12_tour 106 = .ok (.iconst 1, 1) := by decide +kernel
theorem dX12_tour_107 : decode cX12_tour 107 = .ok (.goto 4, 3) := by decide +kernel
theorem dX12_tour_110 : decode cX12_tour 110 = .ok (.iconst 0, 1) := by decide +kernel
theorem dX12_tour_111 : decode cX12_tour 111 = .ok (.istore 9, 2) := by decide +kernel
theorem dX12_tour_113 : decode cX12_tour 113 = .ok (.iload 6, 2) := by decide +kernel
theorem dX12_tour_115 : decode cX12_tour 115 = .ok (.iload 9, 2) := by decide +kernel
theorem dX12_tour_117 : decode cX12_tour 117 = .ok (.ifCond .eq 13, 3) := by decide +kernel
theorem dX12_tour_120 : decode cX12_tour 120 = .ok (.aload_n 0, 1) := by decide +kernel
theorem dX12_tour_121 : decode cX12_tour 121 = .ok (.getfield 45, 3) := by decide +kernel
theorem dX12_tour_124 : decode cX12_tour 124 = .ok (.iload 8, 2) := by decide +kernel
theorem dX12_tour_126 : decode cX12_tour 126 = .ok (.iaload, 1) := by decide +kernel
theorem dX12_tour_127 : decode cX12_tour 127 = .ok (.goto 4, 3) := by decide +kernel
theorem dX12_tour_130 : decode cX12_tour 130 = .ok (.iconst 0, 1) := by decide +kernel
theorem dX12_tour_131 : decode cX12_tour 131 = .ok (.iadd, 1) := by decide +kernel
theorem dX12_tour_132 : decode cX12_tour 132 = .ok (.istore 6, 2) := by decide +kernel
theorem dX12_tour_134 : decode cX12_tour 134 = .ok (.iload 9, 2) := by decide +kernel
theorem dX12_tour_136 : decode cX12_tour 136 = .ok (.ifCond .eq 33, 3) := by decide +kernel
theorem dX12_tour_139 : decode cX12_tour 139 = .ok (.aload_n 0, 1) := by decide +kernel
theorem dX12_tour_140 : decode cX12_tour 140 = .ok (.getfield 9, 3) := by decide +kernel
theorem dX12_tour_143 : decode cX12_tour 143 = .ok (.sipush 1018, 3) := by decide +kernel
theorem dX12_tour_146 : decode cX12_tour 146 = .ok (.iload 8, 2) := by decide +kernel
theorem dX12_tour_148 : decode cX12_tour 148 = .ok (.iadd, 1) := by decide +kernel
theorem dX12_tour_149 : decode cX12_tour 149 = .ok (.iaload, 1) := by decide +kernel
theorem dX12_tour_150 : decode cX12_tour 150 = .ok (.iload 7, 2) := by decide +kernel
theorem dX12_tour_152 : decode cX12_tour 152 = .ok (.if_icmp .le 17, 3) := by decide +kernel
theorem dX12_tour_155 : decode cX12_tour 155 = .ok (.aload_n 0, 1) := by decide +kernel
theorem dX12_tour_156 : decode cX12_tour 156 = .ok (.getfield 9, 3) := by decide +kernel
theorem dX12_tour_159 : decode cX12_tour 159 = .ok (.sipush 1018, 3) := by decide +kernel
theorem dX12_tour_162 : decode cX12_tour 162 = .ok (.iload 8, 2) := by decide +kernel
theorem dX12_tour_164 : decode cX12_tour 164 = .ok (.iadd, 1) := by decide +kernel
theorem dX12_tour_165 : decode cX12_tour 165 = .ok (.iaload, 1) := by decide +kernel
theorem dX12_tour_166 : decode cX12_tour 166 = .ok (.goto 5, 3) := by decide +kernel
theorem dX12_tour_169 : decode cX12_tour 169 = .ok (.iload 7, 2) := by decide +kernel
theorem dX12_tour_171 : decode cX12_tour 171 = .ok (.istore 7, 2) := by decide +kernel
theorem dX12_tour_173 : decode cX12_tour 173 = .ok (.iinc 8 1, 3) := by decide +kernel
theorem dX12_tour_176 : decode cX12_tour 176 = .ok (.goto (-92), 3) := by decide +kernel
theorem dX12_tour_179 : decode cX12_tour 179 = .ok (.iload 5, 2) := by decide +kernel
theorem dX12_tour_181 : decode cX12_tour 181 = .ok (.invokestatic 229, 3) := by decide +kernel
theorem dX12_tour_184 : decode cX12_tour 184 = .ok (.aload_n 0, 1) := by decide +kernel
theorem dX12_tour_185 : decode cX12_tour 185 = .ok (.getfield 9, 3) := by decide +kernel
theorem dX12_tour_188 : decode cX12_tour 188 = .ok (.iconst 4, 1) := by decide +kernel
theorem dX12_tour_189 : decode cX12_tour 189 = .ok (.iaload, 1) := by decide +kernel
theorem dX12_tour_190 : decode cX12_tour 190 = .ok (.if_icmp .gt 22, 3) := by decide +kernel
theorem dX12_tour_193 : decode cX12_tour 193 = .ok (.iconst 2, 1) := by decide +kernel
theorem dX12_tour_194 : decode cX12_tour 194 = .ok (.iload 7, 2) := by decide +kernel
theorem dX12_tour_196 : decode cX12_tour 196 = .ok (.imul, 1) := by decide +kernel
theorem dX12_tour_197 : decode cX12_tour 197 = .ok (.iload_n 1, 1) := by decide +kernel
theorem dX12_tour_198 : decode cX12_tour 198 = .ok (.if_icmp .gt 14, 3) := by decide +kernel
theorem dX12_tour_201 : decode cX12_tour 201 = .ok (.iload 6, 2) := by decide +kernel
theorem dX12_tour_203 : decode cX12_tour 203 = .ok (.iload 4, 2) := by decide +kernel
theorem dX12_tour_205 : decode cX12_tour 205 = .ok (.if_icmp .le 7, 3) := by decide +kernel
theorem dX12_tour_208 : decode cX12_tour 208 = .ok (.iconst 1, 1) := by decide +kernel
theorem dX12_tour_209 : decode cX12_tour 209 = .ok (.goto 4, 3) := by decide +kernel
theorem dX12_tour_212 : decode cX12_tour 212 = .ok (.iconst 0, 1) := by decide +kernel
theorem dX12_tour_213 : decode cX12_tour 213 = .ok (.istore 8, 2) := by decide +kernel
theorem dX12_tour_215 : decode cX12_tour 215 = .ok (.iload 8, 2) := by decide +kernel
theorem dX12_tour_217 : decode cX12_tour 217 = .ok (.ifCond .eq 8, 3) := by decide +kernel
theorem dX12_tour_220 : decode cX12_tour 220 = .ok (.iload 5, 2) := by decide +kernel
theorem dX12_tour_222 : decode cX12_tour 222 = .ok (.goto 4, 3) := by decide +kernel
theorem dX12_tour_225 : decode cX12_tour 225 = .ok (.iload_n 3, 1) := by decide +kernel
theorem dX12_tour_226 : decode cX12_tour 226 = .ok (.istore_n 3, 1) := by decide +kernel
theorem dX12_tour_227 : decode cX12_tour 227 = .ok (.iload 8, 2) := by decide +kernel
theorem dX12_tour_229 : decode cX12_tour 229 = .ok (.ifCond .eq 8, 3) := by decide +kernel
theorem dX12_tour_232 : decode cX12_tour 232 = .ok (.iload 6, 2) := by decide +kernel
theorem dX12_tour_234 : decode cX12_tour 234 = .ok (.goto 5, 3) := by decide +kernel
theorem dX12_tour_237 : decode cX12_tour 237 = .ok (.iload 4, 2) := by decide +kernel
theorem dX12_tour_239 : decode cX12_tour 239 = .ok (.istore 4, 2) := by decide +kernel
theorem dX12_tour_241 : decode cX12_tour 241 = .ok (.iinc 5 1, 3) := by decide +kernel
theorem dX12_tour_244 : decode cX12_tour 244 = .ok (.goto (-182), 3) := by decide +kernel
theorem dX12_tour_247 : decode cX12_tour 247 = .ok (.iload_n 3, 1) := by decide +kernel
theorem dX12_tour_248 : decode cX12_tour 248 = .ok (.ireturn, 1) := by decide +kernel
theorem dX12_firstOf_0 : decode cX12_firstOf 0 = .ok (.iconst 0, 1) := by decide +kernel
theorem dX12_firstOf_1 : decode cX12_firstOf 1 = .ok (.istore_n 3, 1) := by decide +kernel
theorem dX12_firstOf_2 : decode cX12_firstOf 2 = .ok (.iconst 0, 1) := by decide +kernel
theorem dX12_firstOf_3 : decode cX12_firstOf 3 = .ok (.istore 4, 2) := by decide +kernel
theorem dX12_firstOf_5 : decode cX12_firstOf 5 = .ok (.iload 4, 2) := by decide +kernel
theorem dX12_firstOf_7 : decode cX12_firstOf 7 = .ok (.aload_n 0, 1) := by decide +kernel
theorem dX12_firstOf_8 : decode cX12_firstOf 8 = .ok (.getfield 9, 3) := by decide +kernel
theorem dX12_firstOf_11 : decode cX12_firstOf 11 = .ok (.iconst 1, 1) := by decide +kernel
theorem dX12_firstOf_12 : decode cX12_firstOf 12 = .ok (.iaload, 1) := by decide +kernel
theorem dX12_firstOf_13 : decode cX12_firstOf 13 = .ok (.if_icmp .ge 59, 3) := by decide +kernel
theorem dX12_firstOf_16 : decode cX12_firstOf 16 = .ok (.iload 4, 2) := by decide +kernel
theorem dX12_firstOf_18 : decode cX12_firstOf 18 = .ok (.iload_n 1, 1) := by decide +kernel
theorem dX12_firstOf_19 : decode cX12_firstOf 19 = .ok (.if_icmp .ne 7, 3) := by decide +kernel
theorem dX12_firstOf_22 : decode cX12_firstOf 22 = .ok (.iload_n 2, 1) := by decide +kernel
theorem dX12_firstOf_23 : decode cX12_firstOf 23 = .ok (.goto 10, 3) := by decide +kernel
theorem dX12_firstOf_26 : decode cX12_firstOf 26 = .ok (.aload_n 0, 1) := by decide +kernel
theorem dX12_firstOf_27 : decode cX12_firstOf 27 = .ok (.getfield 45, 3) := by decide +kernel
theorem dX12_firstOf_30 : decode cX12_firstOf 30 = .ok (.iload 4, 2) := by decide +kernel
theorem dX12_firstOf_32 : decode cX12_firstOf 32 = .ok (.iaload, 1) := by decide +kernel
theorem dX12_firstOf_33 : decode cX12_firstOf 33 = .ok (.istore 5, 2) := by decide +kernel
theorem dX12_firstOf_35 : decode cX12_firstOf 35 = .ok (.iload_n 3, 1) := by decide +kernel
theorem dX12_firstOf_36 : decode cX12_firstOf 36 = .ok (.iload_n 1, 1) := by decide +kernel
theorem dX12_firstOf_37 : decode cX12_firstOf 37 = .ok (.if_icmp .ne 7, 3) := by decide +kernel
theorem dX12_firstOf_40 : decode cX12_firstOf 40 = .ok (.iload_n 2, 1) := by decide +kernel
theorem dX12_firstOf_41 : decode cX12_firstOf 41 = .ok (.goto 9, 3) := by decide +kernel
theorem dX12_firstOf_44 : decode cX12_firstOf 44 = .ok (.aload_n 0, 1) := by decide +kernel
theorem dX12_firstOf_45 : decode cX12_firstOf 45 = .ok (.getfield 45, 3) := by decide +kernel
theorem dX12_firstOf_48 : decode cX12_firstOf 48 = .ok (.iload_n 3, 1) := by decide +kernel
theorem dX12_firstOf_49 : decode cX12_firstOf 49 = .ok (.iaload, 1) := by decide +kernel
theorem dX12_firstOf_50 : decode cX12_firstOf 50 = .ok (.istore 6, 2) := by decide +kernel
theorem dX12_firstOf_52 : decode cX12_firstOf 52 = .ok (.iload 5, 2) := by decide +kernel
theorem dX12_firstOf_54 : decode cX12_firstOf 54 = .ok (.iload 6, 2) := by decide +kernel
theorem dX12_firstOf_56 : decode cX12_firstOf 56 = .ok (.if_icmp .le 8, 3) := by decide +kernel
theorem dX12_firstOf_59 : decode cX12_firstOf 59 = .ok (.iload 4, 2) := by decide +kernel
theorem dX12_firstOf_61 : decode cX12_firstOf 61 = .ok (.goto 4, 3) := by decide +kernel
theorem dX12_firstOf_64 : decode cX12_firstOf 64 = .ok (.iload_n 3, 1) := by decide +kernel
theorem dX12_firstOf_65 : decode cX12_firstOf 65 = .ok (.istore_n 3, 1) := by decide +kernel
theorem dX12_firstOf_66 : decode cX12_firstOf 66 = .ok (.iinc 4 1, 3) := by decide +kernel
theorem dX12_firstOf_69 : decode cX12_firstOf 69 = .ok (.goto (-64), 3) := by decide +kernel
theorem dX12_firstOf_72 : decode cX12_firstOf 72 = .ok (.iload_n 3, 1) := by decide +kernel
theorem dX12_firstOf_73 : decode cX12_firstOf 73 = .ok (.ireturn, 1) := by decide +kernel
theorem dX12_edge_0 : decode cX12_edge 0 = .ok (.aload_n 0, 1) := by decide +kernel
theorem dX12_edge_1 : decode cX12_edge 1 = .ok (.iload_n 1, 1) := by decide +kernel
theorem dX12_edge_2 : decode cX12_edge 2 = .ok (.invokevirtual 158, 3) := by decide +kernel
theorem dX12_edge_5 : decode cX12_edge 5 = .ok (.ifCond .ne 5, 3) := by decide +kernel
theorem dX12_edge_8 : decode cX12_edge 8 = .ok (.iconst (-1), 1) := by decide +kernel
theorem dX12_edge_9 : decode cX12_edge 9 = .ok (.ireturn, 1) := by decide +kernel
theorem dX12_edge_10 : decode cX12_edge 10 = .ok (.iload_n 2, 1) := by decide +kernel
theorem dX12_edge_11 : decode cX12_edge 11 = .ok (.iconst 1, 1) := by decide +kernel
theorem dX12_edge_12 : decode cX12_edge 12 = .ok (.iconst 4, 1) := by decide +kernel
theorem dX12_edge_13 : decode cX12_edge 13 = .ok (.invokestatic 69, 3) := by decide +kernel
theorem dX12_edge_16 : decode cX12_edge 16 = .ok (.ifCond .ne 6, 3) := by decide +kernel
theorem dX12_edge_19 : decode cX12_edge 19 = .ok (.bipush (-2), 2) := by decide +kernel
theorem dX12_edge_21 : decode cX12_edge 21 = .ok (.ireturn, 1) := by decide +kernel
theorem dX12_edge_22 : decode cX12_edge 22 = .ok (.aload_n 0, 1) := by decide +kernel
theorem dX12_edge_23 : decode cX12_edge 23 = .ok (.getfield 9, 3) := by decide +kernel
theorem dX12_edge_26 : decode cX12_edge 26 = .ok (.iconst 1, 1) := by decide +kernel
theorem dX12_edge_27 : decode cX12_edge 27 = .ok (.iaload, 1) := by decide +kernel
theorem dX12_edge_28 : decode cX12_edge 28 = .ok (.iconst 1, 1) := by decide +kernel
theorem dX12_edge_29 : decode cX12_edge 29 = .ok (.if_icmp .ne 6, 3) := by decide +kernel
theorem dX12_edge_32 : decode cX12_edge 32 = .ok (.bipush (-3), 2) := by decide +kernel
theorem dX12_edge_34 : decode cX12_edge 34 = .ok (.ireturn, 1) := by decide +kernel
theorem dX12_edge_35 : decode cX12_edge 35 = .ok (.iconst 0, 1) := by decide +kernel
theorem dX12_edge_36 : decode cX12_edge 36 = .ok (.istore_n 3, 1) := by decide +kernel
theorem dX12_edge_37 : decode cX12_edge 37 = .ok (.iload_n 3, 1) := by decide +kernel
theorem dX12_edge_38 : decode cX12_edge 38 = .ok (.aload_n 0, 1) := by decide +kernel
theorem dX12_edge_39 : decode cX12_edge 39 = .ok (.getfield 9, 3) := by decide +kernel
theorem dX12_edge_42 : decode cX12_edge 42 = .ok (.iconst 1, 1) := by decide +kernel
theorem dX12_edge_43 : decode cX12_edge 43 = .ok (.iaload, 1) := by decide +kernel
theorem dX12_edge_44 : decode cX12_edge 44 = .ok (.if_icmp .ge 21, 3) := by decide +kernel
theorem dX12_edge_47 : decode cX12_edge 47 = .ok (.aload_n 0, 1) := by decide +kernel
theorem dX12_edge_48 : decode cX12_edge 48 = .ok (.getfield 45, 3) := by decide +kernel
theorem dX12_edge_51 : decode cX12_edge 51 = .ok (.iload_n 3, 1) := by decide +kernel
theorem dX12_edge_52 : decode cX12_edge 52 = .ok (.aload_n 0, 1) := by decide +kernel
theorem dX12_edge_53 : decode cX12_edge 53 = .ok (.iload_n 3, 1) := by decide +kernel
theorem dX12_edge_54 : decode cX12_edge 54 = .ok (.iload_n 2, 1) := by decide +kernel
theorem dX12_edge_55 : decode cX12_edge 55 = .ok (.invokevirtual 289, 3) := by decide +kernel
theorem dX12_edge_58 : decode cX12_edge 58 = .ok (.iastore, 1) := by decide +kernel
theorem dX12_edge_59 : decode cX12_edge 59 = .ok (.iinc 3 1, 3) := by decide +kernel
theorem dX12_edge_62 : decode cX12_edge 62 = .ok (.goto (-25), 3) := by decide +kernel
theorem dX12_edge_65 : decode cX12_edge 65 = .ok (.aload_n 0, 1) := by decide +kernel
theorem dX12_edge_66 : decode cX12_edge 66 = .ok (.iload_n 1, 1) := by decide +kernel
theorem dX12_edge_67 : decode cX12_edge 67 = .ok (.aload_n 0, 1) := by decide +kernel
theorem dX12_edge_68 : decode cX12_edge 68 = .ok (.getfield 45, 3) := by decide +kernel
theorem dX12_edge_71 : decode cX12_edge 71 = .ok (.iload_n 1, 1) := by decide +kernel
theorem dX12_edge_72 : decode cX12_edge 72 = .ok (.iaload, 1) := by decide +kernel
theorem dX12_edge_73 : decode cX12_edge 73 = .ok (.invokevirtual 292, 3) := by decide +kernel
theorem dX12_edge_76 : decode cX12_edge 76 = .ok (.istore_n 3, 1) := by decide +kernel
theorem dX12_edge_77 : decode cX12_edge 77 = .ok (.iconst 0, 1) := by decide +kernel
theorem dX12_edge_78 : decode cX12_edge 78 = .ok (.istore 4, 2) := by decide +kernel
theorem dX12_edge_80 : decode cX12_edge 80 = .ok (.aload_n 0, 1) := by decide +kernel
theorem dX12_edge_81 : decode cX12_edge 81 = .ok (.iload_n 1, 1) := by decide +kernel
theorem dX12_edge_82 : decode cX12_edge 82 = .ok (.putfield 22, 3) := by decide +kernel
theorem dX12_edge_85 : decode cX12_edge 85 = .ok (.iconst 1, 1) := by decide +kernel
theorem dX12_edge_86 : decode cX12_edge 86 = .ok (.istore 5, 2) := by decide +kernel
theorem dX12_edge_88 : decode cX12_edge 88 = .ok (.iload 5, 2) := by decide +kernel
theorem dX12_edge_90 : decode cX12_edge 90 = .ok (.bipush 30, 2) := by decide +kernel
theorem dX12_edge_92 : decode cX12_edge 92 = .ok (.if_icmp .gt 69, 3) := by decide +kernel
theorem dX12_edge_95 : decode cX12_edge 95 = .ok (.iload 4, 2) := by decide +kernel
theorem dX12_edge_97 : decode cX12_edge 97 = .ok (.ifCond .ne 64, 3) := by decide +kernel
theorem dX12_edge_100 : decode cX12_edge 100 = .ok (.iconst (-1), 1) := by decide +kernel
theorem dX12_edge_101 : decode cX12_edge 101 = .ok (.istore 6, 2) := by decide +kernel
theorem dX12_edge_103 : decode cX12_edge 103 = .ok (.iload 6, 2) := by decide +kernel
theorem dX12_edge_105 : decode cX12_edge 105 = .ok (.iconst 2, 1) := by decide +kernel
theorem dX12_edge_106 : decode cX12_edge 106 = .ok (.if_icmp .ge 49, 3) := by decide +kernel
theorem dX12_edge_109 : decode cX12_edge 109 = .ok (.iload 4, 2) := by decide +kernel
theorem dX12_edge_111 : decode cX12_edge 111 = .ok (.ifCond .ne 44, 3) := by decide +kernel
theorem dX12_edge_114 : decode cX12_edge 114 = .ok (.aload_n 0, 1) := by decide +kernel
theorem dX12_edge_115 : decode cX12_edge 115 = .ok (.iload 6, 2) := by decide +kernel
theorem dX12_edge_117 : decode cX12_edge 117 = .ok (.iload 5, 2) := by decide +kernel
theorem dX12_edge_119 : decode cX12_edge 119 = .ok (.imul, 1) := by decide +kernel
theorem dX12_edge_120 : decode cX12_edge 120 = .ok (.putfield 161, 3) := by decide +kernel
theorem dX12_edge_123 : decode cX12_edge 123 = .ok (.aload_n 0, 1) := by decide +kernel
theorem dX12_edge_124 : decode cX12_edge 124 = .ok (.iload_n 1, 1) := by decide +kernel
theorem dX12_edge_125 : decode cX12_edge 125 = .ok (.aload_n 0, 1) := by decide +kernel
theorem dX12_edge_126 : decode cX12_edge 126 = .ok (.iload_n 1, 1) := by decide +kernel
theorem dX12_edge_127 : decode cX12_edge 127 = .ok (.iload_n 2, 1) := by decide +kernel
theorem dX12_edge_128 : decode cX12_edge 128 = .ok (.invokevirtual 289, 3) := by decide +kernel
theorem dX12_edge_131 : decode cX12_edge 131 = .ok (.invokevirtual 292, 3) := by decide +kernel
theorem dX12_edge_134 : decode cX12_edge 134 = .ok (.iload_n 3, 1) := by decide +kernel
theorem dX12_edge_135 : decode cX12_edge 135 = .ok (.if_icmp .eq 11, 3) := by decide +kernel
theorem dX12_edge_138 : decode cX12_edge 138 = .ok (.iload 6, 2) := by decide +kernel
theorem dX12_edge_140 : decode cX12_edge 140 = .ok (.iload 5, 2) := by decide +kernel
theorem dX12_edge_142 : decode cX12_edge 142 = .ok (.imul, 1) := by decide +kernel
theorem dX12_edge_143 : decode cX12_edge 143 = .ok (.goto 4, 3) := by decide +kernel
theorem dX12_edge_146 : decode cX12_edge 146 = .ok (.iconst 0, 1) := by decide +kernel
theorem dX12_edge_147 : decode cX12_edge 147 = .ok (.istore 4, 2) := by decide +kernel
theorem dX12_edge_149 : decode cX12_edge 149 = .ok (.iinc 6 2, 3) := by decide +kernel
theorem dX12_edge_152 : decode cX12_edge 152 = .ok (.goto (-49), 3) := by decide +kernel
theorem dX12_edge_155 : decode cX12_edge 155 = .ok (.iinc 5 1, 3) := by decide +kernel
theorem dX12_edge_158 : decode cX12_edge 158 = .ok (.goto (-70), 3) := by decide +kernel
theorem dX12_edge_161 : decode cX12_edge 161 = .ok (.aload_n 0, 1) := by decide +kernel
theorem dX12_edge_162 : decode cX12_edge 162 = .ok (.iconst (-1), 1) := by decide +kernel
theorem dX12_edge_163 : decode cX12_edge 163 = .ok (.putfield 22, 3) := by decide +kernel
theorem dX12_edge_166 : decode cX12_edge 166 = .ok (.iload 4, 2) := by decide +kernel
theorem dX12_edge_168 : decode cX12_edge 168 = .ok (.ireturn, 1) := by decide +kernel
theorem dX12_runs_0 : decode cX12_runs 0 = .ok (.aload_n 0, 1) := by decide +kernel
theorem dX12_runs_1 : decode cX12_runs 1 = .ok (.getfield 295, 3) := by decide +kernel
theorem dX12_runs_4 : decode cX12_runs 4 = .ok (.bipush 20, 2) := by decide +kernel
theorem dX12_runs_6 : decode cX12_runs 6 = .ok (.if_icmp .ge 13, 3) := by decide +kernel
theorem dX12_runs_9 : decode cX12_runs 9 = .ok (.aload_n 0, 1) := by decide +kernel
theorem dX12_runs_10 : decode cX12_runs 10 = .ok (.getfield 63, 3) := by decide +kernel
theorem dX12_runs_13 : decode cX12_runs 13 = .ok (.aload_n 0, 1) := by decide +kernel
theorem dX12_runs_14 : decode cX12_runs 14 = .ok (.getfield 295, 3) := by decide +kernel
theorem dX12_runs_17 : decode cX12_runs 17 = .ok (.iload_n 1, 1) := by decide +kernel
theorem dX12_runs_18 : decode cX12_runs 18 = .ok (.iastore, 1) := by decide +kernel
theorem dX12_runs_19 : decode cX12_runs 19 = .ok (.aload_n 0, 1) := by decide +kernel
theorem dX12_runs_20 : decode cX12_runs 20 = .ok (.dup, 1) := by decide +kernel
theorem dX12_runs_21 : decode cX12_runs 21 = .ok (.getfield 295, 3) := by decide +kernel
theorem dX12_runs_24 : decode cX12_runs 24 = .ok (.iconst 1, 1) := by decide +kernel
theorem dX12_runs_25 : decode cX12_runs 25 = .ok (.iadd, 1) := by decide +kernel
theorem dX12_runs_26 : decode cX12_runs 26 = .ok (.putfield 295, 3) := by decide +kernel
theorem dX12_runs_29 : decode cX12_runs 29 = .ok (.return_, 1) := by decide +kernel
theorem dX12_isUnder_0 : decode cX12_isUnder 0 = .ok (.iload_n 1, 1) := by decide +kernel
theorem dX12_isUnder_1 : decode cX12_isUnder 1 = .ok (.ifCond .eq 28, 3) := by decide +kernel
theorem dX12_isUnder_4 : decode cX12_isUnder 4 = .ok (.iload_n 1, 1) := by decide +kernel
theorem dX12_isUnder_5 : decode cX12_isUnder 5 = .ok (.iload_n 0, 1) := by decide +kernel
theorem dX12_isUnder_6 : decode cX12_isUnder 6 = .ok (.if_icmp .eq 23, 3) := by decide +kernel
theorem dX12_isUnder_9 : decode cX12_isUnder 9 = .ok (.iload_n 1, 1) := by decide +kernel
theorem dX12_isUnder_10 : decode cX12_isUnder 10 = .ok (.iconst 2, 1) := by decide +kernel
theorem dX12_isUnder_11 : decode cX12_isUnder 11 = .ok (.if_icmp .ne 8, 3) := by decide +kernel
theorem dX12_isUnder_14 : decode cX12_isUnder 14 = .ok (.iload_n 0, 1) := by decide +kernel
theorem dX12_isUnder_15 : decode cX12_isUnder 15 = .ok (.iconst 4, 1) := by decide +kernel
theorem dX12_isUnder_16 : decode cX12_isUnder 16 = .ok (.if_icmp .eq 13, 3) := by decide +kernel
theorem dX12_isUnder_19 : decode cX12_isUnder 19 = .ok (.iload_n 1, 1) := by decide +kernel
theorem dX12_isUnder_20 : decode cX12_isUnder 20 = .ok (.iconst 3, 1) := by decide +kernel
theorem dX12_isUnder_21 : decode cX12_isUnder 21 = .ok (.if_icmp .ne 12, 3) := by decide +kernel
theorem dX12_isUnder_24 : decode cX12_isUnder 24 = .ok (.iload_n 0, 1) := by decide +kernel
theorem dX12_isUnder_25 : decode cX12_isUnder 25 = .ok (.iconst 5, 1) := by decide +kernel
theorem dX12_isUnder_26 : decode cX12_isUnder 26 = .ok (.if_icmp .ne 7, 3) := by decide +kernel
theorem dX12_isUnder_29 : decode cX12_isUnder 29 = .ok (.iconst 1, 1) := by decide +kernel
theorem dX12_isUnder_30 : decode cX12_isUnder 30 = .ok (.goto 4, 3) := by decide +kernel
theorem dX12_isUnder_33 : decode cX12_isUnder 33 = .ok (.iconst 0, 1) := by decide +kernel
theorem dX12_isUnder_34 : decode cX12_isUnder 34 = .ok (.ireturn, 1) := by decide +kernel
theorem dX12_plainMeans_0 : decode cX12_plainMeans 0 = .ok (.aload_n 0, 1) := by decide +kernel
theorem dX12_plainMeans_1 : decode cX12_plainMeans 1 = .ok (.iconst 1, 1) := by decide +kernel
theorem dX12_plainMeans_2 : decode cX12_plainMeans 2 = .ok (.invokevirtual 298, 3) := by decide +kernel
theorem dX12_plainMeans_5 : decode cX12_plainMeans 5 = .ok (.iload_n 1, 1) := by decide +kernel
theorem dX12_plainMeans_6 : decode cX12_plainMeans 6 = .ok (.aload_n 0, 1) := by decide +kernel
theorem dX12_plainMeans_7 : decode cX12_plainMeans 7 = .ok (.getfield 301, 3) := by decide +kernel
theorem dX12_plainMeans_10 : decode cX12_plainMeans 10 = .ok (.iadd, 1) := by decide +kernel
theorem dX12_plainMeans_11 : decode cX12_plainMeans 11 = .ok (.ireturn, 1) := by decide +kernel
theorem dX12_meansActs_0 : decode cX12_meansActs 0 = .ok (.aload_n 0, 1) := by decide +kernel
theorem dX12_meansActs_1 : decode cX12_meansActs 1 = .ok (.getfield 304, 3) := by decide +kernel
theorem dX12_meansActs_4 : decode cX12_meansActs 4 = .ok (.iconst 1, 1) := by decide +kernel
theorem dX12_meansActs_5 : decode cX12_meansActs 5 = .ok (.if_icmp .ne 17, 3) := by decide +kernel
theorem dX12_meansActs_8 : decode cX12_meansActs 8 = .ok (.aload_n 0, 1) := by decide +kernel
theorem dX12_meansActs_9 : decode cX12_meansActs 9 = .ok (.bipush 11, 2) := by decide +kernel
theorem dX12_meansActs_11 : decode cX12_meansActs 11 = .ok (.invokevirtual 298, 3) := by decide +kernel
theorem dX12_meansActs_14 : decode cX12_meansActs 14 = .ok (.aload_n 0, 1) := by decide +kernel
theorem dX12_meansActs_15 : decode cX12_meansActs 15 = .ok (.iload_n 1, 1) := by decide +kernel
theorem dX12_meansActs_16 : decode cX12_meansActs 16 = .ok (.iconst 3, 1) := by decide +kernel
theorem dX12_meansActs_17 : decode cX12_meansActs 17 = .ok (.imul, 1) := by decide +kernel
theorem dX12_meansActs_18 : decode cX12_meansActs 18 = .ok (.invokevirtual 307, 3) := by decide +kernel
theorem dX12_meansActs_21 : decode cX12_meansActs 21 = .ok (.ireturn, 1) := by decide +kernel
theorem dX12_meansActs_22 : decode cX12_meansActs 22 = .ok (.aload_n 0, 1) := by decide +kernel
theorem dX12_meansActs_23 : decode cX12_meansActs 23 = .ok (.getfield 304, 3) := by decide +kernel
theorem dX12_meansActs_26 : decode cX12_meansActs 26 = .ok (.bipush 6, 2) := by decide +kernel
theorem dX12_meansActs_28 : decode cX12_meansActs 28 = .ok (.if_icmp .ne 20, 3) := by decide +kernel
theorem dX12_meansActs_31 : decode cX12_meansActs 31 = .ok (.aload_n 0, 1) := by decide +kernel
theorem dX12_meansActs_32 : decode cX12_meansActs 32 = .ok (.bipush 61, 2) := by decide +kernel
theorem dX12_meansActs_34 : decode cX12_meansActs 34 = .ok (.invokevirtual 298, 3) := by decide +kernel
theorem dX12_meansActs_37 : decode cX12_meansActs 37 = .ok (.aload_n 0, 1) := by decide +kernel
theorem dX12_meansActs_38 : decode cX12_meansActs 38 = .ok (.iload_n 1, 1) := by decide +kernel
theorem dX12_meansActs_39 : decode cX12_meansActs 39 = .ok (.invokevirtual 307, 3) := by decide +kernel
theorem dX12_meansActs_42 : decode cX12_meansActs 42 = .ok (.aload_n 0, 1) := by decide +kernel
theorem dX12_meansActs_43 : decode cX12_meansActs 43 = .ok (.getfield 310, 3) := by decide +kernel
theorem dX12_meansActs_46 : decode cX12_meansActs 46 = .ok (.iadd, 1) := by decide +kernel
theorem dX12_meansActs_47 : decode cX12_meansActs 47 = .ok (.ireturn, 1) := by decide +kernel
theorem dX12_meansActs_48 : decode cX12_meansActs 48 = .ok (.aload_n 0, 1) := by decide +kernel
theorem dX12_meansActs_49 : decode cX12_meansActs 49 = .ok (.iload_n 1, 1) := by decide +kernel
theorem dX12_meansActs_50 : decode cX12_meansActs 50 = .ok (.invokevirtual 307, 3) := by decide +kernel
theorem dX12_meansActs_53 : decode cX12_meansActs 53 = .ok (.ireturn, 1) := by decide +kernel
theorem dX12_plainRows_0 : decode cX12_plainRows 0 = .ok (.aload_n 0, 1) := by decide +kernel
theorem dX12_plainRows_1 : decode cX12_plainRows 1 = .ok (.iconst 2, 1) := by decide +kernel
theorem dX12_plainRows_2 : decode cX12_plainRows 2 = .ok (.invokevirtual 298, 3) := by decide +kernel
theorem dX12_plainRows_5 : decode cX12_plainRows 5 = .ok (.aload_n 0, 1) := by decide +kernel
theorem dX12_plainRows_6 : decode cX12_plainRows 6 = .ok (.iload_n 1, 1) := by decide +kernel
theorem dX12_plainRows_7 : decode cX12_plainRows 7 = .ok (.invokevirtual 313, 3) := by decide +kernel
theorem dX12_plainRows_10 : decode cX12_plainRows 10 = .ok (.aload_n 0, 1) := by decide +kernel
theorem dX12_plainRows_11 : decode cX12_plainRows 11 = .ok (.getfield 310, 3) := by decide +kernel
theorem dX12_plainRows_14 : decode cX12_plainRows 14 = .ok (.isub, 1) := by decide +kernel
theorem dX12_plainRows_15 : decode cX12_plainRows 15 = .ok (.ireturn, 1) := by decide +kernel
theorem dX12_rowsActs_0 : decode cX12_rowsActs 0 = .ok (.aload_n 0, 1) := by decide +kernel
theorem dX12_rowsActs_1 : decode cX12_rowsActs 1 = .ok (.getfield 304, 3) := by decide +kernel
theorem dX12_rowsActs_4 : decode cX12_rowsActs 4 = .ok (.iconst 5, 1) := by decide +kernel
theorem dX12_rowsActs_5 : decode cX12_rowsActs 5 = .ok (.if_icmp .ne 20, 3) := by decide +kernel
theorem dX12_rowsActs_8 : decode cX12_rowsActs 8 = .ok (.aload_n 0, 1) := by decide +kernel
theorem dX12_rowsActs_9 : decode cX12_rowsActs 9 = .ok (.bipush 51, 2) := by decide +kernel
theorem dX12_rowsActs_11 : decode cX12_rowsActs 11 = .ok (.invokevirtual 298, 3) := by decide +kernel
theorem dX12_rowsActs_14 : decode cX12_rowsActs 14 = .ok (.aload_n 0, 1) := by decide +kernel
theorem dX12_rowsActs_15 : decode cX12_rowsActs 15 = .ok (.iload_n 1, 1) := by decide +kernel
theorem dX12_rowsActs_16 : decode cX12_rowsActs 16 = .ok (.invokevirtual 316, 3) := by decide +kernel
theorem dX12_rowsActs_19 : decode cX12_rowsActs 19 = .ok (.aload_n 0, 1) := by decide +kernel
theorem dX12_rowsActs_20 : decode cX12_rowsActs 20 = .ok (.getfield 301, 3) := by decide +kernel
theorem dX12_rowsActs_23 : decode cX12_rowsActs 23 = .ok (.ixor, 1) := by decide +kernel
theorem dX12_rowsActs_24 : decode cX12_rowsActs 24 = .ok (.ireturn, 1) := by decide +kernel
theorem dX12_rowsActs_25 : decode cX12_rowsActs 25 = .ok (.aload_n 0, 1) := by decide +kernel
theorem dX12_rowsActs_26 : decode cX12_rowsActs 26 = .ok (.getfield 304, 3) := by decide +kernel
theorem dX12_rowsActs_29 : decode cX12_rowsActs 29 = .ok (.iconst 2, 1) := by decide +kernel
theorem dX12_rowsActs_30 : decode cX12_rowsActs 30 = .ok (.invokestatic 319, 3) := by decide +kernel
theorem dX12_rowsActs_33 : decode cX12_rowsActs 33 = .ok (.ifCond .eq 17, 3) := by decide +kernel
theorem dX12_rowsActs_36 : decode cX12_rowsActs 36 = .ok (.aload_n 0, 1) := by decide +kernel
theorem dX12_rowsActs_37 : decode cX12_rowsActs 37 = .ok (.bipush 21, 2) := by decide +kernel
theorem dX12_rowsActs_39 : decode cX12_rowsActs 39 = .ok (.invokevirtual 298, 3) := by decide +kernel
theorem dX12_rowsActs_42 : decode cX12_rowsActs 42 = .ok (.aload_n 0, 1) := by decide +kernel
theorem dX12_rowsActs_43 : decode cX12_rowsActs 43 = .ok (.iload_n 1, 1) := by decide +kernel
theorem dX12_rowsActs_44 : decode cX12_rowsActs 44 = .ok (.invokevirtual 316, 3) := by decide +kernel
theorem dX12_rowsActs_47 : decode cX12_rowsActs 47 = .ok (.iconst 5, 1) := by decide +kernel
theorem dX12_rowsActs_48 : decode cX12_rowsActs 48 = .ok (.ixor, 1) := by decide +kernel
theorem dX12_rowsActs_49 : decode cX12_rowsActs 49 = .ok (.ireturn, 1) := by decide +kernel
theorem dX12_rowsActs_50 : decode cX12_rowsActs 50 = .ok (.aload_n 0, 1) := by decide +kernel
theorem dX12_rowsActs_51 : decode cX12_rowsActs 51 = .ok (.iload_n 1, 1) := by decide +kernel
theorem dX12_rowsActs_52 : decode cX12_rowsActs 52 = .ok (.invokevirtual 316, 3) := by decide +kernel
theorem dX12_rowsActs_55 : decode cX12_rowsActs 55 = .ok (.ireturn, 1) := by decide +kernel
theorem dX12_plainEnds_0 : decode cX12_plainEnds 0 = .ok (.aload_n 0, 1) := by decide +kernel
theorem dX12_plainEnds_1 : decode cX12_plainEnds 1 = .ok (.iconst 3, 1) := by decide +kernel
theorem dX12_plainEnds_2 : decode cX12_plainEnds 2 = .ok (.invokevirtual 298, 3) := by decide +kernel
theorem dX12_plainEnds_5 : decode cX12_plainEnds 5 = .ok (.aload_n 0, 1) := by decide +kernel
theorem dX12_plainEnds_6 : decode cX12_plainEnds 6 = .ok (.iload_n 1, 1) := by decide +kernel
theorem dX12_plainEnds_7 : decode cX12_plainEnds 7 = .ok (.invokevirtual 322, 3) := by decide +kernel
theorem dX12_plainEnds_10 : decode cX12_plainEnds 10 = .ok (.iconst 2, 1) := by decide +kernel
theorem dX12_plainEnds_11 : decode cX12_plainEnds 11 = .ok (.imul, 1) := by decide +kernel
theorem dX12_plainEnds_12 : decode cX12_plainEnds 12 = .ok (.ireturn, 1) := by decide +kernel
theorem dX12_endsActs_0 : decode cX12_endsActs 0 = .ok (.aload_n 0, 1) := by decide +kernel
theorem dX12_endsActs_1 : decode cX12_endsActs 1 = .ok (.getfield 304, 3) := by decide +kernel
theorem dX12_endsActs_4 : decode cX12_endsActs 4 = .ok (.iconst 4, 1) := by decide +kernel
theorem dX12_endsActs_5 : decode cX12_endsActs 5 = .ok (.if_icmp .ne 25, 3) := by decide +kernel
theorem dX12_endsActs_8 : decode cX12_endsActs 8 = .ok (.aload_n 0, 1) := by decide +kernel
theorem dX12_endsActs_9 : decode cX12_endsActs 9 = .ok (.bipush 41, 2) := by decide +kernel
theorem dX12_endsActs_11 : decode cX12_endsActs 11 = .ok (.invokevirtual 298, 3) := by decide +kernel
theorem dX12_endsActs_14 : decode cX12_endsActs 14 = .ok (.aload_n 0, 1) := by decide +kernel
theorem dX12_endsActs_15 : decode cX12_endsActs 15 = .ok (.iload_n 1, 1) := by decide +kernel
theorem dX12_endsActs_16 : decode cX12_endsActs 16 = .ok (.iconst 1, 1) := by decide +kernel
theorem dX12_endsActs_17 : decode cX12_endsActs 17 = .ok (.iadd, 1) := by decide +kernel
theorem dX12_endsActs_18 : decode cX12_endsActs 18 = .ok (.invokevirtual 325, 3) := by decide +kernel
theorem dX12_endsActs_21 : decode cX12_endsActs 21 = .ok (.istore_n 2, 1) := by decide +kernel
theorem dX12_endsActs_22 : decode cX12_endsActs 22 = .ok (.iload_n 2, 1) := by decide +kernel
theorem dX12_endsActs_23 : decode cX12_endsActs 23 = .ok (.aload_n 0, 1) := by decide +kernel
theorem dX12_endsActs_24 : decode cX12_endsActs 24 = .ok (.iconst 2, 1) := by decide +kernel
theorem dX12_endsActs_25 : decode cX12_endsActs 25 = .ok (.invokevirtual 313, 3) := by decide +kernel
theorem dX12_endsActs_28 : decode cX12_endsActs 28 = .ok (.iadd, 1) := by decide +kernel
theorem dX12_endsActs_29 : decode cX12_endsActs 29 = .ok (.ireturn, 1) := by decide +kernel
theorem dX12_endsActs_30 : decode cX12_endsActs 30 = .ok (.aload_n 0, 1) := by decide +kernel
theorem dX12_endsActs_31 : decode cX12_endsActs 31 = .ok (.getfield 304, 3) := by decide +kernel
theorem dX12_endsActs_34 : decode cX12_endsActs 34 = .ok (.iconst 3, 1) := by decide +kernel
theorem dX12_endsActs_35 : decode cX12_endsActs 35 = .ok (.invokestatic 319, 3) := by decide +kernel
theorem dX12_endsActs_38 : decode cX12_endsActs 38 = .ok (.ifCond .eq 16, 3) := by decide +kernel
theorem dX12_endsActs_41 : decode cX12_endsActs 41 = .ok (.aload_n 0, 1) := by decide +kernel
theorem dX12_endsActs_42 : decode cX12_endsActs 42 = .ok (.bipush 31, 2) := by decide +kernel
theorem dX12_endsActs_44 : decode cX12_endsActs 44 = .ok (.invokevirtual 298, 3) := by decide +kernel
theorem dX12_endsActs_47 : decode cX12_endsActs 47 = .ok (.aload_n 0, 1) := by decide +kernel
theorem dX12_endsActs_48 : decode cX12_endsActs 48 = .ok (.iload_n 1, 1) := by decide +kernel
theorem dX12_endsActs_49 : decode cX12_endsActs 49 = .ok (.invokevirtual 325, 3) := by decide +kernel
theorem dX12_endsActs_52 : decode cX12_endsActs 52 = .ok (.ineg, 1) := by decide +kernel
theorem dX12_endsActs_53 : decode cX12_endsActs 53 = .ok (.ireturn, 1) := by decide +kernel
theorem dX12_endsActs_54 : decode cX12_endsActs 54 = .ok (.aload_n 0, 1) := by decide +kernel
theorem dX12_endsActs_55 : decode cX12_endsActs 55 = .ok (.iload_n 1, 1) := by decide +kernel
theorem dX12_endsActs_56 : decode cX12_endsActs 56 = .ok (.invokevirtual 325, 3) := by decide +kernel
theorem dX12_endsActs_59 : decode cX12_endsActs 59 = .ok (.ireturn, 1) := by decide +kernel
theorem dX12_act_0 : decode cX12_act 0 = .ok (.aload_n 0, 1) := by decide +kernel
theorem dX12_act_1 : decode cX12_act 1 = .ok (.iconst 0, 1) := by decide +kernel
theorem dX12_act_2 : decode cX12_act 2 = .ok (.putfield 295, 3) := by decide +kernel
theorem dX12_act_5 : decode cX12_act 5 = .ok (.aload_n 0, 1) := by decide +kernel
theorem dX12_act_6 : decode cX12_act 6 = .ok (.iload_n 1, 1) := by decide +kernel
theorem dX12_act_7 : decode cX12_act 7 = .ok (.invokevirtual 220, 3) := by decide +kernel
theorem dX12_act_10 : decode cX12_act 10 = .ok (.ifCond .eq 12, 3) := by decide +kernel
theorem dX12_act_13 : decode cX12_act 13 = .ok (.iload_n 2, 1) := by decide +kernel
theorem dX12_act_14 : decode cX12_act 14 = .ok (.iconst 0, 1) := by decide +kernel
theorem dX12_act_15 : decode cX12_act 15 = .ok (.iconst 2, 1) := by decide +kernel
theorem dX12_act_16 : decode cX12_act 16 = .ok (.invokestatic 69, 3) := by decide +kernel
theorem dX12_act_19 : decode cX12_act 19 = .ok (.ifCond .ne 5, 3) := by decide +kernel
theorem dX12_act_22 : decode cX12_act 22 = .ok (.iconst 0, 1) := by decide +kernel
theorem dX12_act_23 : decode cX12_act 23 = .ok (.ireturn, 1) := by decide +kernel
theorem dX12_act_24 : decode cX12_act 24 = .ok (.aload_n 0, 1) := by decide +kernel
theorem dX12_act_25 : decode cX12_act 25 = .ok (.aload_n 0, 1) := by decide +kernel
theorem dX12_act_26 : decode cX12_act 26 = .ok (.getfield 9, 3) := by decide +kernel
theorem dX12_act_29 : decode cX12_act 29 = .ok (.sipush 1070, 3) := by decide +kernel
theorem dX12_act_32 : decode cX12_act 32 = .ok (.iload_n 1, 1) := by decide +kernel
theorem dX12_act_33 : decode cX12_act 33 = .ok (.iadd, 1) := by decide +kernel
theorem dX12_act_34 : decode cX12_act 34 = .ok (.iaload, 1) := by decide +kernel
theorem dX12_act_35 : decode cX12_act 35 = .ok (.putfield 304, 3) := by decide +kernel
theorem dX12_act_38 : decode cX12_act 38 = .ok (.aload_n 0, 1) := by decide +kernel
theorem dX12_act_39 : decode cX12_act 39 = .ok (.iload_n 1, 1) := by decide +kernel
theorem dX12_act_40 : decode cX12_act 40 = .ok (.putfield 301, 3) := by decide +kernel
theorem dX12_act_43 : decode cX12_act 43 = .ok (.aload_n 0, 1) := by decide +kernel
theorem dX12_act_44 : decode cX12_act 44 = .ok (.aload_n 0, 1) := by decide +kernel
theorem dX12_act_45 : decode cX12_act 45 = .ok (.getfield 9, 3) := by decide +kernel
theorem dX12_act_48 : decode cX12_act 48 = .ok (.sipush 1082, 3) := by decide +kernel
theorem dX12_act_51 : decode cX12_act 51 = .ok (.iload_n 1, 1) := by decide +kernel
theorem dX12_act_52 : decode cX12_act 52 = .ok (.iadd, 1) := by decide +kernel
theorem dX12_act_53 : decode cX12_act 53 = .ok (.iaload, 1) := by decide +kernel
theorem dX12_act_54 : decode cX12_act 54 = .ok (.putfield 310, 3) := by decide +kernel
theorem dX12_act_57 : decode cX12_act 57 = .ok (.iload_n 2, 1) := by decide +kernel
theorem dX12_act_58 : decode cX12_act 58 = .ok (.ifCond .ne 11, 3) := by decide +kernel
theorem dX12_act_61 : decode cX12_act 61 = .ok (.aload_n 0, 1) := by decide +kernel
theorem dX12_act_62 : decode cX12_act 62 = .ok (.iload_n 3, 1) := by decide +kernel
theorem dX12_act_63 : decode cX12_act 63 = .ok (.invokevirtual 313, 3) := by decide +kernel
theorem dX12_act_66 : decode cX12_act 66 = .ok (.goto 21, 3) := by decide +kernel
theorem dX12_act_69 : decode cX12_act 69 = .ok (.iload_n 2, 1) := by decide +kernel
theorem dX12_act_70 : decode cX12_act 70 = .ok (.iconst 1, 1) := by decide +kernel
theorem dX12_act_71 : decode cX12_act 71 = .ok (.if_icmp .ne 11, 3) := by decide +kernel
theorem dX12_act_74 : decode cX12_act 74 = .ok (.aload_n 0, 1) := by decide +kernel
theorem dX12_act_75 : decode cX12_act 75 = .ok (.iload_n 3, 1) := by decide +kernel
theorem dX12_act_76 : decode cX12_act 76 = .ok (.invokevirtual 322, 3) := by decide +kernel
theorem dX12_act_79 : decode cX12_act 79 = .ok (.goto 8, 3) := by decide +kernel
theorem dX12_act_82 : decode cX12_act 82 = .ok (.aload_n 0, 1) := by decide +kernel
theorem dX12_act_83 : decode cX12_act 83 = .ok (.iload_n 3, 1) := by decide +kernel
theorem dX12_act_84 : decode cX12_act 84 = .ok (.invokevirtual 328, 3) := by decide +kernel
theorem dX12_act_87 : decode cX12_act 87 = .ok (.ireturn, 1) := by decide +kernel
theorem dX12_trace_0 : decode cX12_trace 0 = .ok (.iload_n 1, 1) := by decide +kernel
theorem dX12_trace_1 : decode cX12_trace 1 = .ok (.iconst 0, 1) := by decide +kernel
theorem dX12_trace_2 : decode cX12_trace 2 = .ok (.aload_n 0, 1) := by decide +kernel
theorem dX12_trace_3 : decode cX12_trace 3 = .ok (.getfield 295, 3) := by decide +kernel
theorem dX12_trace_6 : decode cX12_trace 6 = .ok (.bipush 20, 2) := by decide +kernel
theorem dX12_trace_8 : decode cX12_trace 8 = .ok (.if_icmp .ge 10, 3) := by decide +kernel
theorem dX12_trace_11 : decode cX12_trace 11 = .ok (.aload_n 0, 1) := by decide +kernel
theorem dX12_trace_12 : decode cX12_trace 12 = .ok (.getfield 295, 3) := by decide +kernel
theorem dX12_trace_15 : decode cX12_trace 15 = .ok (.goto 5, 3) := by decide +kernel
theorem dX12_trace_18 : decode cX12_trace 18 = .ok (.bipush 20, 2) := by decide +kernel
theorem dX12_trace_20 : decode cX12_trace 20 = .ok (.iconst 1, 1) := by decide +kernel
theorem dX12_trace_21 : decode cX12_trace 21 = .ok (.isub, 1) := by decide +kernel
theorem dX12_trace_22 : decode cX12_trace 22 = .ok (.invokestatic 69, 3) := by decide +kernel
theorem dX12_trace_25 : decode cX12_trace 25 = .ok (.ifCond .eq 12, 3) := by decide +kernel
theorem dX12_trace_28 : decode cX12_trace 28 = .ok (.aload_n 0, 1) := by decide +kernel
theorem dX12_trace_29 : decode cX12_trace 29 = .ok (.getfield 63, 3) := by decide +kernel
theorem dX12_trace_32 : decode cX12_trace 32 = .ok (.iload_n 1, 1) := by decide +kernel
theorem dX12_trace_33 : decode cX12_trace 33 = .ok (.iaload, 1) := by decide +kernel
theorem dX12_trace_34 : decode cX12_trace 34 = .ok (.goto 4, 3) := by decide +kernel
theorem dX12_trace_37 : decode cX12_trace 37 = .ok (.iconst (-1), 1) := by decide +kernel
theorem dX12_trace_38 : decode cX12_trace 38 = .ok (.ireturn, 1) := by decide +kernel
theorem dX12_as_0 : decode cX12_as 0 = .ok (.aload_n 0, 1) := by decide +kernel
theorem dX12_as_1 : decode cX12_as 1 = .ok (.iload_n 1, 1) := by decide +kernel
theorem dX12_as_2 : decode cX12_as 2 = .ok (.invokevirtual 220, 3) := by decide +kernel
theorem dX12_as_5 : decode cX12_as 5 = .ok (.ifCond .eq 13, 3) := by decide +kernel
theorem dX12_as_8 : decode cX12_as 8 = .ok (.iload_n 2, 1) := by decide +kernel
theorem dX12_as_9 : decode cX12_as 9 = .ok (.iconst 0, 1) := by decide +kernel
theorem dX12_as_10 : decode cX12_as 10 = .ok (.bipush 6, 2) := by decide +kernel
theorem dX12_as_12 : decode cX12_as 12 = .ok (.invokestatic 69, 3) := by decide +kernel
theorem dX12_as_15 : decode cX12_as 15 = .ok (.ifCond .ne 5, 3) := by decide +kernel
theorem dX12_as_18 : decode cX12_as 18 = .ok (.iconst (-1), 1) := by decide +kernel
theorem dX12_as_19 : decode cX12_as 19 = .ok (.ireturn, 1) := by decide +kernel
theorem dX12_as_20 : decode cX12_as 20 = .ok (.aload_n 0, 1) := by decide +kernel
theorem dX12_as_21 : decode cX12_as 21 = .ok (.getfield 9, 3) := by decide +kernel
theorem dX12_as_24 : decode cX12_as 24 = .ok (.sipush 1070, 3) := by decide +kernel
theorem dX12_as_27 : decode cX12_as 27 = .ok (.iload_n 1, 1) := by decide +kernel
theorem dX12_as_28 : decode cX12_as 28 = .ok (.iadd, 1) := by decide +kernel
theorem dX12_as_29 : decode cX12_as 29 = .ok (.iaload, 1) := by decide +kernel
theorem dX12_as_30 : decode cX12_as 30 = .ok (.iload_n 2, 1) := by decide +kernel
theorem dX12_as_31 : decode cX12_as 31 = .ok (.invokestatic 319, 3) := by decide +kernel
theorem dX12_as_34 : decode cX12_as 34 = .ok (.ifCond .eq 16, 3) := by decide +kernel
theorem dX12_as_37 : decode cX12_as 37 = .ok (.aload_n 0, 1) := by decide +kernel
theorem dX12_as_38 : decode cX12_as 38 = .ok (.getfield 9, 3) := by decide +kernel
theorem dX12_as_41 : decode cX12_as 41 = .ok (.sipush 1082, 3) := by decide +kernel
theorem dX12_as_44 : decode cX12_as 44 = .ok (.iload_n 1, 1) := by decide +kernel
theorem dX12_as_45 : decode cX12_as 45 = .ok (.iadd, 1) := by decide +kernel
theorem dX12_as_46 : decode cX12_as 46 = .ok (.iaload, 1) := by decide +kernel
theorem dX12_as_47 : decode cX12_as 47 = .ok (.goto 5, 3) := by decide +kernel
theorem dX12_as_50 : decode cX12_as 50 = .ok (.bipush (-6), 2) := by decide +kernel
theorem dX12_as_52 : decode cX12_as 52 = .ok (.ireturn, 1) := by decide +kernel
theorem dX12_image_0 : decode cX12_image 0 = .ok (.iconst 0, 1) := by decide +kernel
theorem dX12_image_1 : decode cX12_image 1 = .ok (.istore_n 1, 1) := by decide +kernel
theorem dX12_image_2 : decode cX12_image 2 = .ok (.iload_n 1, 1) := by decide +kernel
theorem dX12_image_3 : decode cX12_image 3 = .ok (.sipush 1240, 3) := by decide +kernel
theorem dX12_image_6 : decode cX12_image 6 = .ok (.if_icmp .ge 21, 3) := by decide +kernel
theorem dX12_image_9 : decode cX12_image 9 = .ok (.aload_n 0, 1) := by decide +kernel
theorem dX12_image_10 : decode cX12_image 10 = .ok (.getfield 15, 3) := by decide +kernel
theorem dX12_image_13 : decode cX12_image 13 = .ok (.iload_n 1, 1) := by decide +kernel
theorem dX12_image_14 : decode cX12_image 14 = .ok (.aload_n 0, 1) := by decide +kernel
theorem dX12_image_15 : decode cX12_image 15 = .ok (.getfield 9, 3) := by decide +kernel
theorem dX12_image_18 : decode cX12_image 18 = .ok (.iload_n 1, 1) := by decide +kernel
theorem dX12_image_19 : decode cX12_image 19 = .ok (.iaload, 1) := by decide +kernel
theorem dX12_image_20 : decode cX12_image 20 = .ok (.iastore, 1) := by decide +kernel
theorem dX12_image_21 : decode cX12_image 21 = .ok (.iinc 1 1, 3) := by decide +kernel
theorem dX12_image_24 : decode cX12_image 24 = .ok (.goto (-22), 3) := by decide +kernel
theorem dX12_image_27 : decode cX12_image 27 = .ok (.aload_n 0, 1) := by decide +kernel
theorem dX12_image_28 : decode cX12_image 28 = .ok (.iconst 1, 1) := by decide +kernel
theorem dX12_image_29 : decode cX12_image 29 = .ok (.putfield 331, 3) := by decide +kernel
theorem dX12_image_32 : decode cX12_image 32 = .ok (.aload_n 0, 1) := by decide +kernel
theorem dX12_image_33 : decode cX12_image 33 = .ok (.getfield 9, 3) := by decide +kernel
theorem dX12_image_36 : decode cX12_image 36 = .ok (.iconst 3, 1) := by decide +kernel
theorem dX12_image_37 : decode cX12_image 37 = .ok (.iaload, 1) := by decide +kernel
theorem dX12_image_38 : decode cX12_image 38 = .ok (.ireturn, 1) := by decide +kernel
theorem dX12_undo_0 : decode cX12_undo 0 = .ok (.aload_n 0, 1) := by decide +kernel
theorem dX12_undo_1 : decode cX12_undo 1 = .ok (.getfield 331, 3) := by decide +kernel
theorem dX12_undo_4 : decode cX12_undo 4 = .ok (.ifCond .ne 6, 3) := by decide +kernel
theorem dX12_undo_7 : decode cX12_undo 7 = .ok (.bipush (-3), 2) := by decide +kernel
theorem dX12_undo_9 : decode cX12_undo 9 = .ok (.ireturn, 1) := by decide +kernel
theorem dX12_undo_10 : decode cX12_undo 10 = .ok (.iconst 0, 1) := by decide +kernel
theorem dX12_undo_11 : decode cX12_undo 11 = .ok (.istore_n 1, 1) := by decide +kernel
theorem dX12_undo_12 : decode cX12_undo 12 = .ok (.iload_n 1, 1) := by decide +kernel
theorem dX12_undo_13 : decode cX12_undo 13 = .ok (.sipush 1240, 3) := by decide +kernel
theorem dX12_undo_16 : decode cX12_undo 16 = .ok (.if_icmp .ge 21, 3) := by decide +kernel
theorem dX12_undo_19 : decode cX12_undo 19 = .ok (.aload_n 0, 1) := by decide +kernel
theorem dX12_undo_20 : decode cX12_undo 20 = .ok (.getfield 9, 3) := by decide +kernel
theorem dX12_undo_23 : decode cX12_undo 23 = .ok (.iload_n 1, 1) := by decide +kernel
theorem dX12_undo_24 : decode cX12_undo 24 = .ok (.aload_n 0, 1) := by decide +kernel
theorem dX12_undo_25 : decode cX12_undo 25 = .ok (.getfield 15, 3) := by decide +kernel
theorem dX12_undo_28 : decode cX12_undo 28 = .ok (.iload_n 1, 1) := by decide +kernel
theorem dX12_undo_29 : decode cX12_undo 29 = .ok (.iaload, 1) := by decide +kernel
theorem dX12_undo_30 : decode cX12_undo 30 = .ok (.iastore, 1) := by decide +kernel
theorem dX12_undo_31 : decode cX12_undo 31 = .ok (.iinc 1 1, 3) := by decide +kernel
theorem dX12_undo_34 : decode cX12_undo 34 = .ok (.goto (-22), 3) := by decide +kernel
theorem dX12_undo_37 : decode cX12_undo 37 = .ok (.aload_n 0, 1) := by decide +kernel
theorem dX12_undo_38 : decode cX12_undo 38 = .ok (.getfield 9, 3) := by decide +kernel
theorem dX12_undo_41 : decode cX12_undo 41 = .ok (.iconst 3, 1) := by decide +kernel
theorem dX12_undo_42 : decode cX12_undo 42 = .ok (.iaload, 1) := by decide +kernel
theorem dX12_undo_43 : decode cX12_undo 43 = .ok (.ireturn, 1) := by decide +kernel
theorem dX12_count_0 : decode cX12_count 0 = .ok (.iload_n 1, 1) := by decide +kernel
theorem dX12_count_1 : decode cX12_count 1 = .ok (.tableswitch 90 0 6 #[43, 50, 57, 64, 71, 78, 85], 43) := by decide +kernel
theorem dX12_count_44 : decode cX12_count 44 = .ok (.aload_n 0, 1) := by decide +kernel
theorem dX12_count_45 : decode cX12_count 45 = .ok (.getfield 9, 3) := by decide +kernel
theorem dX12_count_48 : decode cX12_count 48 = .ok (.iconst 0, 1) := by decide +kernel
theorem dX12_count_49 : decode cX12_count 49 = .ok (.iaload, 1) := by decide +kernel
theorem dX12_count_50 : decode cX12_count 50 = .ok (.ireturn, 1) := by decide +kernel
theorem dX12_count_51 : decode cX12_count 51 = .ok (.aload_n 0, 1) := by decide +kernel
theorem dX12_count_52 : decode cX12_count 52 = .ok (.getfield 9, 3) := by decide +kernel
theorem dX12_count_55 : decode cX12_count 55 = .ok (.iconst 1, 1) := by decide +kernel
theorem dX12_count_56 : decode cX12_count 56 = .ok (.iaload, 1) := by decide +kernel
theorem dX12_count_57 : decode cX12_count 57 = .ok (.ireturn, 1) := by decide +kernel
theorem dX12_count_58 : decode cX12_count 58 = .ok (.aload_n 0, 1) := by decide +kernel
theorem dX12_count_59 : decode cX12_count 59 = .ok (.getfield 9, 3) := by decide +kernel
theorem dX12_count_62 : decode cX12_count 62 = .ok (.iconst 2, 1) := by decide +kernel
theorem dX12_count_63 : decode cX12_count 63 = .ok (.iaload, 1) := by decide +kernel
theorem dX12_count_64 : decode cX12_count 64 = .ok (.ireturn, 1) := by decide +kernel
theorem dX12_count_65 : decode cX12_count 65 = .ok (.aload_n 0, 1) := by decide +kernel
theorem dX12_count_66 : decode cX12_count 66 = .ok (.getfield 9, 3) := by decide +kernel
theorem dX12_count_69 : decode cX12_count 69 = .ok (.iconst 3, 1) := by decide +kernel
theorem dX12_count_70 : decode cX12_count 70 = .ok (.iaload, 1) := by decide +kernel
theorem dX12_count_71 : decode cX12_count 71 = .ok (.ireturn, 1) := by decide +kernel
theorem dX12_count_72 : decode cX12_count 72 = .ok (.aload_n 0, 1) := by decide +kernel
theorem dX12_count_73 : decode cX12_count 73 = .ok (.getfield 9, 3) := by decide +kernel
theorem dX12_count_76 : decode cX12_count 76 = .ok (.iconst 4, 1) := by decide +kernel
theorem dX12_count_77 : decode cX12_count 77 = .ok (.iaload, 1) := by decide +kernel
theorem dX12_count_78 : decode cX12_count 78 = .ok (.ireturn, 1) := by decide +kernel
theorem dX12_count_79 : decode cX12_count 79 = .ok (.aload_n 0, 1) := by decide +kernel
theorem dX12_count_80 : decode cX12_count 80 = .ok (.getfield 9, 3) := by decide +kernel
theorem dX12_count_83 : decode cX12_count 83 = .ok (.iconst 5, 1) := by decide +kernel
theorem dX12_count_84 : decode cX12_count 84 = .ok (.iaload, 1) := by decide +kernel
theorem dX12_count_85 : decode cX12_count 85 = .ok (.ireturn, 1) := by decide +kernel
theorem dX12_count_86 : decode cX12_count 86 = .ok (.aload_n 0, 1) := by decide +kernel
theorem dX12_count_87 : decode cX12_count 87 = .ok (.getfield 295, 3) := by decide +kernel
theorem dX12_count_90 : decode cX12_count 90 = .ok (.ireturn, 1) := by decide +kernel
theorem dX12_count_91 : decode cX12_count 91 = .ok (.iconst (-1), 1) := by decide +kernel
theorem dX12_count_92 : decode cX12_count 92 = .ok (.ireturn, 1) := by decide +kernel
