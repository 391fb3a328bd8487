theorem dX0_init_0 : decode cX0_init 0 = .ok (.aload_n 0, 1) := by decide +kernel
theorem dX0_init_1 : decode cX0_init 1 = .ok (.invokespecial 3, 3) := by decide +kernel
theorem dX0_init_4 : decode cX0_init 4 = .ok (.aload_n 0, 1) := by decide +kernel
theorem dX0_init_5 : decode cX0_init 5 = .ok (.bipush 120, 2) := by decide +kernel
theorem dX0_init_7 : decode cX0_init 7 = .ok (.newarray .byte, 2) := by decide +kernel
theorem dX0_init_9 : decode cX0_init 9 = .ok (.putfield 9, 3) := by decide +kernel
theorem dX0_init_12 : decode cX0_init 12 = .ok (.aload_n 0, 1) := by decide +kernel
theorem dX0_init_13 : decode cX0_init 13 = .ok (.iconst 0, 1) := by decide +kernel
theorem dX0_init_14 : decode cX0_init 14 = .ok (.putfield 15, 3) := by decide +kernel
theorem dX0_init_17 : decode cX0_init 17 = .ok (.aload_n 0, 1) := by decide +kernel
theorem dX0_init_18 : decode cX0_init 18 = .ok (.bipush 6, 2) := by decide +kernel
theorem dX0_init_20 : decode cX0_init 20 = .ok (.anewarray 19, 3) := by decide +kernel
theorem dX0_init_23 : decode cX0_init 23 = .ok (.putfield 21, 3) := by decide +kernel
theorem dX0_init_26 : decode cX0_init 26 = .ok (.aload_n 0, 1) := by decide +kernel
theorem dX0_init_27 : decode cX0_init 27 = .ok (.iconst 0, 1) := by decide +kernel
theorem dX0_init_28 : decode cX0_init 28 = .ok (.putfield 25, 3) := by decide +kernel
theorem dX0_init_31 : decode cX0_init 31 = .ok (.aload_n 0, 1) := by decide +kernel
theorem dX0_init_32 : decode cX0_init 32 = .ok (.bipush 8, 2) := by decide +kernel
theorem dX0_init_34 : decode cX0_init 34 = .ok (.newarray .int, 2) := by decide +kernel
theorem dX0_init_36 : decode cX0_init 36 = .ok (.putfield 28, 3) := by decide +kernel
theorem dX0_init_39 : decode cX0_init 39 = .ok (.aload_n 0, 1) := by decide +kernel
theorem dX0_init_40 : decode cX0_init 40 = .ok (.bipush 8, 2) := by decide +kernel
theorem dX0_init_42 : decode cX0_init 42 = .ok (.newarray .int, 2) := by decide +kernel
theorem dX0_init_44 : decode cX0_init 44 = .ok (.putfield 32, 3) := by decide +kernel
theorem dX0_init_47 : decode cX0_init 47 = .ok (.aload_n 0, 1) := by decide +kernel
theorem dX0_init_48 : decode cX0_init 48 = .ok (.bipush 8, 2) := by decide +kernel
theorem dX0_init_50 : decode cX0_init 50 = .ok (.newarray .int, 2) := by decide +kernel
theorem dX0_init_52 : decode cX0_init 52 = .ok (.putfield 35, 3) := by decide +kernel
theorem dX0_init_55 : decode cX0_init 55 = .ok (.aload_n 0, 1) := by decide +kernel
theorem dX0_init_56 : decode cX0_init 56 = .ok (.bipush 8, 2) := by decide +kernel
theorem dX0_init_58 : decode cX0_init 58 = .ok (.newarray .int, 2) := by decide +kernel
theorem dX0_init_60 : decode cX0_init 60 = .ok (.putfield 38, 3) := by decide +kernel
theorem dX0_init_63 : decode cX0_init 63 = .ok (.aload_n 0, 1) := by decide +kernel
theorem dX0_init_64 : decode cX0_init 64 = .ok (.bipush 8, 2) := by decide +kernel
theorem dX0_init_66 : decode cX0_init 66 = .ok (.newarray .int, 2) := by decide +kernel
theorem dX0_init_68 : decode cX0_init 68 = .ok (.putfield 41, 3) := by decide +kernel
theorem dX0_init_71 : decode cX0_init 71 = .ok (.aload_n 0, 1) := by decide +kernel
theorem dX0_init_72 : decode cX0_init 72 = .ok (.bipush 8, 2) := by decide +kernel
theorem dX0_init_74 : decode cX0_init 74 = .ok (.newarray .int, 2) := by decide +kernel
theorem dX0_init_76 : decode cX0_init 76 = .ok (.putfield 44, 3) := by decide +kernel
theorem dX0_init_79 : decode cX0_init 79 = .ok (.aload_n 0, 1) := by decide +kernel
theorem dX0_init_80 : decode cX0_init 80 = .ok (.bipush 8, 2) := by decide +kernel
theorem dX0_init_82 : decode cX0_init 82 = .ok (.newarray .boolean, 2) := by decide +kernel
theorem dX0_init_84 : decode cX0_init 84 = .ok (.putfield 47, 3) := by decide +kernel
theorem dX0_init_87 : decode cX0_init 87 = .ok (.aload_n 0, 1) := by decide +kernel
theorem dX0_init_88 : decode cX0_init 88 = .ok (.iconst 0, 1) := by decide +kernel
theorem dX0_init_89 : decode cX0_init 89 = .ok (.putfield 51, 3) := by decide +kernel
theorem dX0_init_92 : decode cX0_init 92 = .ok (.aload_n 0, 1) := by decide +kernel
theorem dX0_init_93 : decode cX0_init 93 = .ok (.bipush 12, 2) := by decide +kernel
theorem dX0_init_95 : decode cX0_init 95 = .ok (.anewarray 54, 3) := by decide +kernel
theorem dX0_init_98 : decode cX0_init 98 = .ok (.putfield 56, 3) := by decide +kernel
theorem dX0_init_101 : decode cX0_init 101 = .ok (.aload_n 0, 1) := by decide +kernel
theorem dX0_init_102 : decode cX0_init 102 = .ok (.bipush 12, 2) := by decide +kernel
theorem dX0_init_104 : decode cX0_init 104 = .ok (.newarray .int, 2) := by decide +kernel
theorem dX0_init_106 : decode cX0_init 106 = .ok (.putfield 60, 3) := by decide +kernel
theorem dX0_init_109 : decode cX0_init 109 = .ok (.aload_n 0, 1) := by decide +kernel
theorem dX0_init_110 : decode cX0_init 110 = .ok (.bipush 12, 2) := by decide +kernel
theorem dX0_init_112 : decode cX0_init 112 = .ok (.bipush 10, 2) := by decide +kernel
theorem dX0_init_114 : decode cX0_init 114 = .ok (.multianewarray 63 2, 4) := by decide +kernel
theorem dX0_init_118 : decode cX0_init 118 = .ok (.putfield 65, 3) := by decide +kernel
theorem dX0_init_121 : decode cX0_init 121 = .ok (.aload_n 0, 1) := by decide +kernel
theorem dX0_init_122 : decode cX0_init 122 = .ok (.iconst 0, 1) := by decide +kernel
theorem dX0_init_123 : decode cX0_init 123 = .ok (.putfield 68, 3) := by decide +kernel
theorem dX0_init_126 : decode cX0_init 126 = .ok (.aload_n 0, 1) := by decide +kernel
theorem dX0_init_127 : decode cX0_init 127 = .ok (.iconst 0, 1) := by decide +kernel
theorem dX0_init_128 : decode cX0_init 128 = .ok (.putfield 71, 3) := by decide +kernel
theorem dX0_init_131 : decode cX0_init 131 = .ok (.aload_n 0, 1) := by decide +kernel
theorem dX0_init_132 : decode cX0_init 132 = .ok (.iconst 1, 1) := by decide +kernel
theorem dX0_init_133 : decode cX0_init 133 = .ok (.putfield 74, 3) := by decide +kernel
theorem dX0_init_136 : decode cX0_init 136 = .ok (.return_, 1) := by decide +kernel
theorem dX0_copyFrom_0 : decode cX0_copyFrom 0 = .ok (.aload_n 1, 1) := by decide +kernel
theorem dX0_copyFrom_1 : decode cX0_copyFrom 1 = .ok (.getfield 9, 3) := by decide +kernel
theorem dX0_copyFrom_4 : decode cX0_copyFrom 4 = .ok (.iconst 0, 1) := by decide +kernel
theorem dX0_copyFrom_5 : decode cX0_copyFrom 5 = .ok (.aload_n 0, 1) := by decide +kernel
theorem dX0_copyFrom_6 : decode cX0_copyFrom 6 = .ok (.getfield 9, 3) := by decide +kernel
theorem dX0_copyFrom_9 : decode cX0_copyFrom 9 = .ok (.iconst 0, 1) := by decide +kernel
theorem dX0_copyFrom_10 : decode cX0_copyFrom 10 = .ok (.bipush 120, 2) := by decide +kernel
theorem dX0_copyFrom_12 : decode cX0_copyFrom 12 = .ok (.invokestatic 77, 3) := by decide +kernel
theorem dX0_copyFrom_15 : decode cX0_copyFrom 15 = .ok (.aload_n 0, 1) := by decide +kernel
theorem dX0_copyFrom_16 : decode cX0_copyFrom 16 = .ok (.aload_n 1, 1) := by decide +kernel
theorem dX0_copyFrom_17 : decode cX0_copyFrom 17 = .ok (.getfield 15, 3) := by decide +kernel
theorem dX0_copyFrom_20 : decode cX0_copyFrom 20 = .ok (.putfield 15, 3) := by decide +kernel
theorem dX0_copyFrom_23 : decode cX0_copyFrom 23 = .ok (.iconst 0, 1) := by decide +kernel
theorem dX0_copyFrom_24 : decode cX0_copyFrom 24 = .ok (.istore_n 2, 1) := by decide +kernel
theorem dX0_copyFrom_25 : decode cX0_copyFrom 25 = .ok (.iload_n 2, 1) := by decide +kernel
theorem dX0_copyFrom_26 : decode cX0_copyFrom 26 = .ok (.bipush 6, 2) := by decide +kernel
theorem dX0_copyFrom_28 : decode cX0_copyFrom 28 = .ok (.if_icmp .ge 21, 3) := by decide +kernel
theorem dX0_copyFrom_31 : decode cX0_copyFrom 31 = .ok (.aload_n 0, 1) := by decide +kernel
theorem dX0_copyFrom_32 : decode cX0_copyFrom 32 = .ok (.getfield 21, 3) := by decide +kernel
theorem dX0_copyFrom_35 : decode cX0_copyFrom 35 = .ok (.iload_n 2, 1) := by decide +kernel
theorem dX0_copyFrom_36 : decode cX0_copyFrom 36 = .ok (.aload_n 1, 1) := by decide +kernel
theorem dX0_copyFrom_37 : decode cX0_copyFrom 37 = .ok (.getfield 21, 3) := by decide +kernel
theorem dX0_copyFrom_40 : decode cX0_copyFrom 40 = .ok (.iload_n 2, 1) := by decide +kernel
theorem dX0_copyFrom_41 : decode cX0_copyFrom 41 = .ok (.aaload, 1) := by decide +kernel
theorem dX0_copyFrom_42 : decode cX0_copyFrom 42 = .ok (.aastore, 1) := by decide +kernel
theorem dX0_copyFrom_43 : decode cX0_copyFrom 43 = .ok (.iinc 2 1, 3) := by decide +kernel
theorem dX0_copyFrom_46 : decode cX0_copyFrom 46 = .ok (.goto (-21), 3) := by decide +kernel
theorem dX0_copyFrom_49 : decode cX0_copyFrom 49 = .ok (.aload_n 0, 1) := by decide +kernel
theorem dX0_copyFrom_50 : decode cX0_copyFrom 50 = .ok (.aload_n 1, 1) := by decide +kernel
theorem dX0_copyFrom_51 : decode cX0_copyFrom 51 = .ok (.getfield 25, 3) := by decide +kernel
theorem dX0_copyFrom_54 : decode cX0_copyFrom 54 = .ok (.putfield 25, 3) := by decide +kernel
theorem dX0_copyFrom_57 : decode cX0_copyFrom 57 = .ok (.iconst 0, 1) := by decide +kernel
theorem dX0_copyFrom_58 : decode cX0_copyFrom 58 = .ok (.istore_n 2, 1) := by decide +kernel
theorem dX0_copyFrom_59 : decode cX0_copyFrom 59 = .ok (.iload_n 2, 1) := by decide +kernel
theorem dX0_copyFrom_60 : decode cX0_copyFrom 60 = .ok (.bipush 8, 2) := by decide +kernel
theorem dX0_copyFrom_62 : decode cX0_copyFrom 62 = .ok (.if_icmp .ge 15, 3) := by decide +kernel
theorem dX0_copyFrom_65 : decode cX0_copyFrom 65 = .ok (.aload_n 0, 1) := by decide +kernel
theorem dX0_copyFrom_66 : decode cX0_copyFrom 66 = .ok (.aload_n 1, 1) := by decide +kernel
theorem dX0_copyFrom_67 : decode cX0_copyFrom 67 = .ok (.iload_n 2, 1) := by decide +kernel
theorem dX0_copyFrom_68 : decode cX0_copyFrom 68 = .ok (.invokevirtual 83, 3) := by decide +kernel
theorem dX0_copyFrom_71 : decode cX0_copyFrom 71 = .ok (.iinc 2 1, 3) := by decide +kernel
theorem dX0_copyFrom_74 : decode cX0_copyFrom 74 = .ok (.goto (-15), 3) := by decide +kernel
theorem dX0_copyFrom_77 : decode cX0_copyFrom 77 = .ok (.aload_n 0, 1) := by decide +kernel
theorem dX0_copyFrom_78 : decode cX0_copyFrom 78 = .ok (.aload_n 1, 1) := by decide +kernel
theorem dX0_copyFrom_79 : decode cX0_copyFrom 79 = .ok (.getfield 51, 3) := by decide +kernel
theorem dX0_copyFrom_82 : decode cX0_copyFrom 82 = .ok (.putfield 51, 3) := by decide +kernel
theorem dX0_copyFrom_85 : decode cX0_copyFrom 85 = .ok (.iconst 0, 1) := by decide +kernel
theorem dX0_copyFrom_86 : decode cX0_copyFrom 86 = .ok (.istore_n 2, 1) := by decide +kernel
theorem dX0_copyFrom_87 : decode cX0_copyFrom 87 = .ok (.iload_n 2, 1) := by decide +kernel
theorem dX0_copyFrom_88 : decode cX0_copyFrom 88 = .ok (.bipush 12, 2) := by decide +kernel
theorem dX0_copyFrom_90 : decode cX0_copyFrom 90 = .ok (.if_icmp .ge 52, 3) := by decide +kernel
theorem dX0_copyFrom_93 : decode cX0_copyFrom 93 = .ok (.aload_n 0, 1) := by decide +kernel
theorem dX0_copyFrom_94 : decode cX0_copyFrom 94 = .ok (.getfield 56, 3) := by decide +kernel
theorem dX0_copyFrom_97 : decode cX0_copyFrom 97 = .ok (.iload_n 2, 1) := by decide +kernel
theorem dX0_copyFrom_98 : decode cX0_copyFrom 98 = .ok (.aload_n 1, 1) := by decide +kernel
theorem dX0_copyFrom_99 : decode cX0_copyFrom 99 = .ok (.getfield 56, 3) := by decide +kernel
theorem dX0_copyFrom_102 : decode cX0_copyFrom 102 = .ok (.iload_n 2, 1) := by decide +kernel
theorem dX0_copyFrom_103 : decode cX0_copyFrom 103 = .ok (.aaload, 1) := by decide +kernel
theorem dX0_copyFrom_104 : decode cX0_copyFrom 104 = .ok (.aastore, 1) := by decide +kernel
theorem dX0_copyFrom_105 : decode cX0_copyFrom 105 = .ok (.aload_n 0, 1) := by decide +kernel
theorem dX0_copyFrom_106 : decode cX0_copyFrom 106 = .ok (.getfield 60, 3) := by decide +kernel
theorem dX0_copyFrom_109 : decode cX0_copyFrom 109 = .ok (.iload_n 2, 1) := by decide +kernel
theorem dX0_copyFrom_110 : decode cX0_copyFrom 110 = .ok (.aload_n 1, 1) := by decide +kernel
theorem dX0_copyFrom_111 : decode cX0_copyFrom 111 = .ok (.getfield 60, 3) := by decide +kernel
theorem dX0_copyFrom_114 : decode cX0_copyFrom 114 = .ok (.iload_n 2, 1) := by decide +kernel
theorem dX0_copyFrom_115 : decode cX0_copyFrom 115 = .ok (.iaload, 1) := by decide +kernel
theorem dX0_copyFrom_116 : decode cX0_copyFrom 116 = .ok (.iastore, 1) := by decide +kernel
theorem dX0_copyFrom_117 : decode cX0_copyFrom 117 = .ok (.aload_n 1, 1) := by decide +kernel
theorem dX0_copyFrom_118 : decode cX0_copyFrom 118 = .ok (.getfield 65, 3) := by decide +kernel
theorem dX0_copyFrom_121 : decode cX0_copyFrom 121 = .ok (.iload_n 2, 1) := by decide +kernel
theorem dX0_copyFrom_122 : decode cX0_copyFrom 122 = .ok (.aaload, 1) := by decide +kernel
theorem dX0_copyFrom_123 : decode cX0_copyFrom 123 = .ok (.iconst 0, 1) := by decide +kernel
theorem dX0_copyFrom_124 : decode cX0_copyFrom 124 = .ok (.aload_n 0, 1) := by decide +kernel
theorem dX0_copyFrom_125 : decode cX0_copyFrom 125 = .ok (.getfield 65, 3) := by decide +kernel
theorem dX0_copyFrom_128 : decode cX0_copyFrom 128 = .ok (.iload_n 2, 1) := by decide +kernel
theorem dX0_copyFrom_129 : decode cX0_copyFrom 129 = .ok (.aaload, 1) := by decide +kernel
theorem dX0_copyFrom_130 : decode cX0_copyFrom 130 = .ok (.iconst 0, 1) := by decide +kernel
theorem dX0_copyFrom_131 : decode cX0_copyFrom 131 = .ok (.bipush 10, 2) := by decide +kernel
theorem dX0_copyFrom_133 : decode cX0_copyFrom 133 = .ok (.invokestatic 77, 3) := by decide +kernel
theorem dX0_copyFrom_136 : decode cX0_copyFrom 136 = .ok (.iinc 2 1, 3) := by decide +kernel
theorem dX0_copyFrom_139 : decode cX0_copyFrom 139 = .ok (.goto (-52), 3) := by decide +kernel
theorem dX0_copyFrom_142 : decode cX0_copyFrom 142 = .ok (.aload_n 0, 1) := by decide +kernel
theorem dX0_copyFrom_143 : decode cX0_copyFrom 143 = .ok (.aload_n 1, 1) := by decide +kernel
theorem dX0_copyFrom_144 : decode cX0_copyFrom 144 = .ok (.getfield 68, 3) := by decide +kernel
theorem dX0_copyFrom_147 : decode cX0_copyFrom 147 = .ok (.putfield 68, 3) := by decide +kernel
theorem dX0_copyFrom_150 : decode cX0_copyFrom 150 = .ok (.aload_n 0, 1) := by decide +kernel
theorem dX0_copyFrom_151 : decode cX0_copyFrom 151 = .ok (.aload_n 1, 1) := by decide +kernel
theorem dX0_copyFrom_152 : decode cX0_copyFrom 152 = .ok (.getfield 71, 3) := by decide +kernel
theorem dX0_copyFrom_155 : decode cX0_copyFrom 155 = .ok (.putfield 71, 3) := by decide +kernel
theorem dX0_copyFrom_158 : decode cX0_copyFrom 158 = .ok (.aload_n 0, 1) := by decide +kernel
theorem dX0_copyFrom_159 : decode cX0_copyFrom 159 = .ok (.aload_n 1, 1) := by decide +kernel
theorem dX0_copyFrom_160 : decode cX0_copyFrom 160 = .ok (.getfield 74, 3) := by decide +kernel
theorem dX0_copyFrom_163 : decode cX0_copyFrom 163 = .ok (.putfield 74, 3) := by decide +kernel
theorem dX0_copyFrom_166 : decode cX0_copyFrom 166 = .ok (.return_, 1) := by decide +kernel
theorem dX0_copyThing_0 : decode cX0_copyThing 0 = .ok (.aload_n 0, 1) := by decide +kernel
theorem dX0_copyThing_1 : decode cX0_copyThing 1 = .ok (.getfield 28, 3) := by decide +kernel
theorem dX0_copyThing_4 : decode cX0_copyThing 4 = .ok (.iload_n 2, 1) := by decide +kernel
theorem dX0_copyThing_5 : decode cX0_copyThing 5 = .ok (.aload_n 1, 1) := by decide +kernel
theorem dX0_copyThing_6 : decode cX0_copyThing 6 = .ok (.getfield 28, 3) := by decide +kernel
theorem dX0_copyThing_9 : decode cX0_copyThing 9 = .ok (.iload_n 2, 1) := by decide +kernel
theorem dX0_copyThing_10 : decode cX0_copyThing 10 = .ok (.iaload, 1) := by decide +kernel
theorem dX0_copyThing_11 : decode cX0_copyThing 11 = .ok (.iastore, 1) := by decide +kernel
theorem dX0_copyThing_12 : decode cX0_copyThing 12 = .ok (.aload_n 0, 1) := by decide +kernel
theorem dX0_copyThing_13 : decode cX0_copyThing 13 = .ok (.getfield 32, 3) := by decide +kernel
theorem dX0_copyThing_16 : decode cX0_copyThing 16 = .ok (.iload_n 2, 1) := by decide +kernel
theorem dX0_copyThing_17 : decode cX0_copyThing 17 = .ok (.aload_n 1, 1) := by decide +kernel
theorem dX0_copyThing_18 : decode cX0_copyThing 18 = .ok (.getfield 32, 3) := by decide +kernel
theorem dX0_copyThing_21 : decode cX0_copyThing 21 = .ok (.iload_n 2, 1) := by decide +kernel
theorem dX0_copyThing_22 : decode cX0_copyThing 22 = .ok (.iaload, 1) := by decide +kernel
theorem dX0_copyThing_23 : decode cX0_copyThing 23 = .ok (.iastore, 1) := by decide +kernel
theorem dX0_copyThing_24 : decode cX0_copyThing 24 = .ok (.aload_n 0, 1) := by decide +kernel
theorem dX0_copyThing_25 : decode cX0_copyThing 25 = .ok (.getfield 35, 3) := by decide +kernel
theorem dX0_copyThing_28 : decode cX0_copyThing 28 = .ok (.iload_n 2, 1) := by decide +kernel
theorem dX0_copyThing_29 : decode cX0_copyThing 29 = .ok (.aload_n 1, 1) := by decide +kernel
theorem dX0_copyThing_30 : decode cX0_copyThing 30 = .ok (.getfield 35, 3) := by decide +kernel
theorem dX0_copyThing_33 : decode cX0_copyThing 33 = .ok (.iload_n 2, 1) := by decide +kernel
theorem dX0_copyThing_34 : decode cX0_copyThing 34 = .ok (.iaload, 1) := by decide +kernel
theorem dX0_copyThing_35 : decode cX0_copyThing 35 = .ok (.iastore, 1) := by decide +kernel
theorem dX0_copyThing_36 : decode cX0_copyThing 36 = .ok (.aload_n 0, 1) := by decide +kernel
theorem dX0_copyThing_37 : decode cX0_copyThing 37 = .ok (.getfield 38, 3) := by decide +kernel
theorem dX0_copyThing_40 : decode cX0_copyThing 40 = .ok (.iload_n 2, 1) := by decide +kernel
theorem dX0_copyThing_41 : decode cX0_copyThing 41 = .ok (.aload_n 1, 1) := by decide +kernel
theorem dX0_copyThing_42 : decode cX0_copyThing 42 = .ok (.getfield 38, 3) := by decide +kernel
theorem dX0_copyThing_45 : decode cX0_copyThing 45 = .ok (.iload_n 2, 1) := by decide +kernel
theorem dX0_copyThing_46 : decode cX0_copyThing 46 = .ok (.iaload, 1) := by decide +kernel
theorem dX0_copyThing_47 : decode cX0_copyThing 47 = .ok (.iastore, 1) := by decide +kernel
theorem dX0_copyThing_48 : decode cX0_copyThing 48 = .ok (.aload_n 0, 1) := by decide +kernel
theorem dX0_copyThing_49 : decode cX0_copyThing 49 = .ok (.getfield 41, 3) := by decide +kernel
theorem dX0_copyThing_52 : decode cX0_copyThing 52 = .ok (.iload_n 2, 1) := by decide +kernel
theorem dX0_copyThing_53 : decode cX0_copyThing 53 = .ok (.aload_n 1, 1) := by decide +kernel
theorem dX0_copyThing_54 : decode cX0_copyThing 54 = .ok (.getfield 41, 3) := by decide +kernel
theorem dX0_copyThing_57 : decode cX0_copyThing 57 = .ok (.iload_n 2, 1) := by decide +kernel
theorem dX0_copyThing_58 : decode cX0_copyThing 58 = .ok (.iaload, 1) := by decide +kernel
theorem dX0_copyThing_59 : decode cX0_copyThing 59 = .ok (.iastore, 1) := by decide +kernel
theorem dX0_copyThing_60 : decode cX0_copyThing 60 = .ok (.aload_n 0, 1) := by decide +kernel
theorem dX0_copyThing_61 : decode cX0_copyThing 61 = .ok (.getfield 44, 3) := by decide +kernel
theorem dX0_copyThing_64 : decode cX0_copyThing 64 = .ok (.iload_n 2, 1) := by decide +kernel
theorem dX0_copyThing_65 : decode cX0_copyThing 65 = .ok (.aload_n 1, 1) := by decide +kernel
theorem dX0_copyThing_66 : decode cX0_copyThing 66 = .ok (.getfield 44, 3) := by decide +kernel
theorem dX0_copyThing_69 : decode cX0_copyThing 69 = .ok (.iload_n 2, 1) := by decide +kernel
theorem dX0_copyThing_70 : decode cX0_copyThing 70 = .ok (.iaload, 1) := by decide +kernel
theorem dX0_copyThing_71 : decode cX0_copyThing 71 = .ok (.iastore, 1) := by decide +kernel
theorem dX0_copyThing_72 : decode cX0_copyThing 72 = .ok (.aload_n 0, 1) := by decide +kernel
theorem dX0_copyThing_73 : decode cX0_copyThing 73 = .ok (.getfield 47, 3) := by decide +kernel
theorem dX0_copyThing_76 : decode cX0_copyThing 76 = .ok (.iload_n 2, 1) := by decide +kernel
theorem dX0_copyThing_77 : decode cX0_copyThing 77 = .ok (.aload_n 1, 1) := by decide +kernel
theorem dX0_copyThing_78 : decode cX0_copyThing 78 = .ok (.getfield 47, 3) := by decide +kernel
theorem dX0_copyThing_81 : decode cX0_copyThing 81 = .ok (.iload_n 2, 1) := by decide +kernel
theorem dX0_copyThing_82 : decode cX0_copyThing 82 = .ok (.baload, 1) := by decide +kernel
theorem dX0_copyThing_83 : decode cX0_copyThing 83 = .ok (.bastore, 1) := by decide +kernel
theorem dX0_copyThing_84 : decode cX0_copyThing 84 = .ok (.return_, 1) := by decide +kernel
theorem dX0_hasThing_0 : decode cX0_hasThing 0 = .ok (.iload_n 1, 1) := by decide +kernel
theorem dX0_hasThing_1 : decode cX0_hasThing 1 = .ok (.ifCond .lt 15, 3) := by decide +kernel
theorem dX0_hasThing_4 : decode cX0_hasThing 4 = .ok (.iload_n 1, 1) := by decide +kernel
theorem dX0_hasThing_5 : decode cX0_hasThing 5 = .ok (.aload_n 0, 1) := by decide +kernel
theorem dX0_hasThing_6 : decode cX0_hasThing 6 = .ok (.getfield 51, 3) := by decide +kernel
theorem dX0_hasThing_9 : decode cX0_hasThing 9 = .ok (.if_icmp .ge 7, 3) := by decide +kernel
theorem dX0_hasThing_12 : decode cX0_hasThing 12 = .ok (.iconst 1, 1) := by decide +kernel
theorem dX0_hasThing_13 : decode cX0_hasThing 13 = .ok (.goto 4, 3) := by decide +kernel
theorem dX0_hasThing_16 : decode cX0_hasThing 16 = .ok (.iconst 0, 1) := by decide +kernel
theorem dX0_hasThing_17 : decode cX0_hasThing 17 = .ok (.ireturn, 1) := by decide +kernel
theorem dX0_planAt_0 : decode cX0_planAt 0 = .ok (.iload_n 1, 1) := by decide +kernel
theorem dX0_planAt_1 : decode cX0_planAt 1 = .ok (.ifCond .lt 20, 3) := by decide +kernel
theorem dX0_planAt_4 : decode cX0_planAt 4 = .ok (.iload_n 1, 1) := by decide +kernel
theorem dX0_planAt_5 : decode cX0_planAt 5 = .ok (.aload_n 0, 1) := by decide +kernel
theorem dX0_planAt_6 : decode cX0_planAt 6 = .ok (.getfield 68, 3) := by decide +kernel
theorem dX0_planAt_9 : decode cX0_planAt 9 = .ok (.if_icmp .ge 12, 3) := by decide +kernel
theorem dX0_planAt_12 : decode cX0_planAt 12 = .ok (.aload_n 0, 1) := by decide +kernel
theorem dX0_planAt_13 : decode cX0_planAt 13 = .ok (.getfield 56, 3) := by decide +kernel
theorem dX0_planAt_16 : decode cX0_planAt 16 = .ok (.iload_n 1, 1) := by decide +kernel
theorem dX0_planAt_17 : decode cX0_planAt 17 = .ok (.aaload, 1) := by decide +kernel
theorem dX0_planAt_18 : decode cX0_planAt 18 = .ok (.goto 4, 3) := by decide +kernel
theorem dX0_planAt_21 : decode cX0_planAt 21 = .ok (.aconst_null, 1) := by decide +kernel
theorem dX0_planAt_22 : decode cX0_planAt 22 = .ok (.areturn, 1) := by decide +kernel
theorem dX0_sortAt_0 : decode cX0_sortAt 0 = .ok (.aload_n 0, 1) := by decide +kernel
theorem dX0_sortAt_1 : decode cX0_sortAt 1 = .ok (.getfield 21, 3) := by decide +kernel
theorem dX0_sortAt_4 : decode cX0_sortAt 4 = .ok (.aload_n 0, 1) := by decide +kernel
theorem dX0_sortAt_5 : decode cX0_sortAt 5 = .ok (.getfield 28, 3) := by decide +kernel
theorem dX0_sortAt_8 : decode cX0_sortAt 8 = .ok (.iload_n 1, 1) := by decide +kernel
theorem dX0_sortAt_9 : decode cX0_sortAt 9 = .ok (.iaload, 1) := by decide +kernel
theorem dX0_sortAt_10 : decode cX0_sortAt 10 = .ok (.aaload, 1) := by decide +kernel
theorem dX0_sortAt_11 : decode cX0_sortAt 11 = .ok (.areturn, 1) := by decide +kernel
theorem dX0_looksOrAll_0 : decode cX0_looksOrAll 0 = .ok (.aload_n 0, 1) := by decide +kernel
theorem dX0_looksOrAll_1 : decode cX0_looksOrAll 1 = .ok (.getfield 74, 3) := by decide +kernel
theorem dX0_looksOrAll_4 : decode cX0_looksOrAll 4 = .ok (.aload_n 0, 1) := by decide +kernel
theorem dX0_looksOrAll_5 : decode cX0_looksOrAll 5 = .ok (.getfield 51, 3) := by decide +kernel
theorem dX0_looksOrAll_8 : decode cX0_looksOrAll 8 = .ok (.invokestatic 87, 3) := by decide +kernel
theorem dX0_looksOrAll_11 : decode cX0_looksOrAll 11 = .ok (.ireturn, 1) := by decide +kernel
theorem dX0_addThing_0 : decode cX0_addThing 0 = .ok (.aload_n 0, 1) := by decide +kernel
theorem dX0_addThing_1 : decode cX0_addThing 1 = .ok (.getfield 51, 3) := by decide +kernel
theorem dX0_addThing_4 : decode cX0_addThing 4 = .ok (.istore_n 3, 1) := by decide +kernel
theorem dX0_addThing_5 : decode cX0_addThing 5 = .ok (.aload_n 0, 1) := by decide +kernel
theorem dX0_addThing_6 : decode cX0_addThing 6 = .ok (.getfield 28, 3) := by decide +kernel
theorem dX0_addThing_9 : decode cX0_addThing 9 = .ok (.iload_n 3, 1) := by decide +kernel
theorem dX0_addThing_10 : decode cX0_addThing 10 = .ok (.iload_n 1, 1) := by decide +kernel
theorem dX0_addThing_11 : decode cX0_addThing 11 = .ok (.iastore, 1) := by decide +kernel
theorem dX0_addThing_12 : decode cX0_addThing 12 = .ok (.aload_n 0, 1) := by decide +kernel
theorem dX0_addThing_13 : decode cX0_addThing 13 = .ok (.getfield 32, 3) := by decide +kernel
theorem dX0_addThing_16 : decode cX0_addThing 16 = .ok (.iload_n 3, 1) := by decide +kernel
theorem dX0_addThing_17 : decode cX0_addThing 17 = .ok (.iload_n 2, 1) := by decide +kernel
theorem dX0_addThing_18 : decode cX0_addThing 18 = .ok (.iastore, 1) := by decide +kernel
theorem dX0_addThing_19 : decode cX0_addThing 19 = .ok (.aload_n 0, 1) := by decide +kernel
theorem dX0_addThing_20 : decode cX0_addThing 20 = .ok (.getfield 35, 3) := by decide +kernel
theorem dX0_addThing_23 : decode cX0_addThing 23 = .ok (.iload_n 3, 1) := by decide +kernel
theorem dX0_addThing_24 : decode cX0_addThing 24 = .ok (.ldc 93, 2) := by decide +kernel
theorem dX0_addThing_26 : decode cX0_addThing 26 = .ok (.iastore, 1) := by decide +kernel
theorem dX0_addThing_27 : decode cX0_addThing 27 = .ok (.aload_n 0, 1) := by decide +kernel
theorem dX0_addThing_28 : decode cX0_addThing 28 = .ok (.getfield 38, 3) := by decide +kernel
theorem dX0_addThing_31 : decode cX0_addThing 31 = .ok (.iload_n 3, 1) := by decide +kernel
theorem dX0_addThing_32 : decode cX0_addThing 32 = .ok (.iconst 0, 1) := by decide +kernel
theorem dX0_addThing_33 : decode cX0_addThing 33 = .ok (.iastore, 1) := by decide +kernel
theorem dX0_addThing_34 : decode cX0_addThing 34 = .ok (.aload_n 0, 1) := by decide +kernel
theorem dX0_addThing_35 : decode cX0_addThing 35 = .ok (.getfield 41, 3) := by decide +kernel
theorem dX0_addThing_38 : decode cX0_addThing 38 = .ok (.iload_n 3, 1) := by decide +kernel
theorem dX0_addThing_39 : decode cX0_addThing 39 = .ok (.iconst 0, 1) := by decide +kernel
theorem dX0_addThing_40 : decode cX0_addThing 40 = .ok (.iastore, 1) := by decide +kernel
theorem dX0_addThing_41 : decode cX0_addThing 41 = .ok (.aload_n 0, 1) := by decide +kernel
theorem dX0_addThing_42 : decode cX0_addThing 42 = .ok (.getfield 44, 3) := by decide +kernel
theorem dX0_addThing_45 : decode cX0_addThing 45 = .ok (.iload_n 3, 1) := by decide +kernel
theorem dX0_addThing_46 : decode cX0_addThing 46 = .ok (.iconst 0, 1) := by decide +kernel
theorem dX0_addThing_47 : decode cX0_addThing 47 = .ok (.iastore, 1) := by decide +kernel
theorem dX0_addThing_48 : decode cX0_addThing 48 = .ok (.aload_n 0, 1) := by decide +kernel
theorem dX0_addThing_49 : decode cX0_addThing 49 = .ok (.getfield 47, 3) := by decide +kernel
theorem dX0_addThing_52 : decode cX0_addThing 52 = .ok (.iload_n 3, 1) := by decide +kernel
theorem dX0_addThing_53 : decode cX0_addThing 53 = .ok (.iconst 1, 1) := by decide +kernel
theorem dX0_addThing_54 : decode cX0_addThing 54 = .ok (.bastore, 1) := by decide +kernel
theorem dX0_addThing_55 : decode cX0_addThing 55 = .ok (.aload_n 0, 1) := by decide +kernel
theorem dX0_addThing_56 : decode cX0_addThing 56 = .ok (.dup, 1) := by decide +kernel
theorem dX0_addThing_57 : decode cX0_addThing 57 = .ok (.getfield 51, 3) := by decide +kernel
theorem dX0_addThing_60 : decode cX0_addThing 60 = .ok (.iconst 1, 1) := by decide +kernel
theorem dX0_addThing_61 : decode cX0_addThing 61 = .ok (.iadd, 1) := by decide +kernel
theorem dX0_addThing_62 : decode cX0_addThing 62 = .ok (.putfield 51, 3) := by decide +kernel
theorem dX0_addThing_65 : decode cX0_addThing 65 = .ok (.iload_n 3, 1) := by decide +kernel
theorem dX0_addThing_66 : decode cX0_addThing 66 = .ok (.ireturn, 1) := by decide +kernel
theorem dX0_addPlan_0 : decode cX0_addPlan 0 = .ok (.aload_n 0, 1) := by decide +kernel
theorem dX0_addPlan_1 : decode cX0_addPlan 1 = .ok (.getfield 68, 3) := by decide +kernel
theorem dX0_addPlan_4 : decode cX0_addPlan 4 = .ok (.istore_n 2, 1) := by decide +kernel
theorem dX0_addPlan_5 : decode cX0_addPlan 5 = .ok (.aload_n 0, 1) := by decide +kernel
theorem dX0_addPlan_6 : decode cX0_addPlan 6 = .ok (.getfield 56, 3) := by decide +kernel
theorem dX0_addPlan_9 : decode cX0_addPlan 9 = .ok (.iload_n 2, 1) := by decide +kernel
theorem dX0_addPlan_10 : decode cX0_addPlan 10 = .ok (.aload_n 1, 1) := by decide +kernel
theorem dX0_addPlan_11 : decode cX0_addPlan 11 = .ok (.aastore, 1) := by decide +kernel
theorem dX0_addPlan_12 : decode cX0_addPlan 12 = .ok (.aload_n 0, 1) := by decide +kernel
theorem dX0_addPlan_13 : decode cX0_addPlan 13 = .ok (.getfield 60, 3) := by decide +kernel
theorem dX0_addPlan_16 : decode cX0_addPlan 16 = .ok (.iload_n 2, 1) := by decide +kernel
theorem dX0_addPlan_17 : decode cX0_addPlan 17 = .ok (.iconst 0, 1) := by decide +kernel
theorem dX0_addPlan_18 : decode cX0_addPlan 18 = .ok (.iastore, 1) := by decide +kernel
theorem dX0_addPlan_19 : decode cX0_addPlan 19 = .ok (.aload_n 0, 1) := by decide +kernel
theorem dX0_addPlan_20 : decode cX0_addPlan 20 = .ok (.dup, 1) := by decide +kernel
theorem dX0_addPlan_21 : decode cX0_addPlan 21 = .ok (.getfield 68, 3) := by decide +kernel
theorem dX0_addPlan_24 : decode cX0_addPlan 24 = .ok (.iconst 1, 1) := by decide +kernel
theorem dX0_addPlan_25 : decode cX0_addPlan 25 = .ok (.iadd, 1) := by decide +kernel
theorem dX0_addPlan_26 : decode cX0_addPlan 26 = .ok (.putfield 68, 3) := by decide +kernel
theorem dX0_addPlan_29 : decode cX0_addPlan 29 = .ok (.iload_n 2, 1) := by decide +kernel
theorem dX0_addPlan_30 : decode cX0_addPlan 30 = .ok (.ireturn, 1) := by decide +kernel
theorem dX0_goOver_0 : decode cX0_goOver 0 = .ok (.iconst 0, 1) := by decide +kernel
theorem dX0_goOver_1 : decode cX0_goOver 1 = .ok (.istore_n 1, 1) := by decide +kernel
theorem dX0_goOver_2 : decode cX0_goOver 2 = .ok (.iload_n 1, 1) := by decide +kernel
theorem dX0_goOver_3 : decode cX0_goOver 3 = .ok (.aload_n 0, 1) := by decide +kernel
theorem dX0_goOver_4 : decode cX0_goOver 4 = .ok (.getfield 51, 3) := by decide +kernel
theorem dX0_goOver_7 : decode cX0_goOver 7 = .ok (.if_icmp .ge 62, 3) := by decide +kernel
theorem dX0_goOver_10 : decode cX0_goOver 10 = .ok (.aload_n 0, 1) := by decide +kernel
theorem dX0_goOver_11 : decode cX0_goOver 11 = .ok (.getfield 35, 3) := by decide +kernel
theorem dX0_goOver_14 : decode cX0_goOver 14 = .ok (.iload_n 1, 1) := by decide +kernel
theorem dX0_goOver_15 : decode cX0_goOver 15 = .ok (.aload_n 0, 1) := by decide +kernel
theorem dX0_goOver_16 : decode cX0_goOver 16 = .ok (.iload_n 1, 1) := by decide +kernel
theorem dX0_goOver_17 : decode cX0_goOver 17 = .ok (.invokevirtual 94, 3) := by decide +kernel
theorem dX0_goOver_20 : decode cX0_goOver 20 = .ok (.aload_n 0, 1) := by decide +kernel
theorem dX0_goOver_21 : decode cX0_goOver 21 = .ok (.getfield 35, 3) := by decide +kernel
theorem dX0_goOver_24 : decode cX0_goOver 24 = .ok (.iload_n 1, 1) := by decide +kernel
theorem dX0_goOver_25 : decode cX0_goOver 25 = .ok (.iaload, 1) := by decide +kernel
theorem dX0_goOver_26 : decode cX0_goOver 26 = .ok (.aload_n 0, 1) := by decide +kernel
theorem dX0_goOver_27 : decode cX0_goOver 27 = .ok (.getfield 38, 3) := by decide +kernel
theorem dX0_goOver_30 : decode cX0_goOver 30 = .ok (.iload_n 1, 1) := by decide +kernel
theorem dX0_goOver_31 : decode cX0_goOver 31 = .ok (.iaload, 1) := by decide +kernel
theorem dX0_goOver_32 : decode cX0_goOver 32 = .ok (.aload_n 0, 1) := by decide +kernel
theorem dX0_goOver_33 : decode cX0_goOver 33 = .ok (.getfield 32, 3) := by decide +kernel
theorem dX0_goOver_36 : decode cX0_goOver 36 = .ok (.iload_n 1, 1) := by decide +kernel
theorem dX0_goOver_37 : decode cX0_goOver 37 = .ok (.iaload, 1) := by decide +kernel
theorem dX0_goOver_38 : decode cX0_goOver 38 = .ok (.iconst 0, 1) := by decide +kernel
theorem dX0_goOver_39 : decode cX0_goOver 39 = .ok (.invokevirtual 98, 3) := by decide +kernel
theorem dX0_goOver_42 : decode cX0_goOver 42 = .ok (.iastore, 1) := by decide +kernel
theorem dX0_goOver_43 : decode cX0_goOver 43 = .ok (.aload_n 0, 1) := by decide +kernel
theorem dX0_goOver_44 : decode cX0_goOver 44 = .ok (.getfield 38, 3) := by decide +kernel
theorem dX0_goOver_47 : decode cX0_goOver 47 = .ok (.iload_n 1, 1) := by decide +kernel
theorem dX0_goOver_48 : decode cX0_goOver 48 = .ok (.sipush 999, 3) := by decide +kernel
theorem dX0_goOver_51 : decode cX0_goOver 51 = .ok (.aload_n 0, 1) := by decide +kernel
theorem dX0_goOver_52 : decode cX0_goOver 52 = .ok (.getfield 38, 3) := by decide +kernel
theorem dX0_goOver_55 : decode cX0_goOver 55 = .ok (.iload_n 1, 1) := by decide +kernel
theorem dX0_goOver_56 : decode cX0_goOver 56 = .ok (.iaload, 1) := by decide +kernel
theorem dX0_goOver_57 : decode cX0_goOver 57 = .ok (.iconst 1, 1) := by decide +kernel
theorem dX0_goOver_58 : decode cX0_goOver 58 = .ok (.iadd, 1) := by decide +kernel
theorem dX0_goOver_59 : decode cX0_goOver 59 = .ok (.invokestatic 87, 3) := by decide +kernel
theorem dX0_goOver_62 : decode cX0_goOver 62 = .ok (.iastore, 1) := by decide +kernel
theorem dX0_goOver_63 : decode cX0_goOver 63 = .ok (.iinc 1 1, 3) := by decide +kernel
theorem dX0_goOver_66 : decode cX0_goOver 66 = .ok (.goto (-64), 3) := by decide +kernel
theorem dX0_goOver_69 : decode cX0_goOver 69 = .ok (.aload_n 0, 1) := by decide +kernel
theorem dX0_goOver_70 : decode cX0_goOver 70 = .ok (.dup, 1) := by decide +kernel
theorem dX0_goOver_71 : decode cX0_goOver 71 = .ok (.getfield 71, 3) := by decide +kernel
theorem dX0_goOver_74 : decode cX0_goOver 74 = .ok (.iconst 1, 1) := by decide +kernel
theorem dX0_goOver_75 : decode cX0_goOver 75 = .ok (.iadd, 1) := by decide +kernel
theorem dX0_goOver_76 : decode cX0_goOver 76 = .ok (.putfield 71, 3) := by decide +kernel
theorem dX0_goOver_79 : decode cX0_goOver 79 = .ok (.return_, 1) := by decide +kernel
theorem dX0_lookAndPay_0 : decode cX0_lookAndPay 0 = .ok (.lconst 0, 1) := by decide +kernel
theorem dX0_lookAndPay_1 : decode cX0_lookAndPay 1 = .ok (.lstore_n 2, 1) := by decide +kernel
theorem dX0_lookAndPay_2 : decode cX0_lookAndPay 2 = .ok (.iconst 0, 1) := by decide +kernel
theorem dX0_lookAndPay_3 : decode cX0_lookAndPay 3 = .ok (.istore 4, 2) := by decide +kernel
theorem dX0_lookAndPay_5 : decode cX0_lookAndPay 5 = .ok (.iload 4, 2) := by decide +kernel
theorem dX0_lookAndPay_7 : decode cX0_lookAndPay 7 = .ok (.aload_n 0, 1) := by decide +kernel
theorem dX0_lookAndPay_8 : decode cX0_lookAndPay 8 = .ok (.getfield 51, 3) := by decide +kernel
theorem dX0_lookAndPay_11 : decode cX0_lookAndPay 11 = .ok (.if_icmp .ge 80, 3) := by decide +kernel
theorem dX0_lookAndPay_14 : decode cX0_lookAndPay 14 = .ok (.aload_n 0, 1) := by decide +kernel
theorem dX0_lookAndPay_15 : decode cX0_lookAndPay 15 = .ok (.iload 4, 2) := by decide +kernel
theorem dX0_lookAndPay_17 : decode cX0_lookAndPay 17 = .ok (.invokevirtual 94, 3) := by decide +kernel
theorem dX0_lookAndPay_20 : decode cX0_lookAndPay 20 = .ok (.astore 5, 2) := by decide +kernel
theorem dX0_lookAndPay_22 : decode cX0_lookAndPay 22 = .ok (.lload_n 2, 1) := by decide +kernel
theorem dX0_lookAndPay_23 : decode cX0_lookAndPay 23 = .ok (.ldc2_w 102, 3) := by decide +kernel
theorem dX0_lookAndPay_26 : decode cX0_lookAndPay 26 = .ok (.aload_n 0, 1) := by decide +kernel
theorem dX0_lookAndPay_27 : decode cX0_lookAndPay 27 = .ok (.getfield 47, 3) := by decide +kernel
theorem dX0_lookAndPay_30 : decode cX0_lookAndPay 30 = .ok (.iload 4, 2) := by decide +kernel
theorem dX0_lookAndPay_32 : decode cX0_lookAndPay 32 = .ok (.baload, 1) := by decide +kernel
theorem dX0_lookAndPay_33 : decode cX0_lookAndPay 33 = .ok (.ifCond .eq 13, 3) := by decide +kernel
theorem dX0_lookAndPay_36 : decode cX0_lookAndPay 36 = .ok (.aload 5, 2) := by decide +kernel
theorem dX0_lookAndPay_38 : decode cX0_lookAndPay 38 = .ok (.getfield 104, 3) := by decide +kernel
theorem dX0_lookAndPay_41 : decode cX0_lookAndPay 41 = .ok (.iconst 2, 1) := by decide +kernel
theorem dX0_lookAndPay_42 : decode cX0_lookAndPay 42 = .ok (.iaload, 1) := by decide +kernel
theorem dX0_lookAndPay_43 : decode cX0_lookAndPay 43 = .ok (.goto 11, 3) := by decide +kernel
theorem dX0_lookAndPay_46 : decode cX0_lookAndPay 46 = .ok (.aload 5, 2) := by decide +kernel
theorem dX0_lookAndPay_48 : decode cX0_lookAndPay 48 = .ok (.getfield 104, 3) := by decide +kernel
theorem dX0_lookAndPay_51 : decode cX0_lookAndPay 51 = .ok (.iconst 3, 1) := by decide +kernel
theorem dX0_lookAndPay_52 : decode cX0_lookAndPay 52 = .ok (.iaload, 1) := by decide +kernel
theorem dX0_lookAndPay_53 : decode cX0_lookAndPay 53 = .ok (.ineg, 1) := by decide +kernel
theorem dX0_lookAndPay_54 : decode cX0_lookAndPay 54 = .ok (.i2l, 1) := by decide +kernel
theorem dX0_lookAndPay_55 : decode cX0_lookAndPay 55 = .ok (.lmul, 1) := by decide +kernel
theorem dX0_lookAndPay_56 : decode cX0_lookAndPay 56 = .ok (.ladd, 1) := by decide +kernel
theorem dX0_lookAndPay_57 : decode cX0_lookAndPay 57 = .ok (.lstore_n 2, 1) := by decide +kernel
theorem dX0_lookAndPay_58 : decode cX0_lookAndPay 58 = .ok (.iload_n 1, 1) := by decide +kernel
theorem dX0_lookAndPay_59 : decode cX0_lookAndPay 59 = .ok (.iload 4, 2) := by decide +kernel
theorem dX0_lookAndPay_61 : decode cX0_lookAndPay 61 = .ok (.ishr, 1) := by decide +kernel
theorem dX0_lookAndPay_62 : decode cX0_lookAndPay 62 = .ok (.iconst 1, 1) := by decide +kernel
theorem dX0_lookAndPay_63 : decode cX0_lookAndPay 63 = .ok (.iand, 1) := by decide +kernel
theorem dX0_lookAndPay_64 : decode cX0_lookAndPay 64 = .ok (.iconst 1, 1) := by decide +kernel
theorem dX0_lookAndPay_65 : decode cX0_lookAndPay 65 = .ok (.if_icmp .ne 20, 3) := by decide +kernel
theorem dX0_lookAndPay_68 : decode cX0_lookAndPay 68 = .ok (.lload_n 2, 1) := by decide +kernel
theorem dX0_lookAndPay_69 : decode cX0_lookAndPay 69 = .ok (.aload 5, 2) := by decide +kernel
theorem dX0_lookAndPay_71 : decode cX0_lookAndPay 71 = .ok (.invokevirtual 107, 3) := by decide +kernel
theorem dX0_lookAndPay_74 : decode cX0_lookAndPay 74 = .ok (.aload_n 0, 1) := by decide +kernel
theorem dX0_lookAndPay_75 : decode cX0_lookAndPay 75 = .ok (.iload 4, 2) := by decide +kernel
theorem dX0_lookAndPay_77 : decode cX0_lookAndPay 77 = .ok (.aload 5, 2) := by decide +kernel
theorem dX0_lookAndPay_79 : decode cX0_lookAndPay 79 = .ok (.invokevirtual 111, 3) := by decide +kernel
theorem dX0_lookAndPay_82 : decode cX0_lookAndPay 82 = .ok (.ladd, 1) := by decide +kernel
theorem dX0_lookAndPay_83 : decode cX0_lookAndPay 83 = .ok (.lsub, 1) := by decide +kernel
theorem dX0_lookAndPay_84 : decode cX0_lookAndPay 84 = .ok (.lstore_n 2, 1) := by decide +kernel
theorem dX0_lookAndPay_85 : decode cX0_lookAndPay 85 = .ok (.iinc 4 1, 3) := by decide +kernel
theorem dX0_lookAndPay_88 : decode cX0_lookAndPay 88 = .ok (.goto (-83), 3) := by decide +kernel
theorem dX0_lookAndPay_91 : decode cX0_lookAndPay 91 = .ok (.lload_n 2, 1) := by decide +kernel
theorem dX0_lookAndPay_92 : decode cX0_lookAndPay 92 = .ok (.lreturn, 1) := by decide +kernel
theorem dX0_lookAt_0 : decode cX0_lookAt 0 = .ok (.aload_n 0, 1) := by decide +kernel
theorem dX0_lookAt_1 : decode cX0_lookAt 1 = .ok (.getfield 38, 3) := by decide +kernel
theorem dX0_lookAt_4 : decode cX0_lookAt 4 = .ok (.iload_n 1, 1) := by decide +kernel
theorem dX0_lookAt_5 : decode cX0_lookAt 5 = .ok (.iconst 0, 1) := by decide +kernel
theorem dX0_lookAt_6 : decode cX0_lookAt 6 = .ok (.iastore, 1) := by decide +kernel
theorem dX0_lookAt_7 : decode cX0_lookAt 7 = .ok (.aload_n 0, 1) := by decide +kernel
theorem dX0_lookAt_8 : decode cX0_lookAt 8 = .ok (.getfield 47, 3) := by decide +kernel
theorem dX0_lookAt_11 : decode cX0_lookAt 11 = .ok (.iload_n 1, 1) := by decide +kernel
theorem dX0_lookAt_12 : decode cX0_lookAt 12 = .ok (.baload, 1) := by decide +kernel
theorem dX0_lookAt_13 : decode cX0_lookAt 13 = .ok (.ifCond .eq 23, 3) := by decide +kernel
theorem dX0_lookAt_16 : decode cX0_lookAt 16 = .ok (.aload_n 0, 1) := by decide +kernel
theorem dX0_lookAt_17 : decode cX0_lookAt 17 = .ok (.getfield 41, 3) := by decide +kernel
theorem dX0_lookAt_20 : decode cX0_lookAt 20 = .ok (.iload_n 1, 1) := by decide +kernel
theorem dX0_lookAt_21 : decode cX0_lookAt 21 = .ok (.dup2, 1) := by decide +kernel
theorem dX0_lookAt_22 : decode cX0_lookAt 22 = .ok (.iaload, 1) := by decide +kernel
theorem dX0_lookAt_23 : decode cX0_lookAt 23 = .ok (.iconst 1, 1) := by decide +kernel
theorem dX0_lookAt_24 : decode cX0_lookAt 24 = .ok (.iadd, 1) := by decide +kernel
theorem dX0_lookAt_25 : decode cX0_lookAt 25 = .ok (.iastore, 1) := by decide +kernel
theorem dX0_lookAt_26 : decode cX0_lookAt 26 = .ok (.aload_n 0, 1) := by decide +kernel
theorem dX0_lookAt_27 : decode cX0_lookAt 27 = .ok (.getfield 35, 3) := by decide +kernel
theorem dX0_lookAt_30 : decode cX0_lookAt 30 = .ok (.iload_n 1, 1) := by decide +kernel
theorem dX0_lookAt_31 : decode cX0_lookAt 31 = .ok (.ldc 93, 2) := by decide +kernel
theorem dX0_lookAt_33 : decode cX0_lookAt 33 = .ok (.iastore, 1) := by decide +kernel
theorem dX0_lookAt_34 : decode cX0_lookAt 34 = .ok (.lconst 0, 1) := by decide +kernel
theorem dX0_lookAt_35 : decode cX0_lookAt 35 = .ok (.lreturn, 1) := by decide +kernel
theorem dX0_lookAt_36 : decode cX0_lookAt 36 = .ok (.aload_n 0, 1) := by decide +kernel
theorem dX0_lookAt_37 : decode cX0_lookAt 37 = .ok (.getfield 44, 3) := by decide +kernel
theorem dX0_lookAt_40 : decode cX0_lookAt 40 = .ok (.iload_n 1, 1) := by decide +kernel
theorem dX0_lookAt_41 : decode cX0_lookAt 41 = .ok (.dup2, 1) := by decide +kernel
theorem dX0_lookAt_42 : decode cX0_lookAt 42 = .ok (.iaload, 1) := by decide +kernel
theorem dX0_lookAt_43 : decode cX0_lookAt 43 = .ok (.iconst 1, 1) := by decide +kernel
theorem dX0_lookAt_44 : decode cX0_lookAt 44 = .ok (.iadd, 1) := by decide +kernel
theorem dX0_lookAt_45 : decode cX0_lookAt 45 = .ok (.iastore, 1) := by decide +kernel
theorem dX0_lookAt_46 : decode cX0_lookAt 46 = .ok (.aload_n 0, 1) := by decide +kernel
theorem dX0_lookAt_47 : decode cX0_lookAt 47 = .ok (.getfield 47, 3) := by decide +kernel
theorem dX0_lookAt_50 : decode cX0_lookAt 50 = .ok (.iload_n 1, 1) := by decide +kernel
theorem dX0_lookAt_51 : decode cX0_lookAt 51 = .ok (.aload_n 2, 1) := by decide +kernel
theorem dX0_lookAt_52 : decode cX0_lookAt 52 = .ok (.invokevirtual 115, 3) := by decide +kernel
theorem dX0_lookAt_55 : decode cX0_lookAt 55 = .ok (.bastore, 1) := by decide +kernel
theorem dX0_lookAt_56 : decode cX0_lookAt 56 = .ok (.aload_n 0, 1) := by decide +kernel
theorem dX0_lookAt_57 : decode cX0_lookAt 57 = .ok (.getfield 35, 3) := by decide +kernel
theorem dX0_lookAt_60 : decode cX0_lookAt 60 = .ok (.iload_n 1, 1) := by decide +kernel
theorem dX0_lookAt_61 : decode cX0_lookAt 61 = .ok (.aload_n 2, 1) := by decide +kernel
theorem dX0_lookAt_62 : decode cX0_lookAt 62 = .ok (.invokevirtual 115, 3) := by decide +kernel
theorem dX0_lookAt_65 : decode cX0_lookAt 65 = .ok (.ifCond .eq 8, 3) := by decide +kernel
theorem dX0_lookAt_68 : decode cX0_lookAt 68 = .ok (.ldc 93, 2) := by decide +kernel
theorem dX0_lookAt_70 : decode cX0_lookAt 70 = .ok (.goto 4, 3) := by decide +kernel
theorem dX0_lookAt_73 : decode cX0_lookAt 73 = .ok (.iconst 0, 1) := by decide +kernel
theorem dX0_lookAt_74 : decode cX0_lookAt 74 = .ok (.iastore, 1) := by decide +kernel
theorem dX0_lookAt_75 : decode cX0_lookAt 75 = .ok (.aload_n 2, 1) := by decide +kernel
theorem dX0_lookAt_76 : decode cX0_lookAt 76 = .ok (.invokevirtual 119, 3) := by decide +kernel
theorem dX0_lookAt_79 : decode cX0_lookAt 79 = .ok (.lreturn, 1) := by decide +kernel
theorem dX0_turnAll_0 : decode cX0_turnAll 0 = .ok (.iconst 0, 1) := by decide +kernel
theorem dX0_turnAll_1 : decode cX0_turnAll 1 = .ok (.istore_n 2, 1) := by decide +kernel
theorem dX0_turnAll_2 : decode cX0_turnAll 2 = .ok (.iload_n 2, 1) := by decide +kernel
theorem dX0_turnAll_3 : decode cX0_turnAll 3 = .ok (.aload_n 0, 1) := by decide +kernel
theorem dX0_turnAll_4 : decode cX0_turnAll 4 = .ok (.getfield 51, 3) := by decide +kernel
theorem dX0_turnAll_7 : decode cX0_turnAll 7 = .ok (.if_icmp .ge 99, 3) := by decide +kernel
theorem dX0_turnAll_10 : decode cX0_turnAll 10 = .ok (.iload_n 1, 1) := by decide +kernel
theorem dX0_turnAll_11 : decode cX0_turnAll 11 = .ok (.bipush 31, 2) := by decide +kernel
theorem dX0_turnAll_13 : decode cX0_turnAll 13 = .ok (.imul, 1) := by decide +kernel
theorem dX0_turnAll_14 : decode cX0_turnAll 14 = .ok (.aload_n 0, 1) := by decide +kernel
theorem dX0_turnAll_15 : decode cX0_turnAll 15 = .ok (.getfield 71, 3) := by decide +kernel
theorem dX0_turnAll_18 : decode cX0_turnAll 18 = .ok (.bipush 17, 2) := by decide +kernel
theorem dX0_turnAll_20 : decode cX0_turnAll 20 = .ok (.imul, 1) := by decide +kernel
theorem dX0_turnAll_21 : decode cX0_turnAll 21 = .ok (.iadd, 1) := by decide +kernel
theorem dX0_turnAll_22 : decode cX0_turnAll 22 = .ok (.iload_n 2, 1) := by decide +kernel
theorem dX0_turnAll_23 : decode cX0_turnAll 23 = .ok (.bipush 7, 2) := by decide +kernel
theorem dX0_turnAll_25 : decode cX0_turnAll 25 = .ok (.imul, 1) := by decide +kernel
theorem dX0_turnAll_26 : decode cX0_turnAll 26 = .ok (.iadd, 1) := by decide +kernel
theorem dX0_turnAll_27 : decode cX0_turnAll 27 = .ok (.bipush 13, 2) := by decide +kernel
theorem dX0_turnAll_29 : decode cX0_turnAll 29 = .ok (.iadd, 1) := by decide +kernel
theorem dX0_turnAll_30 : decode cX0_turnAll 30 = .ok (.bipush 7, 2) := by decide +kernel
theorem dX0_turnAll_32 : decode cX0_turnAll 32 = .ok (.imul, 1) := by decide +kernel
theorem dX0_turnAll_33 : decode cX0_turnAll 33 = .ok (.sipush 1000, 3) := by decide +kernel
theorem dX0_turnAll_36 : decode cX0_turnAll 36 = .ok (.irem, 1) := by decide +kernel
theorem dX0_turnAll_37 : decode cX0_turnAll 37 = .ok (.istore_n 3, 1) := by decide +kernel
theorem dX0_turnAll_38 : decode cX0_turnAll 38 = .ok (.aload_n 0, 1) := by decide +kernel
theorem dX0_turnAll_39 : decode cX0_turnAll 39 = .ok (.iload_n 2, 1) := by decide +kernel
theorem dX0_turnAll_40 : decode cX0_turnAll 40 = .ok (.invokevirtual 94, 3) := by decide +kernel
theorem dX0_turnAll_43 : decode cX0_turnAll 43 = .ok (.aload_n 0, 1) := by decide +kernel
theorem dX0_turnAll_44 : decode cX0_turnAll 44 = .ok (.getfield 47, 3) := by decide +kernel
theorem dX0_turnAll_47 : decode cX0_turnAll 47 = .ok (.iload_n 2, 1) := by decide +kernel
theorem dX0_turnAll_48 : decode cX0_turnAll 48 = .ok (.baload, 1) := by decide +kernel
theorem dX0_turnAll_49 : decode cX0_turnAll 49 = .ok (.ifCond .eq 7, 3) := by decide +kernel
theorem dX0_turnAll_52 : decode cX0_turnAll 52 = .ok (.iconst 0, 1) := by decide +kernel
theorem dX0_turnAll_53 : decode cX0_turnAll 53 = .ok (.goto 4, 3) := by decide +kernel
theorem dX0_turnAll_56 : decode cX0_turnAll 56 = .ok (.iconst 1, 1) := by decide +kernel
theorem dX0_turnAll_57 : decode cX0_turnAll 57 = .ok (.aload_n 0, 1) := by decide +kernel
theorem dX0_turnAll_58 : decode cX0_turnAll 58 = .ok (.getfield 38, 3) := by decide +kernel
theorem dX0_turnAll_61 : decode cX0_turnAll 61 = .ok (.iload_n 2, 1) := by decide +kernel
theorem dX0_turnAll_62 : decode cX0_turnAll 62 = .ok (.iaload, 1) := by decide +kernel
theorem dX0_turnAll_63 : decode cX0_turnAll 63 = .ok (.aload_n 0, 1) := by decide +kernel
theorem dX0_turnAll_64 : decode cX0_turnAll 64 = .ok (.getfield 32, 3) := by decide +kernel
theorem dX0_turnAll_67 : decode cX0_turnAll 67 = .ok (.iload_n 2, 1) := by decide +kernel
theorem dX0_turnAll_68 : decode cX0_turnAll 68 = .ok (.iaload, 1) := by decide +kernel
theorem dX0_turnAll_69 : decode cX0_turnAll 69 = .ok (.invokevirtual 122, 3) := by decide +kernel
theorem dX0_turnAll_72 : decode cX0_turnAll 72 = .ok (.istore 4, 2) := by decide +kernel
theorem dX0_turnAll_74 : decode cX0_turnAll 74 = .ok (.iload_n 3, 1) := by decide +kernel
theorem dX0_turnAll_75 : decode cX0_turnAll 75 = .ok (.iload 4, 2) := by decide +kernel
theorem dX0_turnAll_77 : decode cX0_turnAll 77 = .ok (.if_icmp .ge 23, 3) := by decide +kernel
theorem dX0_turnAll_80 : decode cX0_turnAll 80 = .ok (.aload_n 0, 1) := by decide +kernel
theorem dX0_turnAll_81 : decode cX0_turnAll 81 = .ok (.getfield 47, 3) := by decide +kernel
theorem dX0_turnAll_84 : decode cX0_turnAll 84 = .ok (.iload_n 2, 1) := by decide +kernel
theorem dX0_turnAll_85 : decode cX0_turnAll 85 = .ok (.aload_n 0, 1) := by decide +kernel
theorem dX0_turnAll_86 : decode cX0_turnAll 86 = .ok (.getfield 47, 3) := by decide +kernel
theorem dX0_turnAll_89 : decode cX0_turnAll 89 = .ok (.iload_n 2, 1) := by decide +kernel
theorem dX0_turnAll_90 : decode cX0_turnAll 90 = .ok (.baload, 1) := by decide +kernel
theorem dX0_turnAll_91 : decode cX0_turnAll 91 = .ok (.ifCond .ne 7, 3) := by decide +kernel
theorem dX0_turnAll_94 : decode cX0_turnAll 94 = .ok (.iconst 1, 1) := by decide +kernel
theorem dX0_turnAll_95 : decode cX0_turnAll 95 = .ok (.goto 4, 3) := by decide +kernel
theorem dX0_turnAll_98 : decode cX0_turnAll 98 = .ok (.iconst 0, 1) := by decide +kernel
theorem dX0_turnAll_99 : decode cX0_turnAll 99 = .ok (.bastore, 1) := by decide +kernel
theorem dX0_turnAll_100 : decode cX0_turnAll 100 = .ok (.iinc 2 1, 3) := by decide +kernel
theorem dX0_turnAll_103 : decode cX0_turnAll 103 = .ok (.goto (-101), 3) := by decide +kernel
theorem dX0_turnAll_106 : decode cX0_turnAll 106 = .ok (.return_, 1) := by decide +kernel
theorem dX0_wayOf_0 : decode cX0_wayOf 0 = .ok (.iconst 0, 1) := by decide +kernel
theorem dX0_wayOf_1 : decode cX0_wayOf 1 = .ok (.istore_n 2, 1) := by decide +kernel
theorem dX0_wayOf_2 : decode cX0_wayOf 2 = .ok (.iconst 0, 1) := by decide +kernel
theorem dX0_wayOf_3 : decode cX0_wayOf 3 = .ok (.istore_n 3, 1) := by decide +kernel
theorem dX0_wayOf_4 : decode cX0_wayOf 4 = .ok (.iload_n 3, 1) := by decide +kernel
theorem dX0_wayOf_5 : decode cX0_wayOf 5 = .ok (.aload_n 0, 1) := by decide +kernel
theorem dX0_wayOf_6 : decode cX0_wayOf 6 = .ok (.getfield 51, 3) := by decide +kernel
theorem dX0_wayOf_9 : decode cX0_wayOf 9 = .ok (.if_icmp .ge 29, 3) := by decide +kernel
theorem dX0_wayOf_12 : decode cX0_wayOf 12 = .ok (.iload_n 1, 1) := by decide +kernel
theorem dX0_wayOf_13 : decode cX0_wayOf 13 = .ok (.iload_n 3, 1) := by decide +kernel
theorem dX0_wayOf_14 : decode cX0_wayOf 14 = .ok (.ishr, 1) := by decide +kernel
theorem dX0_wayOf_15 : decode cX0_wayOf 15 = .ok (.iconst 1, 1) := by decide +kernel
theorem dX0_wayOf_16 : decode cX0_wayOf 16 = .ok (.iand, 1) := by decide +kernel
theorem dX0_wayOf_17 : decode cX0_wayOf 17 = .ok (.iconst 1, 1) := by decide +kernel
theorem dX0_wayOf_18 : decode cX0_wayOf 18 = .ok (.if_icmp .ne 14, 3) := by decide +kernel
theorem dX0_wayOf_21 : decode cX0_wayOf 21 = .ok (.iload_n 2, 1) := by decide +kernel
theorem dX0_wayOf_22 : decode cX0_wayOf 22 = .ok (.aload_n 0, 1) := by decide +kernel
theorem dX0_wayOf_23 : decode cX0_wayOf 23 = .ok (.getfield 32, 3) := by decide +kernel
theorem dX0_wayOf_26 : decode cX0_wayOf 26 = .ok (.iload_n 3, 1) := by decide +kernel
theorem dX0_wayOf_27 : decode cX0_wayOf 27 = .ok (.iaload, 1) := by decide +kernel
theorem dX0_wayOf_28 : decode cX0_wayOf 28 = .ok (.invokestatic 126, 3) := by decide +kernel
theorem dX0_wayOf_31 : decode cX0_wayOf 31 = .ok (.istore_n 2, 1) := by decide +kernel
theorem dX0_wayOf_32 : decode cX0_wayOf 32 = .ok (.iinc 3 1, 3) := by decide +kernel
theorem dX0_wayOf_35 : decode cX0_wayOf 35 = .ok (.goto (-31), 3) := by decide +kernel
theorem dX0_wayOf_38 : decode cX0_wayOf 38 = .ok (.iconst 2, 1) := by decide +kernel
theorem dX0_wayOf_39 : decode cX0_wayOf 39 = .ok (.iload_n 2, 1) := by decide +kernel
theorem dX0_wayOf_40 : decode cX0_wayOf 40 = .ok (.imul, 1) := by decide +kernel
theorem dX0_wayOf_41 : decode cX0_wayOf 41 = .ok (.ireturn, 1) := by decide +kernel
theorem dX1_init_0 : decode cX1_init 0 = .ok (.aload_n 0, 1) := by decide +kernel
theorem dX1_init_1 : decode cX1_init 1 = .ok (.iload_n 1, 1) := by decide +kernel
theorem dX1_init_2 : decode cX1_init 2 = .ok (.iload_n 2, 1) := by decide +kernel
theorem dX1_init_3 : decode cX1_init 3 = .ok (.invokespecial 1, 3) := by decide +kernel
theorem dX1_init_6 : decode cX1_init 6 = .ok (.return_, 1) := by decide +kernel
theorem dX1_beginning_0 : decode cX1_beginning 0 = .ok (.iload_n 2, 1) := by decide +kernel
theorem dX1_beginning_1 : decode cX1_beginning 1 = .ok (.bipush 31, 2) := by decide +kernel
theorem dX1_beginning_3 : decode cX1_beginning 3 = .ok (.imul, 1) := by decide +kernel
theorem dX1_beginning_4 : decode cX1_beginning 4 = .ok (.aload_n 0, 1) := by decide +kernel
theorem dX1_beginning_5 : decode cX1_beginning 5 = .ok (.getfield 7, 3) := by decide +kernel
theorem dX1_beginning_8 : decode cX1_beginning 8 = .ok (.bipush 17, 2) := by decide +kernel
theorem dX1_beginning_10 : decode cX1_beginning 10 = .ok (.imul, 1) := by decide +kernel
theorem dX1_beginning_11 : decode cX1_beginning 11 = .ok (.iadd, 1) := by decide +kernel
theorem dX1_beginning_12 : decode cX1_beginning 12 = .ok (.bipush 97, 2) := by decide +kernel
theorem dX1_beginning_14 : decode cX1_beginning 14 = .ok (.irem, 1) := by decide +kernel
theorem dX1_beginning_15 : decode cX1_beginning 15 = .ok (.ireturn, 1) := by decide +kernel
theorem dX1_ends_0 : decode cX1_ends 0 = .ok (.aload_n 2, 1) := by decide +kernel
theorem dX1_ends_1 : decode cX1_ends 1 = .ok (.bipush 41, 2) := by decide +kernel
theorem dX1_ends_3 : decode cX1_ends 3 = .ok (.invokestatic 13, 3) := by decide +kernel
theorem dX1_ends_6 : decode cX1_ends 6 = .ok (.aload_n 0, 1) := by decide +kernel
theorem dX1_ends_7 : decode cX1_ends 7 = .ok (.iload_n 1, 1) := by decide +kernel
theorem dX1_ends_8 : decode cX1_ends 8 = .ok (.iconst 1, 1) := by decide +kernel
theorem dX1_ends_9 : decode cX1_ends 9 = .ok (.iadd, 1) := by decide +kernel
theorem dX1_ends_10 : decode cX1_ends 10 = .ok (.aload_n 2, 1) := by decide +kernel
theorem dX1_ends_11 : decode cX1_ends 11 = .ok (.invokespecial 17, 3) := by decide +kernel
theorem dX1_ends_14 : decode cX1_ends 14 = .ok (.aload_n 0, 1) := by decide +kernel
theorem dX1_ends_15 : decode cX1_ends 15 = .ok (.iconst 2, 1) := by decide +kernel
theorem dX1_ends_16 : decode cX1_ends 16 = .ok (.aload_n 2, 1) := by decide +kernel
theorem dX1_ends_17 : decode cX1_ends 17 = .ok (.invokevirtual 21, 3) := by decide +kernel
theorem dX1_ends_20 : decode cX1_ends 20 = .ok (.iadd, 1) := by decide +kernel
theorem dX1_ends_21 : decode cX1_ends 21 = .ok (.ireturn, 1) := by decide +kernel
theorem dX2_init_0 : decode cX2_init 0 = .ok (.aload_n 0, 1) := by decide +kernel
theorem dX2_init_1 : decode cX2_init 1 = .ok (.iload_n 1, 1) := by decide +kernel
theorem dX2_init_2 : decode cX2_init 2 = .ok (.iload_n 2, 1) := by decide +kernel
theorem dX2_init_3 : decode cX2_init 3 = .ok (.invokespecial 1, 3) := by decide +kernel
theorem dX2_init_6 : decode cX2_init 6 = .ok (.return_, 1) := by decide +kernel
theorem dX2_worthOf_0 : decode cX2_worthOf 0 = .ok (.aload_n 1, 1) := by decide +kernel
theorem dX2_worthOf_1 : decode cX2_worthOf 1 = .ok (.getfield 7, 3) := by decide +kernel
theorem dX2_worthOf_4 : decode cX2_worthOf 4 = .ok (.iload_n 2, 1) := by decide +kernel
theorem dX2_worthOf_5 : decode cX2_worthOf 5 = .ok (.aaload, 1) := by decide +kernel
theorem dX2_worthOf_6 : decode cX2_worthOf 6 = .ok (.iload_n 3, 1) := by decide +kernel
theorem dX2_worthOf_7 : decode cX2_worthOf 7 = .ok (.iaload, 1) := by decide +kernel
theorem dX2_worthOf_8 : decode cX2_worthOf 8 = .ok (.ireturn, 1) := by decide +kernel
theorem dX2_rows_0 : decode cX2_rows 0 = .ok (.aload_n 2, 1) := by decide +kernel
theorem dX2_rows_1 : decode cX2_rows 1 = .ok (.bipush 51, 2) := by decide +kernel
theorem dX2_rows_3 : decode cX2_rows 3 = .ok (.invokestatic 13, 3) := by decide +kernel
theorem dX2_rows_6 : decode cX2_rows 6 = .ok (.aload_n 0, 1) := by decide +kernel
theorem dX2_rows_7 : decode cX2_rows 7 = .ok (.iload_n 1, 1) := by decide +kernel
theorem dX2_rows_8 : decode cX2_rows 8 = .ok (.aload_n 2, 1) := by decide +kernel
theorem dX2_rows_9 : decode cX2_rows 9 = .ok (.invokespecial 19, 3) := by decide +kernel
theorem dX2_rows_12 : decode cX2_rows 12 = .ok (.aload_n 0, 1) := by decide +kernel
theorem dX2_rows_13 : decode cX2_rows 13 = .ok (.getfield 23, 3) := by decide +kernel
theorem dX2_rows_16 : decode cX2_rows 16 = .ok (.ixor, 1) := by decide +kernel
theorem dX2_rows_17 : decode cX2_rows 17 = .ok (.ireturn, 1) := by decide +kernel
theorem dX3_init_0 : decode cX3_init 0 = .ok (.aload_n 0, 1) := by decide +kernel
theorem dX3_init_1 : decode cX3_init 1 = .ok (.iload_n 1, 1) := by decide +kernel
theorem dX3_init_2 : decode cX3_init 2 = .ok (.iload_n 2, 1) := by decide +kernel
theorem dX3_init_3 : decode cX3_init 3 = .ok (.invokespecial 3, 3) := by decide +kernel
theorem dX3_init_6 : decode cX3_init 6 = .ok (.return_, 1) := by decide +kernel
theorem dX3_worthOf_0 : decode cX3_worthOf 0 = .ok (.ldc 9, 2) := by decide +kernel
theorem dX3_worthOf_2 : decode cX3_worthOf 2 = .ok (.aload_n 1, 1) := by decide +kernel
theorem dX3_worthOf_3 : decode cX3_worthOf 3 = .ok (.getfield 10, 3) := by decide +kernel
theorem dX3_worthOf_6 : decode cX3_worthOf 6 = .ok (.iload_n 2, 1) := by decide +kernel
theorem dX3_worthOf_7 : decode cX3_worthOf 7 = .ok (.aaload, 1) := by decide +kernel
theorem dX3_worthOf_8 : decode cX3_worthOf 8 = .ok (.iload_n 3, 1) := by decide +kernel
theorem dX3_worthOf_9 : decode cX3_worthOf 9 = .ok (.iaload, 1) := by decide +kernel
theorem dX3_worthOf_10 : decode cX3_worthOf 10 = .ok (.isub, 1) := by decide +kernel
theorem dX3_worthOf_11 : decode cX3_worthOf 11 = .ok (.ireturn, 1) := by decide +kernel
theorem dX3_ends_0 : decode cX3_ends 0 = .ok (.aload_n 2, 1) := by decide +kernel
theorem dX3_ends_1 : decode cX3_ends 1 = .ok (.bipush 31, 2) := by decide +kernel
theorem dX3_ends_3 : decode cX3_ends 3 = .ok (.invokestatic 16, 3) := by decide +kernel
theorem dX3_ends_6 : decode cX3_ends 6 = .ok (.aload_n 0, 1) := by decide +kernel
theorem dX3_ends_7 : decode cX3_ends 7 = .ok (.iload_n 1, 1) := by decide +kernel
theorem dX3_ends_8 : decode cX3_ends 8 = .ok (.aload_n 2, 1) := by decide +kernel
theorem dX3_ends_9 : decode cX3_ends 9 = .ok (.invokespecial 22, 3) := by decide +kernel
theorem dX3_ends_12 : decode cX3_ends 12 = .ok (.ineg, 1) := by decide +kernel
theorem dX3_ends_13 : decode cX3_ends 13 = .ok (.ireturn, 1) := by decide +kernel
theorem dX4_init_0 : decode cX4_init 0 = .ok (.aload_n 0, 1) := by decide +kernel
theorem dX4_init_1 : decode cX4_init 1 = .ok (.iload_n 1, 1) := by decide +kernel
theorem dX4_init_2 : decode cX4_init 2 = .ok (.iload_n 2, 1) := by decide +kernel
theorem dX4_init_3 : decode cX4_init 3 = .ok (.invokespecial 1, 3) := by decide +kernel
theorem dX4_init_6 : decode cX4_init 6 = .ok (.return_, 1) := by decide +kernel
theorem dX4_daysAhead_0 : decode cX4_daysAhead 0 = .ok (.iconst 1, 1) := by decide +kernel
theorem dX4_daysAhead_1 : decode cX4_daysAhead 1 = .ok (.aload_n 0, 1) := by decide +kernel
theorem dX4_daysAhead_2 : decode cX4_daysAhead 2 = .ok (.getfield 7, 3) := by decide +kernel
theorem dX4_daysAhead_5 : decode cX4_daysAhead 5 = .ok (.iconst 3, 1) := by decide +kernel
theorem dX4_daysAhead_6 : decode cX4_daysAhead 6 = .ok (.irem, 1) := by decide +kernel
theorem dX4_daysAhead_7 : decode cX4_daysAhead 7 = .ok (.iadd, 1) := by decide +kernel
theorem dX4_daysAhead_8 : decode cX4_daysAhead 8 = .ok (.ireturn, 1) := by decide +kernel
theorem dX4_worthOf_0 : decode cX4_worthOf 0 = .ok (.aload_n 1, 1) := by decide +kernel
theorem dX4_worthOf_1 : decode cX4_worthOf 1 = .ok (.iload_n 2, 1) := by decide +kernel
theorem dX4_worthOf_2 : decode cX4_worthOf 2 = .ok (.iload_n 3, 1) := by decide +kernel
theorem dX4_worthOf_3 : decode cX4_worthOf 3 = .ok (.aload_n 0, 1) := by decide +kernel
theorem dX4_worthOf_4 : decode cX4_worthOf 4 = .ok (.invokevirtual 13, 3) := by decide +kernel
theorem dX4_worthOf_7 : decode cX4_worthOf 7 = .ok (.invokevirtual 17, 3) := by decide +kernel
theorem dX4_worthOf_10 : decode cX4_worthOf 10 = .ok (.ireturn, 1) := by decide +kernel
theorem dX4_means_0 : decode cX4_means 0 = .ok (.aload_n 2, 1) := by decide +kernel
theorem dX4_means_1 : decode cX4_means 1 = .ok (.bipush 11, 2) := by decide +kernel
theorem dX4_means_3 : decode cX4_means 3 = .ok (.invokestatic 23, 3) := by decide +kernel
theorem dX4_means_6 : decode cX4_means 6 = .ok (.aload_n 0, 1) := by decide +kernel
theorem dX4_means_7 : decode cX4_means 7 = .ok (.iload_n 1, 1) := by decide +kernel
theorem dX4_means_8 : decode cX4_means 8 = .ok (.iconst 3, 1) := by decide +kernel
theorem dX4_means_9 : decode cX4_means 9 = .ok (.imul, 1) := by decide +kernel
theorem dX4_means_10 : decode cX4_means 10 = .ok (.aload_n 2, 1) := by decide +kernel
theorem dX4_means_11 : decode cX4_means 11 = .ok (.invokespecial 27, 3) := by decide +kernel
theorem dX4_means_14 : decode cX4_means 14 = .ok (.ireturn, 1) := by decide +kernel
theorem dX5_init_0 : decode cX5_init 0 = .ok (.aload_n 0, 1) := by decide +kernel
theorem dX5_init_1 : decode cX5_init 1 = .ok (.invokespecial 3, 3) := by decide +kernel
theorem dX5_init_4 : decode cX5_init 4 = .ok (.aload_n 0, 1) := by decide +kernel
theorem dX5_init_5 : decode cX5_init 5 = .ok (.bipush 8, 2) := by decide +kernel
theorem dX5_init_7 : decode cX5_init 7 = .ok (.bipush 33, 2) := by decide +kernel
theorem dX5_init_9 : decode cX5_init 9 = .ok (.multianewarray 9 2, 4) := by decide +kernel
theorem dX5_init_13 : decode cX5_init 13 = .ok (.putfield 11, 3) := by decide +kernel
theorem dX5_init_16 : decode cX5_init 16 = .ok (.aload_n 0, 1) := by decide +kernel
theorem dX5_init_17 : decode cX5_init 17 = .ok (.bipush 8, 2) := by decide +kernel
theorem dX5_init_19 : decode cX5_init 19 = .ok (.bipush 33, 2) := by decide +kernel
theorem dX5_init_21 : decode cX5_init 21 = .ok (.multianewarray 9 2, 4) := by decide +kernel
theorem dX5_init_25 : decode cX5_init 25 = .ok (.putfield 16, 3) := by decide +kernel
theorem dX5_init_28 : decode cX5_init 28 = .ok (.aload_n 0, 1) := by decide +kernel
theorem dX5_init_29 : decode cX5_init 29 = .ok (.bipush 8, 2) := by decide +kernel
theorem dX5_init_31 : decode cX5_init 31 = .ok (.bipush 33, 2) := by decide +kernel
theorem dX5_init_33 : decode cX5_init 33 = .ok (.multianewarray 9 2, 4) := by decide +kernel
theorem dX5_init_37 : decode cX5_init 37 = .ok (.putfield 19, 3) := by decide +kernel
theorem dX5_init_40 : decode cX5_init 40 = .ok (.aload_n 0, 1) := by decide +kernel
theorem dX5_init_41 : decode cX5_init 41 = .ok (.bipush 8, 2) := by decide +kernel
theorem dX5_init_43 : decode cX5_init 43 = .ok (.bipush 33, 2) := by decide +kernel
theorem dX5_init_45 : decode cX5_init 45 = .ok (.multianewarray 9 2, 4) := by decide +kernel
theorem dX5_init_49 : decode cX5_init 49 = .ok (.putfield 22, 3) := by decide +kernel
theorem dX5_init_52 : decode cX5_init 52 = .ok (.aload_n 0, 1) := by decide +kernel
theorem dX5_init_53 : decode cX5_init 53 = .ok (.bipush 8, 2) := by decide +kernel
theorem dX5_init_55 : decode cX5_init 55 = .ok (.newarray .int, 2) := by decide +kernel
theorem dX5_init_57 : decode cX5_init 57 = .ok (.putfield 25, 3) := by decide +kernel
theorem dX5_init_60 : decode cX5_init 60 = .ok (.aload_n 0, 1) := by decide +kernel
theorem dX5_init_61 : decode cX5_init 61 = .ok (.bipush 33, 2) := by decide +kernel
theorem dX5_init_63 : decode cX5_init 63 = .ok (.newarray .long, 2) := by decide +kernel
theorem dX5_init_65 : decode cX5_init 65 = .ok (.putfield 29, 3) := by decide +kernel
theorem dX5_init_68 : decode cX5_init 68 = .ok (.aload_n 0, 1) := by decide +kernel
theorem dX5_init_69 : decode cX5_init 69 = .ok (.lconst 0, 1) := by decide +kernel
theorem dX5_init_70 : decode cX5_init 70 = .ok (.putfield 33, 3) := by decide +kernel
theorem dX5_init_73 : decode cX5_init 73 = .ok (.aload_n 0, 1) := by decide +kernel
theorem dX5_init_74 : decode cX5_init 74 = .ok (.lconst 0, 1) := by decide +kernel
theorem dX5_init_75 : decode cX5_init 75 = .ok (.putfield 37, 3) := by decide +kernel
theorem dX5_init_78 : decode cX5_init 78 = .ok (.aload_n 0, 1) := by decide +kernel
theorem dX5_init_79 : decode cX5_init 79 = .ok (.aload_n 1, 1) := by decide +kernel
theorem dX5_init_80 : decode cX5_init 80 = .ok (.putfield 40, 3) := by decide +kernel
theorem dX5_init_83 : decode cX5_init 83 = .ok (.return_, 1) := by decide +kernel
theorem dX5_layAll_0 : decode cX5_layAll 0 = .ok (.iconst 0, 1) := by decide +kernel
theorem dX5_layAll_1 : decode cX5_layAll 1 = .ok (.istore_n 2, 1) := by decide +kernel
theorem dX5_layAll_2 : decode cX5_layAll 2 = .ok (.iload_n 2, 1) := by decide +kernel
theorem dX5_layAll_3 : decode cX5_layAll 3 = .ok (.aload_n 0, 1) := by decide +kernel
theorem dX5_layAll_4 : decode cX5_layAll 4 = .ok (.getfield 40, 3) := by decide +kernel
theorem dX5_layAll_7 : decode cX5_layAll 7 = .ok (.getfield 44, 3) := by decide +kernel
theorem dX5_layAll_10 : decode cX5_layAll 10 = .ok (.if_icmp .ge 16, 3) := by decide +kernel
theorem dX5_layAll_13 : decode cX5_layAll 13 = .ok (.aload_n 0, 1) := by decide +kernel
theorem dX5_layAll_14 : decode cX5_layAll 14 = .ok (.iload_n 2, 1) := by decide +kernel
theorem dX5_layAll_15 : decode cX5_layAll 15 = .ok (.iload_n 1, 1) := by decide +kernel
theorem dX5_layAll_16 : decode cX5_layAll 16 = .ok (.iconst 0, 1) := by decide +kernel
theorem dX5_layAll_17 : decode cX5_layAll 17 = .ok (.invokevirtual 50, 3) := by decide +kernel
theorem dX5_layAll_20 : decode cX5_layAll 20 = .ok (.iinc 2 1, 3) := by decide +kernel
theorem dX5_layAll_23 : decode cX5_layAll 23 = .ok (.goto (-21), 3) := by decide +kernel
theorem dX5_layAll_26 : decode cX5_layAll 26 = .ok (.return_, 1) := by decide +kernel
theorem dX5_lay_0 : decode cX5_lay 0 = .ok (.aload_n 0, 1) := by decide +kernel
theorem dX5_lay_1 : decode cX5_lay 1 = .ok (.getfield 22, 3) := by decide +kernel
theorem dX5_lay_4 : decode cX5_lay 4 = .ok (.iload_n 1, 1) := by decide +kernel
theorem dX5_lay_5 : decode cX5_lay 5 = .ok (.aaload, 1) := by decide +kernel
theorem dX5_lay_6 : decode cX5_lay 6 = .ok (.iconst (-1), 1) := by decide +kernel
theorem dX5_lay_7 : decode cX5_lay 7 = .ok (.invokestatic 54, 3) := by decide +kernel
theorem dX5_lay_10 : decode cX5_lay 10 = .ok (.aload_n 0, 1) := by decide +kernel
theorem dX5_lay_11 : decode cX5_lay 11 = .ok (.getfield 11, 3) := by decide +kernel
theorem dX5_lay_14 : decode cX5_lay 14 = .ok (.iload_n 1, 1) := by decide +kernel
theorem dX5_lay_15 : decode cX5_lay 15 = .ok (.aaload, 1) := by decide +kernel
theorem dX5_lay_16 : decode cX5_lay 16 = .ok (.iconst 0, 1) := by decide +kernel
theorem dX5_lay_17 : decode cX5_lay 17 = .ok (.aload_n 0, 1) := by decide +kernel
theorem dX5_lay_18 : decode cX5_lay 18 = .ok (.getfield 40, 3) := by decide +kernel
theorem dX5_lay_21 : decode cX5_lay 21 = .ok (.getfield 60, 3) := by decide +kernel
theorem dX5_lay_24 : decode cX5_lay 24 = .ok (.iload_n 1, 1) := by decide +kernel
theorem dX5_lay_25 : decode cX5_lay 25 = .ok (.iaload, 1) := by decide +kernel
theorem dX5_lay_26 : decode cX5_lay 26 = .ok (.iastore, 1) := by decide +kernel
theorem dX5_lay_27 : decode cX5_lay 27 = .ok (.aload_n 0, 1) := by decide +kernel
theorem dX5_lay_28 : decode cX5_lay 28 = .ok (.getfield 16, 3) := by decide +kernel
theorem dX5_lay_31 : decode cX5_lay 31 = .ok (.iload_n 1, 1) := by decide +kernel
theorem dX5_lay_32 : decode cX5_lay 32 = .ok (.aaload, 1) := by decide +kernel
theorem dX5_lay_33 : decode cX5_lay 33 = .ok (.iconst 0, 1) := by decide +kernel
theorem dX5_lay_34 : decode cX5_lay 34 = .ok (.aload_n 0, 1) := by decide +kernel
theorem dX5_lay_35 : decode cX5_lay 35 = .ok (.getfield 40, 3) := by decide +kernel
theorem dX5_lay_38 : decode cX5_lay 38 = .ok (.getfield 62, 3) := by decide +kernel
theorem dX5_lay_41 : decode cX5_lay 41 = .ok (.iload_n 1, 1) := by decide +kernel
theorem dX5_lay_42 : decode cX5_lay 42 = .ok (.iaload, 1) := by decide +kernel
theorem dX5_lay_43 : decode cX5_lay 43 = .ok (.iastore, 1) := by decide +kernel
theorem dX5_lay_44 : decode cX5_lay 44 = .ok (.aload_n 0, 1) := by decide +kernel
theorem dX5_lay_45 : decode cX5_lay 45 = .ok (.iload_n 1, 1) := by decide +kernel
theorem dX5_lay_46 : decode cX5_lay 46 = .ok (.iconst 0, 1) := by decide +kernel
theorem dX5_lay_47 : decode cX5_lay 47 = .ok (.iload_n 2, 1) := by decide +kernel
theorem dX5_lay_48 : decode cX5_lay 48 = .ok (.iload_n 3, 1) := by decide +kernel
theorem dX5_lay_49 : decode cX5_lay 49 = .ok (.invokevirtual 64, 3) := by decide +kernel
theorem dX5_lay_52 : decode cX5_lay 52 = .ok (.aload_n 0, 1) := by decide +kernel
theorem dX5_lay_53 : decode cX5_lay 53 = .ok (.getfield 11, 3) := by decide +kernel
theorem dX5_lay_56 : decode cX5_lay 56 = .ok (.iload_n 1, 1) := by decide +kernel
theorem dX5_lay_57 : decode cX5_lay 57 = .ok (.aaload, 1) := by decide +kernel
theorem dX5_lay_58 : decode cX5_lay 58 = .ok (.bipush 11, 2) := by decide +kernel
theorem dX5_lay_60 : decode cX5_lay 60 = .ok (.ldc 68, 2) := by decide +kernel
theorem dX5_lay_62 : decode cX5_lay 62 = .ok (.iastore, 1) := by decide +kernel
theorem dX5_lay_63 : decode cX5_lay 63 = .ok (.aload_n 0, 1) := by decide +kernel
theorem dX5_lay_64 : decode cX5_lay 64 = .ok (.getfield 16, 3) := by decide +kernel
theorem dX5_lay_67 : decode cX5_lay 67 = .ok (.iload_n 1, 1) := by decide +kernel
theorem dX5_lay_68 : decode cX5_lay 68 = .ok (.aaload, 1) := by decide +kernel
theorem dX5_lay_69 : decode cX5_lay 69 = .ok (.bipush 11, 2) := by decide +kernel
theorem dX5_lay_71 : decode cX5_lay 71 = .ok (.iconst 0, 1) := by decide +kernel
theorem dX5_lay_72 : decode cX5_lay 72 = .ok (.iastore, 1) := by decide +kernel
theorem dX5_lay_73 : decode cX5_lay 73 = .ok (.aload_n 0, 1) := by decide +kernel
theorem dX5_lay_74 : decode cX5_lay 74 = .ok (.iload_n 1, 1) := by decide +kernel
theorem dX5_lay_75 : decode cX5_lay 75 = .ok (.bipush 11, 2) := by decide +kernel
theorem dX5_lay_77 : decode cX5_lay 77 = .ok (.iload_n 2, 1) := by decide +kernel
theorem dX5_lay_78 : decode cX5_lay 78 = .ok (.iload_n 3, 1) := by decide +kernel
theorem dX5_lay_79 : decode cX5_lay 79 = .ok (.invokevirtual 64, 3) := by decide +kernel
theorem dX5_lay_82 : decode cX5_lay 82 = .ok (.aload_n 0, 1) := by decide +kernel
theorem dX5_lay_83 : decode cX5_lay 83 = .ok (.getfield 11, 3) := by decide +kernel
theorem dX5_lay_86 : decode cX5_lay 86 = .ok (.iload_n 1, 1) := by decide +kernel
theorem dX5_lay_87 : decode cX5_lay 87 = .ok (.aaload, 1) := by decide +kernel
theorem dX5_lay_88 : decode cX5_lay 88 = .ok (.bipush 22, 2) := by decide +kernel
theorem dX5_lay_90 : decode cX5_lay 90 = .ok (.iconst 0, 1) := by decide +kernel
theorem dX5_lay_91 : decode cX5_lay 91 = .ok (.iastore, 1) := by decide +kernel
theorem dX5_lay_92 : decode cX5_lay 92 = .ok (.aload_n 0, 1) := by decide +kernel
theorem dX5_lay_93 : decode cX5_lay 93 = .ok (.getfield 16, 3) := by decide +kernel
theorem dX5_lay_96 : decode cX5_lay 96 = .ok (.iload_n 1, 1) := by decide +kernel
theorem dX5_lay_97 : decode cX5_lay 97 = .ok (.aaload, 1) := by decide +kernel
theorem dX5_lay_98 : decode cX5_lay 98 = .ok (.bipush 22, 2) := by decide +kernel
theorem dX5_lay_100 : decode cX5_lay 100 = .ok (.iconst 0, 1) := by decide +kernel
theorem dX5_lay_101 : decode cX5_lay 101 = .ok (.iastore, 1) := by decide +kernel
theorem dX5_lay_102 : decode cX5_lay 102 = .ok (.aload_n 0, 1) := by decide +kernel
theorem dX5_lay_103 : decode cX5_lay 103 = .ok (.iload_n 1, 1) := by decide +kernel
theorem dX5_lay_104 : decode cX5_lay 104 = .ok (.bipush 22, 2) := by decide +kernel
theorem dX5_lay_106 : decode cX5_lay 106 = .ok (.iload_n 2, 1) := by decide +kernel
theorem dX5_lay_107 : decode cX5_lay 107 = .ok (.iload_n 3, 1) := by decide +kernel
theorem dX5_lay_108 : decode cX5_lay 108 = .ok (.invokevirtual 64, 3) := by decide +kernel
theorem dX5_lay_111 : decode cX5_lay 111 = .ok (.return_, 1) := by decide +kernel
theorem dX5_layPath_0 : decode cX5_layPath 0 = .ok (.aload_n 0, 1) := by decide +kernel
theorem dX5_layPath_1 : decode cX5_layPath 1 = .ok (.getfield 40, 3) := by decide +kernel
theorem dX5_layPath_4 : decode cX5_layPath 4 = .ok (.iload_n 1, 1) := by decide +kernel
theorem dX5_layPath_5 : decode cX5_layPath 5 = .ok (.invokevirtual 69, 3) := by decide +kernel
theorem dX5_layPath_8 : decode cX5_layPath 8 = .ok (.astore 5, 2) := by decide +kernel
theorem dX5_layPath_10 : decode cX5_layPath 10 = .ok (.iload_n 2, 1) := by decide +kernel
theorem dX5_layPath_11 : decode cX5_layPath 11 = .ok (.iload_n 3, 1) := by decide +kernel
theorem dX5_layPath_12 : decode cX5_layPath 12 = .ok (.bipush 10, 2) := by decide +kernel
theorem dX5_layPath_14 : decode cX5_layPath 14 = .ok (.invokestatic 73, 3) := by decide +kernel
theorem dX5_layPath_17 : decode cX5_layPath 17 = .ok (.iadd, 1) := by decide +kernel
theorem dX5_layPath_18 : decode cX5_layPath 18 = .ok (.istore 6, 2) := by decide +kernel
theorem dX5_layPath_20 : decode cX5_layPath 20 = .ok (.iload_n 2, 1) := by decide +kernel
theorem dX5_layPath_21 : decode cX5_layPath 21 = .ok (.istore 7, 2) := by decide +kernel
theorem dX5_layPath_23 : decode cX5_layPath 23 = .ok (.iload 7, 2) := by decide +kernel
theorem dX5_layPath_25 : decode cX5_layPath 25 = .ok (.iload 6, 2) := by decide +kernel
theorem dX5_layPath_27 : decode cX5_layPath 27 = .ok (.if_icmp .gt 106, 3) := by decide +kernel
theorem dX5_layPath_30 : decode cX5_layPath 30 = .ok (.aload_n 0, 1) := by decide +kernel
theorem dX5_layPath_31 : decode cX5_layPath 31 = .ok (.getfield 11, 3) := by decide +kernel
theorem dX5_layPath_34 : decode cX5_layPath 34 = .ok (.iload_n 1, 1) := by decide +kernel
theorem dX5_layPath_35 : decode cX5_layPath 35 = .ok (.aaload, 1) := by decide +kernel
theorem dX5_layPath_36 : decode cX5_layPath 36 = .ok (.iload 7, 2) := by decide +kernel
theorem dX5_layPath_38 : decode cX5_layPath 38 = .ok (.iaload, 1) := by decide +kernel
theorem dX5_layPath_39 : decode cX5_layPath 39 = .ok (.istore 8, 2) := by decide +kernel
theorem dX5_layPath_41 : decode cX5_layPath 41 = .ok (.aload_n 0, 1) := by decide +kernel
theorem dX5_layPath_42 : decode cX5_layPath 42 = .ok (.getfield 16, 3) := by decide +kernel
theorem dX5_layPath_45 : decode cX5_layPath 45 = .ok (.iload_n 1, 1) := by decide +kernel
theorem dX5_layPath_46 : decode cX5_layPath 46 = .ok (.aaload, 1) := by decide +kernel
theorem dX5_layPath_47 : decode cX5_layPath 47 = .ok (.iload 7, 2) := by decide +kernel
theorem dX5_layPath_49 : decode cX5_layPath 49 = .ok (.iaload, 1) := by decide +kernel
theorem dX5_layPath_50 : decode cX5_layPath 50 = .ok (.istore 9, 2) := by decide +kernel
theorem dX5_layPath_52 : decode cX5_layPath 52 = .ok (.aload_n 0, 1) := by decide +kernel
theorem dX5_layPath_53 : decode cX5_layPath 53 = .ok (.getfield 19, 3) := by decide +kernel
theorem dX5_layPath_56 : decode cX5_layPath 56 = .ok (.iload_n 1, 1) := by decide +kernel
theorem dX5_layPath_57 : decode cX5_layPath 57 = .ok (.aaload, 1) := by decide +kernel
theorem dX5_layPath_58 : decode cX5_layPath 58 = .ok (.iload 7, 2) := by decide +kernel
theorem dX5_layPath_60 : decode cX5_layPath 60 = .ok (.aload 5, 2) := by decide +kernel
theorem dX5_layPath_62 : decode cX5_layPath 62 = .ok (.iload 8, 2) := by decide +kernel
theorem dX5_layPath_64 : decode cX5_layPath 64 = .ok (.invokevirtual 79, 3) := by decide +kernel
theorem dX5_layPath_67 : decode cX5_layPath 67 = .ok (.iastore, 1) := by decide +kernel
theorem dX5_layPath_68 : decode cX5_layPath 68 = .ok (.iload 7, 2) := by decide +kernel
theorem dX5_layPath_70 : decode cX5_layPath 70 = .ok (.iload 6, 2) := by decide +kernel
theorem dX5_layPath_72 : decode cX5_layPath 72 = .ok (.if_icmp .ge 55, 3) := by decide +kernel
theorem dX5_layPath_75 : decode cX5_layPath 75 = .ok (.aload_n 0, 1) := by decide +kernel
theorem dX5_layPath_76 : decode cX5_layPath 76 = .ok (.getfield 11, 3) := by decide +kernel
theorem dX5_layPath_79 : decode cX5_layPath 79 = .ok (.iload_n 1, 1) := by decide +kernel
theorem dX5_layPath_80 : decode cX5_layPath 80 = .ok (.aaload, 1) := by decide +kernel
theorem dX5_layPath_81 : decode cX5_layPath 81 = .ok (.iload 7, 2) := by decide +kernel
theorem dX5_layPath_83 : decode cX5_layPath 83 = .ok (.iconst 1, 1) := by decide +kernel
theorem dX5_layPath_84 : decode cX5_layPath 84 = .ok (.iadd, 1) := by decide +kernel
theorem dX5_layPath_85 : decode cX5_layPath 85 = .ok (.aload 5, 2) := by decide +kernel
theorem dX5_layPath_87 : decode cX5_layPath 87 = .ok (.iload 8, 2) := by decide +kernel
theorem dX5_layPath_89 : decode cX5_layPath 89 = .ok (.iload 9, 2) := by decide +kernel
theorem dX5_layPath_91 : decode cX5_layPath 91 = .ok (.aload_n 0, 1) := by decide +kernel
theorem dX5_layPath_92 : decode cX5_layPath 92 = .ok (.getfield 40, 3) := by decide +kernel
theorem dX5_layPath_95 : decode cX5_layPath 95 = .ok (.getfield 85, 3) := by decide +kernel
theorem dX5_layPath_98 : decode cX5_layPath 98 = .ok (.iload_n 1, 1) := by decide +kernel
theorem dX5_layPath_99 : decode cX5_layPath 99 = .ok (.iaload, 1) := by decide +kernel
theorem dX5_layPath_100 : decode cX5_layPath 100 = .ok (.iload 4, 2) := by decide +kernel
theorem dX5_layPath_102 : decode cX5_layPath 102 = .ok (.invokevirtual 88, 3) := by decide +kernel
theorem dX5_layPath_105 : decode cX5_layPath 105 = .ok (.iastore, 1) := by decide +kernel
theorem dX5_layPath_106 : decode cX5_layPath 106 = .ok (.aload_n 0, 1) := by decide +kernel
theorem dX5_layPath_107 : decode cX5_layPath 107 = .ok (.getfield 16, 3) := by decide +kernel
theorem dX5_layPath_110 : decode cX5_layPath 110 = .ok (.iload_n 1, 1) := by decide +kernel
theorem dX5_layPath_111 : decode cX5_layPath 111 = .ok (.aaload, 1) := by decide +kernel
theorem dX5_layPath_112 : decode cX5_layPath 112 = .ok (.iload 7, 2) := by decide +kernel
theorem dX5_layPath_114 : decode cX5_layPath 114 = .ok (.iconst 1, 1) := by decide +kernel
theorem dX5_layPath_115 : decode cX5_layPath 115 = .ok (.iadd, 1) := by decide +kernel
theorem dX5_layPath_116 : decode cX5_layPath 116 = .ok (.sipush 999, 3) := by decide +kernel
theorem dX5_layPath_119 : decode cX5_layPath 119 = .ok (.iload 9, 2) := by decide +kernel
theorem dX5_layPath_121 : decode cX5_layPath 121 = .ok (.iconst 1, 1) := by decide +kernel
theorem dX5_layPath_122 : decode cX5_layPath 122 = .ok (.iadd, 1) := by decide +kernel
theorem dX5_layPath_123 : decode cX5_layPath 123 = .ok (.invokestatic 73, 3) := by decide +kernel
theorem dX5_layPath_126 : decode cX5_layPath 126 = .ok (.iastore, 1) := by decide +kernel
theorem dX5_layPath_127 : decode cX5_layPath 127 = .ok (.iinc 7 1, 3) := by decide +kernel
theorem dX5_layPath_130 : decode cX5_layPath 130 = .ok (.goto (-107), 3) := by decide +kernel
theorem dX5_layPath_133 : decode cX5_layPath 133 = .ok (.return_, 1) := by decide +kernel
theorem dX5_spotSeenIll_0 : decode cX5_spotSeenIll 0 = .ok (.aload_n 0, 1) := by decide +kernel
theorem dX5_spotSeenIll_1 : decode cX5_spotSeenIll 1 = .ok (.getfield 40, 3) := by decide +kernel
theorem dX5_spotSeenIll_4 : decode cX5_spotSeenIll 4 = .ok (.iload_n 1, 1) := by decide +kernel
theorem dX5_spotSeenIll_5 : decode cX5_spotSeenIll 5 = .ok (.invokevirtual 69, 3) := by decide +kernel
theorem dX5_spotSeenIll_8 : decode cX5_spotSeenIll 8 = .ok (.invokevirtual 92, 3) := by decide +kernel
theorem dX5_spotSeenIll_11 : decode cX5_spotSeenIll 11 = .ok (.ifCond .eq 8, 3) := by decide +kernel
theorem dX5_spotSeenIll_14 : decode cX5_spotSeenIll 14 = .ok (.bipush 11, 2) := by decide +kernel
theorem dX5_spotSeenIll_16 : decode cX5_spotSeenIll 16 = .ok (.goto 5, 3) := by decide +kernel
theorem dX5_spotSeenIll_19 : decode cX5_spotSeenIll 19 = .ok (.bipush 22, 2) := by decide +kernel
theorem dX5_spotSeenIll_21 : decode cX5_spotSeenIll 21 = .ok (.ireturn, 1) := by decide +kernel
theorem dX5_weigh_0 : decode cX5_weigh 0 = .ok (.aload_n 0, 1) := by decide +kernel
theorem dX5_weigh_1 : decode cX5_weigh 1 = .ok (.getfield 40, 3) := by decide +kernel
theorem dX5_weigh_4 : decode cX5_weigh 4 = .ok (.iload_n 1, 1) := by decide +kernel
theorem dX5_weigh_5 : decode cX5_weigh 5 = .ok (.invokevirtual 69, 3) := by decide +kernel
theorem dX5_weigh_8 : decode cX5_weigh 8 = .ok (.astore 5, 2) := by decide +kernel
theorem dX5_weigh_10 : decode cX5_weigh 10 = .ok (.iload_n 3, 1) := by decide +kernel
theorem dX5_weigh_11 : decode cX5_weigh 11 = .ok (.i2l, 1) := by decide +kernel
theorem dX5_weigh_12 : decode cX5_weigh 12 = .ok (.ldc2_w 96, 3) := by decide +kernel
theorem dX5_weigh_15 : decode cX5_weigh 15 = .ok (.lmul, 1) := by decide +kernel
theorem dX5_weigh_16 : decode cX5_weigh 16 = .ok (.lstore 6, 2) := by decide +kernel
theorem dX5_weigh_18 : decode cX5_weigh 18 = .ok (.aload 5, 2) := by decide +kernel
theorem dX5_weigh_20 : decode cX5_weigh 20 = .ok (.invokevirtual 92, 3) := by decide +kernel
theorem dX5_weigh_23 : decode cX5_weigh 23 = .ok (.ifCond .eq 8, 3) := by decide +kernel
theorem dX5_weigh_26 : decode cX5_weigh 26 = .ok (.bipush 11, 2) := by decide +kernel
theorem dX5_weigh_28 : decode cX5_weigh 28 = .ok (.goto 5, 3) := by decide +kernel
theorem dX5_weigh_31 : decode cX5_weigh 31 = .ok (.bipush 22, 2) := by decide +kernel
theorem dX5_weigh_33 : decode cX5_weigh 33 = .ok (.istore 8, 2) := by decide +kernel
theorem dX5_weigh_35 : decode cX5_weigh 35 = .ok (.aload_n 0, 1) := by decide +kernel
theorem dX5_weigh_36 : decode cX5_weigh 36 = .ok (.getfield 29, 3) := by decide +kernel
theorem dX5_weigh_39 : decode cX5_weigh 39 = .ok (.lconst 0, 1) := by decide +kernel
theorem dX5_weigh_40 : decode cX5_weigh 40 = .ok (.invokestatic 98, 3) := by decide +kernel
theorem dX5_weigh_43 : decode cX5_weigh 43 = .ok (.lconst 0, 1) := by decide +kernel
theorem dX5_weigh_44 : decode cX5_weigh 44 = .ok (.lstore 9, 2) := by decide +kernel
theorem dX5_weigh_46 : decode cX5_weigh 46 = .ok (.iconst 1, 1) := by decide +kernel
theorem dX5_weigh_47 : decode cX5_weigh 47 = .ok (.istore 11, 2) := by decide +kernel
theorem dX5_weigh_49 : decode cX5_weigh 49 = .ok (.iload 11, 2) := by decide +kernel
theorem dX5_weigh_51 : decode cX5_weigh 51 = .ok (.iload 4, 2) := by decide +kernel
theorem dX5_weigh_53 : decode cX5_weigh 53 = .ok (.if_icmp .gt 219, 3) := by decide +kernel
theorem dX5_weigh_56 : decode cX5_weigh 56 = .ok (.aload_n 0, 1) := by decide +kernel
theorem dX5_weigh_57 : decode cX5_weigh 57 = .ok (.getfield 29, 3) := by decide +kernel
theorem dX5_weigh_60 : decode cX5_weigh 60 = .ok (.bipush 12, 2) := by decide +kernel
theorem dX5_weigh_62 : decode cX5_weigh 62 = .ok (.laload, 1) := by decide +kernel
theorem dX5_weigh_63 : decode cX5_weigh 63 = .ok (.lstore 12, 2) := by decide +kernel
theorem dX5_weigh_65 : decode cX5_weigh 65 = .ok (.aload_n 0, 1) := by decide +kernel
theorem dX5_weigh_66 : decode cX5_weigh 66 = .ok (.getfield 29, 3) := by decide +kernel
theorem dX5_weigh_69 : decode cX5_weigh 69 = .ok (.iload 8, 2) := by decide +kernel
theorem dX5_weigh_71 : decode cX5_weigh 71 = .ok (.iconst 1, 1) := by decide +kernel
theorem dX5_weigh_72 : decode cX5_weigh 72 = .ok (.iadd, 1) := by decide +kernel
theorem dX5_weigh_73 : decode cX5_weigh 73 = .ok (.laload, 1) := by decide +kernel
theorem dX5_weigh_74 : decode cX5_weigh 74 = .ok (.aload 5, 2) := by decide +kernel
theorem dX5_weigh_76 : decode cX5_weigh 76 = .ok (.invokevirtual 101, 3) := by decide +kernel
theorem dX5_weigh_79 : decode cX5_weigh 79 = .ok (.lsub, 1) := by decide +kernel
theorem dX5_weigh_80 : decode cX5_weigh 80 = .ok (.lstore 14, 2) := by decide +kernel
theorem dX5_weigh_82 : decode cX5_weigh 82 = .ok (.iload_n 2, 1) := by decide +kernel
theorem dX5_weigh_83 : decode cX5_weigh 83 = .ok (.iload 4, 2) := by decide +kernel
theorem dX5_weigh_85 : decode cX5_weigh 85 = .ok (.iadd, 1) := by decide +kernel
theorem dX5_weigh_86 : decode cX5_weigh 86 = .ok (.iload 11, 2) := by decide +kernel
theorem dX5_weigh_88 : decode cX5_weigh 88 = .ok (.isub, 1) := by decide +kernel
theorem dX5_weigh_89 : decode cX5_weigh 89 = .ok (.istore 16, 2) := by decide +kernel
theorem dX5_weigh_91 : decode cX5_weigh 91 = .ok (.aload_n 0, 1) := by decide +kernel
theorem dX5_weigh_92 : decode cX5_weigh 92 = .ok (.aload_n 0, 1) := by decide +kernel
theorem dX5_weigh_93 : decode cX5_weigh 93 = .ok (.getfield 19, 3) := by decide +kernel
theorem dX5_weigh_96 : decode cX5_weigh 96 = .ok (.iload_n 1, 1) := by decide +kernel
theorem dX5_weigh_97 : decode cX5_weigh 97 = .ok (.aaload, 1) := by decide +kernel
theorem dX5_weigh_98 : decode cX5_weigh 98 = .ok (.iload 16, 2) := by decide +kernel
theorem dX5_weigh_100 : decode cX5_weigh 100 = .ok (.iaload, 1) := by decide +kernel
theorem dX5_weigh_101 : decode cX5_weigh 101 = .ok (.i2l, 1) := by decide +kernel
theorem dX5_weigh_102 : decode cX5_weigh 102 = .ok (.lload 6, 2) := by decide +kernel
theorem dX5_weigh_104 : decode cX5_weigh 104 = .ok (.ladd, 1) := by decide +kernel
theorem dX5_weigh_105 : decode cX5_weigh 105 = .ok (.lload 9, 2) := by decide +kernel
theorem dX5_weigh_107 : decode cX5_weigh 107 = .ok (.ladd, 1) := by decide +kernel
theorem dX5_weigh_108 : decode cX5_weigh 108 = .ok (.putfield 33, 3) := by decide +kernel
theorem dX5_weigh_111 : decode cX5_weigh 111 = .ok (.aload_n 0, 1) := by decide +kernel
theorem dX5_weigh_112 : decode cX5_weigh 112 = .ok (.aload_n 0, 1) := by decide +kernel
theorem dX5_weigh_113 : decode cX5_weigh 113 = .ok (.getfield 19, 3) := by decide +kernel
theorem dX5_weigh_116 : decode cX5_weigh 116 = .ok (.iload_n 1, 1) := by decide +kernel
theorem dX5_weigh_117 : decode cX5_weigh 117 = .ok (.aaload, 1) := by decide +kernel
theorem dX5_weigh_118 : decode cX5_weigh 118 = .ok (.iload 16, 2) := by decide +kernel
theorem dX5_weigh_120 : decode cX5_weigh 120 = .ok (.iaload, 1) := by decide +kernel
theorem dX5_weigh_121 : decode cX5_weigh 121 = .ok (.i2l, 1) := by decide +kernel
theorem dX5_weigh_122 : decode cX5_weigh 122 = .ok (.aload 5, 2) := by decide +kernel
theorem dX5_weigh_124 : decode cX5_weigh 124 = .ok (.invokevirtual 105, 3) := by decide +kernel
theorem dX5_weigh_127 : decode cX5_weigh 127 = .ok (.lsub, 1) := by decide +kernel
theorem dX5_weigh_128 : decode cX5_weigh 128 = .ok (.aload_n 0, 1) := by decide +kernel
theorem dX5_weigh_129 : decode cX5_weigh 129 = .ok (.getfield 11, 3) := by decide +kernel
theorem dX5_weigh_132 : decode cX5_weigh 132 = .ok (.iload_n 1, 1) := by decide +kernel
theorem dX5_weigh_133 : decode cX5_weigh 133 = .ok (.aaload, 1) := by decide +kernel
theorem dX5_weigh_134 : decode cX5_weigh 134 = .ok (.iload 16, 2) := by decide +kernel
theorem dX5_weigh_136 : decode cX5_weigh 136 = .ok (.iaload, 1) := by decide +kernel
theorem dX5_weigh_137 : decode cX5_weigh 137 = .ok (.lload 12, 2) := by decide +kernel
theorem dX5_weigh_139 : decode cX5_weigh 139 = .ok (.lload 14, 2) := by decide +kernel
theorem dX5_weigh_141 : decode cX5_weigh 141 = .ok (.invokestatic 108, 3) := by decide +kernel
theorem dX5_weigh_144 : decode cX5_weigh 144 = .ok (.ladd, 1) := by decide +kernel
theorem dX5_weigh_145 : decode cX5_weigh 145 = .ok (.putfield 37, 3) := by decide +kernel
theorem dX5_weigh_148 : decode cX5_weigh 148 = .ok (.aload_n 0, 1) := by decide +kernel
theorem dX5_weigh_149 : decode cX5_weigh 149 = .ok (.getfield 33, 3) := by decide +kernel
theorem dX5_weigh_152 : decode cX5_weigh 152 = .ok (.aload_n 0, 1) := by decide +kernel
theorem dX5_weigh_153 : decode cX5_weigh 153 = .ok (.getfield 37, 3) := by decide +kernel
theorem dX5_weigh_156 : decode cX5_weigh 156 = .ok (.invokestatic 112, 3) := by decide +kernel
theorem dX5_weigh_159 : decode cX5_weigh 159 = .ok (.lstore 9, 2) := by decide +kernel
theorem dX5_weigh_161 : decode cX5_weigh 161 = .ok (.bipush 11, 2) := by decide +kernel
theorem dX5_weigh_163 : decode cX5_weigh 163 = .ok (.istore 17, 2) := by decide +kernel
theorem dX5_weigh_165 : decode cX5_weigh 165 = .ok (.iload 17, 2) := by decide +kernel
theorem dX5_weigh_167 : decode cX5_weigh 167 = .ok (.iload 8, 2) := by decide +kernel
theorem dX5_weigh_169 : decode cX5_weigh 169 = .ok (.if_icmp .gt 97, 3) := by decide +kernel
theorem dX5_weigh_172 : decode cX5_weigh 172 = .ok (.iload 17, 2) := by decide +kernel
theorem dX5_weigh_174 : decode cX5_weigh 174 = .ok (.iconst 1, 1) := by decide +kernel
theorem dX5_weigh_175 : decode cX5_weigh 175 = .ok (.iadd, 1) := by decide +kernel
theorem dX5_weigh_176 : decode cX5_weigh 176 = .ok (.istore 18, 2) := by decide +kernel
theorem dX5_weigh_178 : decode cX5_weigh 178 = .ok (.iload 18, 2) := by decide +kernel
theorem dX5_weigh_180 : decode cX5_weigh 180 = .ok (.iload 17, 2) := by decide +kernel
theorem dX5_weigh_182 : decode cX5_weigh 182 = .ok (.iload 4, 2) := by decide +kernel
theorem dX5_weigh_184 : decode cX5_weigh 184 = .ok (.iadd, 1) := by decide +kernel
theorem dX5_weigh_185 : decode cX5_weigh 185 = .ok (.iload 11, 2) := by decide +kernel
theorem dX5_weigh_187 : decode cX5_weigh 187 = .ok (.isub, 1) := by decide +kernel
theorem dX5_weigh_188 : decode cX5_weigh 188 = .ok (.if_icmp .gt 72, 3) := by decide +kernel
theorem dX5_weigh_191 : decode cX5_weigh 191 = .ok (.lload 6, 2) := by decide +kernel
theorem dX5_weigh_193 : decode cX5_weigh 193 = .ok (.aload_n 0, 1) := by decide +kernel
theorem dX5_weigh_194 : decode cX5_weigh 194 = .ok (.getfield 29, 3) := by decide +kernel
theorem dX5_weigh_197 : decode cX5_weigh 197 = .ok (.iload 18, 2) := by decide +kernel
theorem dX5_weigh_199 : decode cX5_weigh 199 = .ok (.iconst 1, 1) := by decide +kernel
theorem dX5_weigh_200 : decode cX5_weigh 200 = .ok (.iadd, 1) := by decide +kernel
theorem dX5_weigh_201 : decode cX5_weigh 201 = .ok (.laload, 1) := by decide +kernel
theorem dX5_weigh_202 : decode cX5_weigh 202 = .ok (.ladd, 1) := by decide +kernel
theorem dX5_weigh_203 : decode cX5_weigh 203 = .ok (.lstore 19, 2) := by decide +kernel
theorem dX5_weigh_205 : decode cX5_weigh 205 = .ok (.aload_n 0, 1) := by decide +kernel
theorem dX5_weigh_206 : decode cX5_weigh 206 = .ok (.getfield 11, 3) := by decide +kernel
theorem dX5_weigh_209 : decode cX5_weigh 209 = .ok (.iload_n 1, 1) := by decide +kernel
theorem dX5_weigh_210 : decode cX5_weigh 210 = .ok (.aaload, 1) := by decide +kernel
theorem dX5_weigh_211 : decode cX5_weigh 211 = .ok (.iload 18, 2) := by decide +kernel
theorem dX5_weigh_213 : decode cX5_weigh 213 = .ok (.iaload, 1) := by decide +kernel
theorem dX5_weigh_214 : decode cX5_weigh 214 = .ok (.lload 12, 2) := by decide +kernel
theorem dX5_weigh_216 : decode cX5_weigh 216 = .ok (.lload 14, 2) := by decide +kernel
theorem dX5_weigh_218 : decode cX5_weigh 218 = .ok (.invokestatic 108, 3) := by decide +kernel
theorem dX5_weigh_221 : decode cX5_weigh 221 = .ok (.aload 5, 2) := by decide +kernel
theorem dX5_weigh_223 : decode cX5_weigh 223 = .ok (.invokevirtual 105, 3) := by decide +kernel
theorem dX5_weigh_226 : decode cX5_weigh 226 = .ok (.lsub, 1) := by decide +kernel
theorem dX5_weigh_227 : decode cX5_weigh 227 = .ok (.lstore 21, 2) := by decide +kernel
theorem dX5_weigh_229 : decode cX5_weigh 229 = .ok (.aload_n 0, 1) := by decide +kernel
theorem dX5_weigh_230 : decode cX5_weigh 230 = .ok (.getfield 29, 3) := by decide +kernel
theorem dX5_weigh_233 : decode cX5_weigh 233 = .ok (.iload 18, 2) := by decide +kernel
theorem dX5_weigh_235 : decode cX5_weigh 235 = .ok (.aload_n 0, 1) := by decide +kernel
theorem dX5_weigh_236 : decode cX5_weigh 236 = .ok (.getfield 19, 3) := by decide +kernel
theorem dX5_weigh_239 : decode cX5_weigh 239 = .ok (.iload_n 1, 1) := by decide +kernel
theorem dX5_weigh_240 : decode cX5_weigh 240 = .ok (.aaload, 1) := by decide +kernel
theorem dX5_weigh_241 : decode cX5_weigh 241 = .ok (.iload 18, 2) := by decide +kernel
theorem dX5_weigh_243 : decode cX5_weigh 243 = .ok (.iaload, 1) := by decide +kernel
theorem dX5_weigh_244 : decode cX5_weigh 244 = .ok (.i2l, 1) := by decide +kernel
theorem dX5_weigh_245 : decode cX5_weigh 245 = .ok (.lload 19, 2) := by decide +kernel
theorem dX5_weigh_247 : decode cX5_weigh 247 = .ok (.lload 21, 2) := by decide +kernel
theorem dX5_weigh_249 : decode cX5_weigh 249 = .ok (.invokestatic 112, 3) := by decide +kernel
theorem dX5_weigh_252 : decode cX5_weigh 252 = .ok (.ladd, 1) := by decide +kernel
theorem dX5_weigh_253 : decode cX5_weigh 253 = .ok (.lastore, 1) := by decide +kernel
theorem dX5_weigh_254 : decode cX5_weigh 254 = .ok (.iinc 18 1, 3) := by decide +kernel
theorem dX5_weigh_257 : decode cX5_weigh 257 = .ok (.goto (-79), 3) := by decide +kernel
theorem dX5_weigh_260 : decode cX5_weigh 260 = .ok (.iinc 17 11, 3) := by decide +kernel
theorem dX5_weigh_263 : decode cX5_weigh 263 = .ok (.goto (-98), 3) := by decide +kernel
theorem dX5_weigh_266 : decode cX5_weigh 266 = .ok (.iinc 11 1, 3) := by decide +kernel
theorem dX5_weigh_269 : decode cX5_weigh 269 = .ok (.goto (-220), 3) := by decide +kernel
theorem dX5_weigh_272 : decode cX5_weigh 272 = .ok (.return_, 1) := by decide +kernel
theorem dX5_sumAlone_0 : decode cX5_sumAlone 0 = .ok (.lconst 0, 1) := by decide +kernel
theorem dX5_sumAlone_1 : decode cX5_sumAlone 1 = .ok (.lstore_n 3, 1) := by decide +kernel
theorem dX5_sumAlone_2 : decode cX5_sumAlone 2 = .ok (.iconst 0, 1) := by decide +kernel
theorem dX5_sumAlone_3 : decode cX5_sumAlone 3 = .ok (.istore 5, 2) := by decide +kernel
theorem dX5_sumAlone_5 : decode cX5_sumAlone 5 = .ok (.iload 5, 2) := by decide +kernel
theorem dX5_sumAlone_7 : decode cX5_sumAlone 7 = .ok (.aload_n 0, 1) := by decide +kernel
theorem dX5_sumAlone_8 : decode cX5_sumAlone 8 = .ok (.getfield 40, 3) := by decide +kernel
theorem dX5_sumAlone_11 : decode cX5_sumAlone 11 = .ok (.getfield 44, 3) := by decide +kernel
theorem dX5_sumAlone_14 : decode cX5_sumAlone 14 = .ok (.if_icmp .ge 32, 3) := by decide +kernel
theorem dX5_sumAlone_17 : decode cX5_sumAlone 17 = .ok (.aload_n 0, 1) := by decide +kernel
theorem dX5_sumAlone_18 : decode cX5_sumAlone 18 = .ok (.iload 5, 2) := by decide +kernel
theorem dX5_sumAlone_20 : decode cX5_sumAlone 20 = .ok (.iconst 0, 1) := by decide +kernel
theorem dX5_sumAlone_21 : decode cX5_sumAlone 21 = .ok (.iload_n 1, 1) := by decide +kernel
theorem dX5_sumAlone_22 : decode cX5_sumAlone 22 = .ok (.iload_n 2, 1) := by decide +kernel
theorem dX5_sumAlone_23 : decode cX5_sumAlone 23 = .ok (.invokevirtual 116, 3) := by decide +kernel
theorem dX5_sumAlone_26 : decode cX5_sumAlone 26 = .ok (.lload_n 3, 1) := by decide +kernel
theorem dX5_sumAlone_27 : decode cX5_sumAlone 27 = .ok (.aload_n 0, 1) := by decide +kernel
theorem dX5_sumAlone_28 : decode cX5_sumAlone 28 = .ok (.getfield 33, 3) := by decide +kernel
theorem dX5_sumAlone_31 : decode cX5_sumAlone 31 = .ok (.aload_n 0, 1) := by decide +kernel
theorem dX5_sumAlone_32 : decode cX5_sumAlone 32 = .ok (.getfield 37, 3) := by decide +kernel
theorem dX5_sumAlone_35 : decode cX5_sumAlone 35 = .ok (.invokestatic 112, 3) := by decide +kernel
theorem dX5_sumAlone_38 : decode cX5_sumAlone 38 = .ok (.ladd, 1) := by decide +kernel
theorem dX5_sumAlone_39 : decode cX5_sumAlone 39 = .ok (.lstore_n 3, 1) := by decide +kernel
theorem dX5_sumAlone_40 : decode cX5_sumAlone 40 = .ok (.iinc 5 1, 3) := by decide +kernel
theorem dX5_sumAlone_43 : decode cX5_sumAlone 43 = .ok (.goto (-38), 3) := by decide +kernel
theorem dX5_sumAlone_46 : decode cX5_sumAlone 46 = .ok (.lload_n 3, 1) := by decide +kernel
theorem dX5_sumAlone_47 : decode cX5_sumAlone 47 = .ok (.lreturn, 1) := by decide +kernel
theorem dX5_leastWage_0 : decode cX5_leastWage 0 = .ok (.aload_n 0, 1) := by decide +kernel
theorem dX5_leastWage_1 : decode cX5_leastWage 1 = .ok (.getfield 22, 3) := by decide +kernel
theorem dX5_leastWage_4 : decode cX5_leastWage 4 = .ok (.iload_n 1, 1) := by decide +kernel
theorem dX5_leastWage_5 : decode cX5_leastWage 5 = .ok (.aaload, 1) := by decide +kernel
theorem dX5_leastWage_6 : decode cX5_leastWage 6 = .ok (.iload_n 2, 1) := by decide +kernel
theorem dX5_leastWage_7 : decode cX5_leastWage 7 = .ok (.iaload, 1) := by decide +kernel
theorem dX5_leastWage_8 : decode cX5_leastWage 8 = .ok (.iconst (-1), 1) := by decide +kernel
theorem dX5_leastWage_9 : decode cX5_leastWage 9 = .ok (.if_icmp .ne 78, 3) := by decide +kernel
theorem dX5_leastWage_12 : decode cX5_leastWage 12 = .ok (.iconst 0, 1) := by decide +kernel
theorem dX5_leastWage_13 : decode cX5_leastWage 13 = .ok (.istore 4, 2) := by decide +kernel
theorem dX5_leastWage_15 : decode cX5_leastWage 15 = .ok (.iconst 0, 1) := by decide +kernel
theorem dX5_leastWage_16 : decode cX5_leastWage 16 = .ok (.istore 5, 2) := by decide +kernel
theorem dX5_leastWage_18 : decode cX5_leastWage 18 = .ok (.iload 4, 2) := by decide +kernel
theorem dX5_leastWage_20 : decode cX5_leastWage 20 = .ok (.sipush 200, 3) := by decide +kernel
theorem dX5_leastWage_23 : decode cX5_leastWage 23 = .ok (.if_icmp .gt 54, 3) := by decide +kernel
theorem dX5_leastWage_26 : decode cX5_leastWage 26 = .ok (.iload 5, 2) := by decide +kernel
theorem dX5_leastWage_28 : decode cX5_leastWage 28 = .ok (.ifCond .ne 49, 3) := by decide +kernel
theorem dX5_leastWage_31 : decode cX5_leastWage 31 = .ok (.aload_n 0, 1) := by decide +kernel
theorem dX5_leastWage_32 : decode cX5_leastWage 32 = .ok (.iload_n 1, 1) := by decide +kernel
theorem dX5_leastWage_33 : decode cX5_leastWage 33 = .ok (.iload_n 2, 1) := by decide +kernel
theorem dX5_leastWage_34 : decode cX5_leastWage 34 = .ok (.iload 4, 2) := by decide +kernel
theorem dX5_leastWage_36 : decode cX5_leastWage 36 = .ok (.iload_n 3, 1) := by decide +kernel
theorem dX5_leastWage_37 : decode cX5_leastWage 37 = .ok (.invokevirtual 116, 3) := by decide +kernel
theorem dX5_leastWage_40 : decode cX5_leastWage 40 = .ok (.aload_n 0, 1) := by decide +kernel
theorem dX5_leastWage_41 : decode cX5_leastWage 41 = .ok (.getfield 33, 3) := by decide +kernel
theorem dX5_leastWage_44 : decode cX5_leastWage 44 = .ok (.aload_n 0, 1) := by decide +kernel
theorem dX5_leastWage_45 : decode cX5_leastWage 45 = .ok (.getfield 37, 3) := by decide +kernel
theorem dX5_leastWage_48 : decode cX5_leastWage 48 = .ok (.lcmp, 1) := by decide +kernel
theorem dX5_leastWage_49 : decode cX5_leastWage 49 = .ok (.ifCond .lt 7, 3) := by decide +kernel
theorem dX5_leastWage_52 : decode cX5_leastWage 52 = .ok (.iconst 1, 1) := by decide +kernel
theorem dX5_leastWage_53 : decode cX5_leastWage 53 = .ok (.goto 4, 3) := by decide +kernel
theorem dX5_leastWage_56 : decode cX5_leastWage 56 = .ok (.iconst 0, 1) := by decide +kernel
theorem dX5_leastWage_57 : decode cX5_leastWage 57 = .ok (.istore 5, 2) := by decide +kernel
theorem dX5_leastWage_59 : decode cX5_leastWage 59 = .ok (.iload 4, 2) := by decide +kernel
theorem dX5_leastWage_61 : decode cX5_leastWage 61 = .ok (.iload 5, 2) := by decide +kernel
theorem dX5_leastWage_63 : decode cX5_leastWage 63 = .ok (.ifCond .eq 7, 3) := by decide +kernel
theorem dX5_leastWage_66 : decode cX5_leastWage 66 = .ok (.iconst 0, 1) := by decide +kernel
theorem dX5_leastWage_67 : decode cX5_leastWage 67 = .ok (.goto 4, 3) := by decide +kernel
theorem dX5_leastWage_70 : decode cX5_leastWage 70 = .ok (.iconst 1, 1) := by decide +kernel
theorem dX5_leastWage_71 : decode cX5_leastWage 71 = .ok (.iadd, 1) := by decide +kernel
theorem dX5_leastWage_72 : decode cX5_leastWage 72 = .ok (.istore 4, 2) := by decide +kernel
theorem dX5_leastWage_74 : decode cX5_leastWage 74 = .ok (.goto (-56), 3) := by decide +kernel
theorem dX5_leastWage_77 : decode cX5_leastWage 77 = .ok (.aload_n 0, 1) := by decide +kernel
theorem dX5_leastWage_78 : decode cX5_leastWage 78 = .ok (.getfield 22, 3) := by decide +kernel
theorem dX5_leastWage_81 : decode cX5_leastWage 81 = .ok (.iload_n 1, 1) := by decide +kernel
theorem dX5_leastWage_82 : decode cX5_leastWage 82 = .ok (.aaload, 1) := by decide +kernel
theorem dX5_leastWage_83 : decode cX5_leastWage 83 = .ok (.iload_n 2, 1) := by decide +kernel
theorem dX5_leastWage_84 : decode cX5_leastWage 84 = .ok (.iload 4, 2) := by decide +kernel
theorem dX5_leastWage_86 : decode cX5_leastWage 86 = .ok (.iastore, 1) := by decide +kernel
theorem dX5_leastWage_87 : decode cX5_leastWage 87 = .ok (.aload_n 0, 1) := by decide +kernel
theorem dX5_leastWage_88 : decode cX5_leastWage 88 = .ok (.getfield 22, 3) := by decide +kernel
theorem dX5_leastWage_91 : decode cX5_leastWage 91 = .ok (.iload_n 1, 1) := by decide +kernel
theorem dX5_leastWage_92 : decode cX5_leastWage 92 = .ok (.aaload, 1) := by decide +kernel
theorem dX5_leastWage_93 : decode cX5_leastWage 93 = .ok (.iload_n 2, 1) := by decide +kernel
theorem dX5_leastWage_94 : decode cX5_leastWage 94 = .ok (.iaload, 1) := by decide +kernel
theorem dX5_leastWage_95 : decode cX5_leastWage 95 = .ok (.ireturn, 1) := by decide +kernel
theorem dX5_weighAll_0 : decode cX5_weighAll 0 = .ok (.iconst 0, 1) := by decide +kernel
theorem dX5_weighAll_1 : decode cX5_weighAll 1 = .ok (.istore_n 2, 1) := by decide +kernel
theorem dX5_weighAll_2 : decode cX5_weighAll 2 = .ok (.iload_n 2, 1) := by decide +kernel
theorem dX5_weighAll_3 : decode cX5_weighAll 3 = .ok (.aload_n 0, 1) := by decide +kernel
theorem dX5_weighAll_4 : decode cX5_weighAll 4 = .ok (.getfield 40, 3) := by decide +kernel
theorem dX5_weighAll_7 : decode cX5_weighAll 7 = .ok (.getfield 44, 3) := by decide +kernel
theorem dX5_weighAll_10 : decode cX5_weighAll 10 = .ok (.if_icmp .ge 22, 3) := by decide +kernel
theorem dX5_weighAll_13 : decode cX5_weighAll 13 = .ok (.aload_n 0, 1) := by decide +kernel
theorem dX5_weighAll_14 : decode cX5_weighAll 14 = .ok (.getfield 25, 3) := by decide +kernel
theorem dX5_weighAll_17 : decode cX5_weighAll 17 = .ok (.iload_n 2, 1) := by decide +kernel
theorem dX5_weighAll_18 : decode cX5_weighAll 18 = .ok (.aload_n 0, 1) := by decide +kernel
theorem dX5_weighAll_19 : decode cX5_weighAll 19 = .ok (.iload_n 2, 1) := by decide +kernel
theorem dX5_weighAll_20 : decode cX5_weighAll 20 = .ok (.iconst 0, 1) := by decide +kernel
theorem dX5_weighAll_21 : decode cX5_weighAll 21 = .ok (.iload_n 1, 1) := by decide +kernel
theorem dX5_weighAll_22 : decode cX5_weighAll 22 = .ok (.invokevirtual 119, 3) := by decide +kernel
theorem dX5_weighAll_25 : decode cX5_weighAll 25 = .ok (.iastore, 1) := by decide +kernel
theorem dX5_weighAll_26 : decode cX5_weighAll 26 = .ok (.iinc 2 1, 3) := by decide +kernel
theorem dX5_weighAll_29 : decode cX5_weighAll 29 = .ok (.goto (-27), 3) := by decide +kernel
theorem dX5_weighAll_32 : decode cX5_weighAll 32 = .ok (.return_, 1) := by decide +kernel
theorem dX5_worthOf_0 : decode cX5_worthOf 0 = .ok (.iconst 0, 1) := by decide +kernel
theorem dX5_worthOf_1 : decode cX5_worthOf 1 = .ok (.istore_n 2, 1) := by decide +kernel
theorem dX5_worthOf_2 : decode cX5_worthOf 2 = .ok (.iconst 0, 1) := by decide +kernel
theorem dX5_worthOf_3 : decode cX5_worthOf 3 = .ok (.istore_n 3, 1) := by decide +kernel
theorem dX5_worthOf_4 : decode cX5_worthOf 4 = .ok (.iload_n 3, 1) := by decide +kernel
theorem dX5_worthOf_5 : decode cX5_worthOf 5 = .ok (.aload_n 0, 1) := by decide +kernel
theorem dX5_worthOf_6 : decode cX5_worthOf 6 = .ok (.getfield 40, 3) := by decide +kernel
theorem dX5_worthOf_9 : decode cX5_worthOf 9 = .ok (.getfield 44, 3) := by decide +kernel
theorem dX5_worthOf_12 : decode cX5_worthOf 12 = .ok (.if_icmp .ge 24, 3) := by decide +kernel
theorem dX5_worthOf_15 : decode cX5_worthOf 15 = .ok (.iload_n 2, 1) := by decide +kernel
theorem dX5_worthOf_16 : decode cX5_worthOf 16 = .ok (.iload_n 1, 1) := by decide +kernel
theorem dX5_worthOf_17 : decode cX5_worthOf 17 = .ok (.iload_n 3, 1) := by decide +kernel
theorem dX5_worthOf_18 : decode cX5_worthOf 18 = .ok (.ishr, 1) := by decide +kernel
theorem dX5_worthOf_19 : decode cX5_worthOf 19 = .ok (.iconst 1, 1) := by decide +kernel
theorem dX5_worthOf_20 : decode cX5_worthOf 20 = .ok (.iand, 1) := by decide +kernel
theorem dX5_worthOf_21 : decode cX5_worthOf 21 = .ok (.aload_n 0, 1) := by decide +kernel
theorem dX5_worthOf_22 : decode cX5_worthOf 22 = .ok (.getfield 25, 3) := by decide +kernel
theorem dX5_worthOf_25 : decode cX5_worthOf 25 = .ok (.iload_n 3, 1) := by decide +kernel
theorem dX5_worthOf_26 : decode cX5_worthOf 26 = .ok (.iaload, 1) := by decide +kernel
theorem dX5_worthOf_27 : decode cX5_worthOf 27 = .ok (.imul, 1) := by decide +kernel
theorem dX5_worthOf_28 : decode cX5_worthOf 28 = .ok (.iadd, 1) := by decide +kernel
theorem dX5_worthOf_29 : decode cX5_worthOf 29 = .ok (.istore_n 2, 1) := by decide +kernel
theorem dX5_worthOf_30 : decode cX5_worthOf 30 = .ok (.iinc 3 1, 3) := by decide +kernel
theorem dX5_worthOf_33 : decode cX5_worthOf 33 = .ok (.goto (-29), 3) := by decide +kernel
theorem dX5_worthOf_36 : decode cX5_worthOf 36 = .ok (.iload_n 2, 1) := by decide +kernel
theorem dX5_worthOf_37 : decode cX5_worthOf 37 = .ok (.ireturn, 1) := by decide +kernel
theorem dX5_worthiest_0 : decode cX5_worthiest 0 = .ok (.iconst 0, 1) := by decide +kernel
theorem dX5_worthiest_1 : decode cX5_worthiest 1 = .ok (.istore_n 1, 1) := by decide +kernel
theorem dX5_worthiest_2 : decode cX5_worthiest 2 = .ok (.iconst 1, 1) := by decide +kernel
theorem dX5_worthiest_3 : decode cX5_worthiest 3 = .ok (.istore_n 2, 1) := by decide +kernel
theorem dX5_worthiest_4 : decode cX5_worthiest 4 = .ok (.iload_n 2, 1) := by decide +kernel
theorem dX5_worthiest_5 : decode cX5_worthiest 5 = .ok (.aload_n 0, 1) := by decide +kernel
theorem dX5_worthiest_6 : decode cX5_worthiest 6 = .ok (.getfield 40, 3) := by decide +kernel
theorem dX5_worthiest_9 : decode cX5_worthiest 9 = .ok (.getfield 44, 3) := by decide +kernel
theorem dX5_worthiest_12 : decode cX5_worthiest 12 = .ok (.if_icmp .ge 26, 3) := by decide +kernel
theorem dX5_worthiest_15 : decode cX5_worthiest 15 = .ok (.aload_n 0, 1) := by decide +kernel
theorem dX5_worthiest_16 : decode cX5_worthiest 16 = .ok (.getfield 25, 3) := by decide +kernel
theorem dX5_worthiest_19 : decode cX5_worthiest 19 = .ok (.iload_n 2, 1) := by decide +kernel
theorem dX5_worthiest_20 : decode cX5_worthiest 20 = .ok (.iaload, 1) := by decide +kernel
theorem dX5_worthiest_21 : decode cX5_worthiest 21 = .ok (.aload_n 0, 1) := by decide +kernel
theorem dX5_worthiest_22 : decode cX5_worthiest 22 = .ok (.getfield 25, 3) := by decide +kernel
theorem dX5_worthiest_25 : decode cX5_worthiest 25 = .ok (.iload_n 1, 1) := by decide +kernel
theorem dX5_worthiest_26 : decode cX5_worthiest 26 = .ok (.iaload, 1) := by decide +kernel
theorem dX5_worthiest_27 : decode cX5_worthiest 27 = .ok (.if_icmp .le 5, 3) := by decide +kernel
theorem dX5_worthiest_30 : decode cX5_worthiest 30 = .ok (.iload_n 2, 1) := by decide +kernel
theorem dX5_worthiest_31 : decode cX5_worthiest 31 = .ok (.istore_n 1, 1) := by decide +kernel
theorem dX5_worthiest_32 : decode cX5_worthiest 32 = .ok (.iinc 2 1, 3) := by decide +kernel
theorem dX5_worthiest_35 : decode cX5_worthiest 35 = .ok (.goto (-31), 3) := by decide +kernel
theorem dX5_worthiest_38 : decode cX5_worthiest 38 = .ok (.iload_n 1, 1) := by decide +kernel
theorem dX5_worthiest_39 : decode cX5_worthiest 39 = .ok (.ireturn, 1) := by decide +kernel
theorem dX5_worthiestWith_0 : decode cX5_worthiestWith 0 = .ok (.aload_n 0, 1) := by decide +kernel
theorem dX5_worthiestWith_1 : decode cX5_worthiestWith 1 = .ok (.iload_n 1, 1) := by decide +kernel
theorem dX5_worthiestWith_2 : decode cX5_worthiestWith 2 = .ok (.iload_n 2, 1) := by decide +kernel
theorem dX5_worthiestWith_3 : decode cX5_worthiestWith 3 = .ok (.iload_n 3, 1) := by decide +kernel
theorem dX5_worthiestWith_4 : decode cX5_worthiestWith 4 = .ok (.invokevirtual 50, 3) := by decide +kernel
theorem dX5_worthiestWith_7 : decode cX5_worthiestWith 7 = .ok (.aload_n 0, 1) := by decide +kernel
theorem dX5_worthiestWith_8 : decode cX5_worthiestWith 8 = .ok (.getfield 25, 3) := by decide +kernel
theorem dX5_worthiestWith_11 : decode cX5_worthiestWith 11 = .ok (.iload_n 1, 1) := by decide +kernel
theorem dX5_worthiestWith_12 : decode cX5_worthiestWith 12 = .ok (.aload_n 0, 1) := by decide +kernel
theorem dX5_worthiestWith_13 : decode cX5_worthiestWith 13 = .ok (.iload_n 1, 1) := by decide +kernel
theorem dX5_worthiestWith_14 : decode cX5_worthiestWith 14 = .ok (.iconst 0, 1) := by decide +kernel
theorem dX5_worthiestWith_15 : decode cX5_worthiestWith 15 = .ok (.iload_n 2, 1) := by decide +kernel
theorem dX5_worthiestWith_16 : decode cX5_worthiestWith 16 = .ok (.invokevirtual 119, 3) := by decide +kernel
theorem dX5_worthiestWith_19 : decode cX5_worthiestWith 19 = .ok (.iastore, 1) := by decide +kernel
theorem dX5_worthiestWith_20 : decode cX5_worthiestWith 20 = .ok (.aload_n 0, 1) := by decide +kernel
theorem dX5_worthiestWith_21 : decode cX5_worthiestWith 21 = .ok (.invokevirtual 123, 3) := by decide +kernel
theorem dX5_worthiestWith_24 : decode cX5_worthiestWith 24 = .ok (.ireturn, 1) := by decide +kernel
theorem dX5_worthiestSet_0 : decode cX5_worthiestSet 0 = .ok (.iconst 0, 1) := by decide +kernel
theorem dX5_worthiestSet_1 : decode cX5_worthiestSet 1 = .ok (.istore_n 1, 1) := by decide +kernel
theorem dX5_worthiestSet_2 : decode cX5_worthiestSet 2 = .ok (.iconst 0, 1) := by decide +kernel
theorem dX5_worthiestSet_3 : decode cX5_worthiestSet 3 = .ok (.istore_n 2, 1) := by decide +kernel
theorem dX5_worthiestSet_4 : decode cX5_worthiestSet 4 = .ok (.iload_n 2, 1) := by decide +kernel
theorem dX5_worthiestSet_5 : decode cX5_worthiestSet 5 = .ok (.aload_n 0, 1) := by decide +kernel
theorem dX5_worthiestSet_6 : decode cX5_worthiestSet 6 = .ok (.getfield 40, 3) := by decide +kernel
theorem dX5_worthiestSet_9 : decode cX5_worthiestSet 9 = .ok (.invokevirtual 127, 3) := by decide +kernel
theorem dX5_worthiestSet_12 : decode cX5_worthiestSet 12 = .ok (.if_icmp .ge 78, 3) := by decide +kernel
theorem dX5_worthiestSet_15 : decode cX5_worthiestSet 15 = .ok (.iconst (-1), 1) := by decide +kernel
theorem dX5_worthiestSet_16 : decode cX5_worthiestSet 16 = .ok (.istore_n 3, 1) := by decide +kernel
theorem dX5_worthiestSet_17 : decode cX5_worthiestSet 17 = .ok (.iconst 0, 1) := by decide +kernel
theorem dX5_worthiestSet_18 : decode cX5_worthiestSet 18 = .ok (.istore 4, 2) := by decide +kernel
theorem dX5_worthiestSet_20 : decode cX5_worthiestSet 20 = .ok (.iload 4, 2) := by decide +kernel
theorem dX5_worthiestSet_22 : decode cX5_worthiestSet 22 = .ok (.aload_n 0, 1) := by decide +kernel
theorem dX5_worthiestSet_23 : decode cX5_worthiestSet 23 = .ok (.getfield 40, 3) := by decide +kernel
theorem dX5_worthiestSet_26 : decode cX5_worthiestSet 26 = .ok (.getfield 44, 3) := by decide +kernel
theorem dX5_worthiestSet_29 : decode cX5_worthiestSet 29 = .ok (.if_icmp .ge 41, 3) := by decide +kernel
theorem dX5_worthiestSet_32 : decode cX5_worthiestSet 32 = .ok (.iload_n 1, 1) := by decide +kernel
theorem dX5_worthiestSet_33 : decode cX5_worthiestSet 33 = .ok (.iload 4, 2) := by decide +kernel
theorem dX5_worthiestSet_35 : decode cX5_worthiestSet 35 = .ok (.ishr, 1) := by decide +kernel
theorem dX5_worthiestSet_36 : decode cX5_worthiestSet 36 = .ok (.iconst 1, 1) := by decide +kernel
theorem dX5_worthiestSet_37 : decode cX5_worthiestSet 37 = .ok (.iand, 1) := by decide +kernel
theorem dX5_worthiestSet_38 : decode cX5_worthiestSet 38 = .ok (.ifCond .ne 26, 3) := by decide +kernel
theorem dX5_worthiestSet_41 : decode cX5_worthiestSet 41 = .ok (.iload_n 3, 1) := by decide +kernel
theorem dX5_worthiestSet_42 : decode cX5_worthiestSet 42 = .ok (.ifCond .lt 19, 3) := by decide +kernel
theorem dX5_worthiestSet_45 : decode cX5_worthiestSet 45 = .ok (.aload_n 0, 1) := by decide +kernel
theorem dX5_worthiestSet_46 : decode cX5_worthiestSet 46 = .ok (.getfield 25, 3) := by decide +kernel
theorem dX5_worthiestSet_49 : decode cX5_worthiestSet 49 = .ok (.iload 4, 2) := by decide +kernel
theorem dX5_worthiestSet_51 : decode cX5_worthiestSet 51 = .ok (.iaload, 1) := by decide +kernel
theorem dX5_worthiestSet_52 : decode cX5_worthiestSet 52 = .ok (.aload_n 0, 1) := by decide +kernel
theorem dX5_worthiestSet_53 : decode cX5_worthiestSet 53 = .ok (.getfield 25, 3) := by decide +kernel
theorem dX5_worthiestSet_56 : decode cX5_worthiestSet 56 = .ok (.iload_n 3, 1) := by decide +kernel
theorem dX5_worthiestSet_57 : decode cX5_worthiestSet 57 = .ok (.iaload, 1) := by decide +kernel
theorem dX5_worthiestSet_58 : decode cX5_worthiestSet 58 = .ok (.if_icmp .le 6, 3) := by decide +kernel
theorem dX5_worthiestSet_61 : decode cX5_worthiestSet 61 = .ok (.iload 4, 2) := by decide +kernel
theorem dX5_worthiestSet_63 : decode cX5_worthiestSet 63 = .ok (.istore_n 3, 1) := by decide +kernel
theorem dX5_worthiestSet_64 : decode cX5_worthiestSet 64 = .ok (.iinc 4 1, 3) := by decide +kernel
theorem dX5_worthiestSet_67 : decode cX5_worthiestSet 67 = .ok (.goto (-47), 3) := by decide +kernel
theorem dX5_worthiestSet_70 : decode cX5_worthiestSet 70 = .ok (.iload_n 1, 1) := by decide +kernel
theorem dX5_worthiestSet_71 : decode cX5_worthiestSet 71 = .ok (.iload_n 3, 1) := by decide +kernel
theorem dX5_worthiestSet_72 : decode cX5_worthiestSet 72 = .ok (.ifCond .ge 7, 3) := by decide +kernel
theorem dX5_worthiestSet_75 : decode cX5_worthiestSet 75 = .ok (.iconst 0, 1) := by decide +kernel
theorem dX5_worthiestSet_76 : decode cX5_worthiestSet 76 = .ok (.goto 6, 3) := by decide +kernel
theorem dX5_worthiestSet_79 : decode cX5_worthiestSet 79 = .ok (.iconst 1, 1) := by decide +kernel
theorem dX5_worthiestSet_80 : decode cX5_worthiestSet 80 = .ok (.iload_n 3, 1) := by decide +kernel
theorem dX5_worthiestSet_81 : decode cX5_worthiestSet 81 = .ok (.ishl, 1) := by decide +kernel
theorem dX5_worthiestSet_82 : decode cX5_worthiestSet 82 = .ok (.ior, 1) := by decide +kernel
theorem dX5_worthiestSet_83 : decode cX5_worthiestSet 83 = .ok (.istore_n 1, 1) := by decide +kernel
theorem dX5_worthiestSet_84 : decode cX5_worthiestSet 84 = .ok (.iinc 2 1, 3) := by decide +kernel
theorem dX5_worthiestSet_87 : decode cX5_worthiestSet 87 = .ok (.goto (-83), 3) := by decide +kernel
theorem dX5_worthiestSet_90 : decode cX5_worthiestSet 90 = .ok (.iload_n 1, 1) := by decide +kernel
theorem dX5_worthiestSet_91 : decode cX5_worthiestSet 91 = .ok (.ireturn, 1) := by decide +kernel
theorem dX6_init_0 : decode cX6_init 0 = .ok (.aload_n 0, 1) := by decide +kernel
theorem dX6_init_1 : decode cX6_init 1 = .ok (.invokespecial 3, 3) := by decide +kernel
theorem dX6_init_4 : decode cX6_init 4 = .ok (.aload_n 0, 1) := by decide +kernel
theorem dX6_init_5 : decode cX6_init 5 = .ok (.iload_n 1, 1) := by decide +kernel
theorem dX6_init_6 : decode cX6_init 6 = .ok (.putfield 9, 3) := by decide +kernel
theorem dX6_init_9 : decode cX6_init 9 = .ok (.aload_n 0, 1) := by decide +kernel
theorem dX6_init_10 : decode cX6_init 10 = .ok (.iload_n 2, 1) := by decide +kernel
theorem dX6_init_11 : decode cX6_init 11 = .ok (.putfield 15, 3) := by decide +kernel
theorem dX6_init_14 : decode cX6_init 14 = .ok (.return_, 1) := by decide +kernel
theorem dX6_daysAhead_0 : decode cX6_daysAhead 0 = .ok (.iconst 0, 1) := by decide +kernel
theorem dX6_daysAhead_1 : decode cX6_daysAhead 1 = .ok (.ireturn, 1) := by decide +kernel
theorem dX6_chosen_0 : decode cX6_chosen 0 = .ok (.iconst 0, 1) := by decide +kernel
theorem dX6_chosen_1 : decode cX6_chosen 1 = .ok (.istore 4, 2) := by decide +kernel
theorem dX6_chosen_3 : decode cX6_chosen 3 = .ok (.iload 4, 2) := by decide +kernel
theorem dX6_chosen_5 : decode cX6_chosen 5 = .ok (.aload_n 1, 1) := by decide +kernel
theorem dX6_chosen_6 : decode cX6_chosen 6 = .ok (.getfield 18, 3) := by decide +kernel
theorem dX6_chosen_9 : decode cX6_chosen 9 = .ok (.getfield 24, 3) := by decide +kernel
theorem dX6_chosen_12 : decode cX6_chosen 12 = .ok (.if_icmp .ge 27, 3) := by decide +kernel
theorem dX6_chosen_15 : decode cX6_chosen 15 = .ok (.aload_n 1, 1) := by decide +kernel
theorem dX6_chosen_16 : decode cX6_chosen 16 = .ok (.getfield 29, 3) := by decide +kernel
theorem dX6_chosen_19 : decode cX6_chosen 19 = .ok (.iload 4, 2) := by decide +kernel
theorem dX6_chosen_21 : decode cX6_chosen 21 = .ok (.aload_n 0, 1) := by decide +kernel
theorem dX6_chosen_22 : decode cX6_chosen 22 = .ok (.aload_n 1, 1) := by decide +kernel
theorem dX6_chosen_23 : decode cX6_chosen 23 = .ok (.iload 4, 2) := by decide +kernel
theorem dX6_chosen_25 : decode cX6_chosen 25 = .ok (.aload_n 2, 1) := by decide +kernel
theorem dX6_chosen_26 : decode cX6_chosen 26 = .ok (.iload 4, 2) := by decide +kernel
theorem dX6_chosen_28 : decode cX6_chosen 28 = .ok (.iaload, 1) := by decide +kernel
theorem dX6_chosen_29 : decode cX6_chosen 29 = .ok (.invokevirtual 33, 3) := by decide +kernel
theorem dX6_chosen_32 : decode cX6_chosen 32 = .ok (.iastore, 1) := by decide +kernel
theorem dX6_chosen_33 : decode cX6_chosen 33 = .ok (.iinc 4 1, 3) := by decide +kernel
theorem dX6_chosen_36 : decode cX6_chosen 36 = .ok (.goto (-33), 3) := by decide +kernel
theorem dX6_chosen_39 : decode cX6_chosen 39 = .ok (.aload_n 1, 1) := by decide +kernel
theorem dX6_chosen_40 : decode cX6_chosen 40 = .ok (.invokevirtual 37, 3) := by decide +kernel
theorem dX6_chosen_43 : decode cX6_chosen 43 = .ok (.ireturn, 1) := by decide +kernel
theorem dX6_worthOf_0 : decode cX6_worthOf 0 = .ok (.iconst 0, 1) := by decide +kernel
theorem dX6_worthOf_1 : decode cX6_worthOf 1 = .ok (.ireturn, 1) := by decide +kernel
theorem dX6_began_0 : decode cX6_began 0 = .ok (.aload_n 0, 1) := by decide +kernel
theorem dX6_began_1 : decode cX6_began 1 = .ok (.iconst 0, 1) := by decide +kernel
theorem dX6_began_2 : decode cX6_began 2 = .ok (.dup2, 1) := by decide +kernel
theorem dX6_began_3 : decode cX6_began 3 = .ok (.iaload, 1) := by decide +kernel
theorem dX6_began_4 : decode cX6_began 4 = .ok (.iconst 1, 1) := by decide +kernel
theorem dX6_began_5 : decode cX6_began 5 = .ok (.iadd, 1) := by decide +kernel
theorem dX6_began_6 : decode cX6_began 6 = .ok (.iastore, 1) := by decide +kernel
theorem dX6_began_7 : decode cX6_began 7 = .ok (.aload_n 0, 1) := by decide +kernel
theorem dX6_began_8 : decode cX6_began 8 = .ok (.iconst 0, 1) := by decide +kernel
theorem dX6_began_9 : decode cX6_began 9 = .ok (.iaload, 1) := by decide +kernel
theorem dX6_began_10 : decode cX6_began 10 = .ok (.bipush 20, 2) := by decide +kernel
theorem dX6_began_12 : decode cX6_began 12 = .ok (.if_icmp .gt 9, 3) := by decide +kernel
theorem dX6_began_15 : decode cX6_began 15 = .ok (.aload_n 0, 1) := by decide +kernel
theorem dX6_began_16 : decode cX6_began 16 = .ok (.aload_n 0, 1) := by decide +kernel
theorem dX6_began_17 : decode cX6_began 17 = .ok (.iconst 0, 1) := by decide +kernel
theorem dX6_began_18 : decode cX6_began 18 = .ok (.iaload, 1) := by decide +kernel
theorem dX6_began_19 : decode cX6_began 19 = .ok (.iload_n 1, 1) := by decide +kernel
theorem dX6_began_20 : decode cX6_began 20 = .ok (.iastore, 1) := by decide +kernel
theorem dX6_began_21 : decode cX6_began 21 = .ok (.return_, 1) := by decide +kernel
theorem dX6_means_0 : decode cX6_means 0 = .ok (.aload_n 2, 1) := by decide +kernel
theorem dX6_means_1 : decode cX6_means 1 = .ok (.iconst 1, 1) := by decide +kernel
theorem dX6_means_2 : decode cX6_means 2 = .ok (.invokestatic 41, 3) := by decide +kernel
theorem dX6_means_5 : decode cX6_means 5 = .ok (.iload_n 1, 1) := by decide +kernel
theorem dX6_means_6 : decode cX6_means 6 = .ok (.aload_n 0, 1) := by decide +kernel
theorem dX6_means_7 : decode cX6_means 7 = .ok (.getfield 9, 3) := by decide +kernel
theorem dX6_means_10 : decode cX6_means 10 = .ok (.iadd, 1) := by decide +kernel
theorem dX6_means_11 : decode cX6_means 11 = .ok (.ireturn, 1) := by decide +kernel
theorem dX6_rows_0 : decode cX6_rows 0 = .ok (.aload_n 2, 1) := by decide +kernel
theorem dX6_rows_1 : decode cX6_rows 1 = .ok (.iconst 2, 1) := by decide +kernel
theorem dX6_rows_2 : decode cX6_rows 2 = .ok (.invokestatic 41, 3) := by decide +kernel
theorem dX6_rows_5 : decode cX6_rows 5 = .ok (.aload_n 0, 1) := by decide +kernel
theorem dX6_rows_6 : decode cX6_rows 6 = .ok (.iload_n 1, 1) := by decide +kernel
theorem dX6_rows_7 : decode cX6_rows 7 = .ok (.aload_n 2, 1) := by decide +kernel
theorem dX6_rows_8 : decode cX6_rows 8 = .ok (.invokevirtual 45, 3) := by decide +kernel
theorem dX6_rows_11 : decode cX6_rows 11 = .ok (.aload_n 0, 1) := by decide +kernel
theorem dX6_rows_12 : decode cX6_rows 12 = .ok (.getfield 15, 3) := by decide +kernel
theorem dX6_rows_15 : decode cX6_rows 15 = .ok (.isub, 1) := by decide +kernel
theorem dX6_rows_16 : decode cX6_rows 16 = .ok (.ireturn, 1) := by decide +kernel
theorem dX6_ends_0 : decode cX6_ends 0 = .ok (.aload_n 2, 1) := by decide +kernel
theorem dX6_ends_1 : decode cX6_ends 1 = .ok (.iconst 3, 1) := by decide +kernel
theorem dX6_ends_2 : decode cX6_ends 2 = .ok (.invokestatic 41, 3) := by decide +kernel
theorem dX6_ends_5 : decode cX6_ends 5 = .ok (.aload_n 0, 1) := by decide +kernel
theorem dX6_ends_6 : decode cX6_ends 6 = .ok (.iload_n 1, 1) := by decide +kernel
theorem dX6_ends_7 : decode cX6_ends 7 = .ok (.aload_n 2, 1) := by decide +kernel
theorem dX6_ends_8 : decode cX6_ends 8 = .ok (.invokevirtual 49, 3) := by decide +kernel
theorem dX6_ends_11 : decode cX6_ends 11 = .ok (.iconst 2, 1) := by decide +kernel
theorem dX6_ends_12 : decode cX6_ends 12 = .ok (.imul, 1) := by decide +kernel
theorem dX6_ends_13 : decode cX6_ends 13 = .ok (.ireturn, 1) := by decide +kernel
theorem dX7_init_0 : decode cX7_init 0 = .ok (.aload_n 0, 1) := by decide +kernel
theorem dX7_init_1 : decode cX7_init 1 = .ok (.invokespecial 3, 3) := by decide +kernel
theorem dX7_init_4 : decode cX7_init 4 = .ok (.aload_n 0, 1) := by decide +kernel
theorem dX7_init_5 : decode cX7_init 5 = .ok (.bipush 6, 2) := by decide +kernel
theorem dX7_init_7 : decode cX7_init 7 = .ok (.newarray .int, 2) := by decide +kernel
theorem dX7_init_9 : decode cX7_init 9 = .ok (.putfield 9, 3) := by decide +kernel
theorem dX7_init_12 : decode cX7_init 12 = .ok (.aload_n 0, 1) := by decide +kernel
theorem dX7_init_13 : decode cX7_init 13 = .ok (.iconst 0, 1) := by decide +kernel
theorem dX7_init_14 : decode cX7_init 14 = .ok (.putfield 15, 3) := by decide +kernel
theorem dX7_init_17 : decode cX7_init 17 = .ok (.aload_n 0, 1) := by decide +kernel
theorem dX7_init_18 : decode cX7_init 18 = .ok (.iconst 0, 1) := by decide +kernel
theorem dX7_init_19 : decode cX7_init 19 = .ok (.putfield 19, 3) := by decide +kernel
theorem dX7_init_22 : decode cX7_init 22 = .ok (.aload_n 0, 1) := by decide +kernel
theorem dX7_init_23 : decode cX7_init 23 = .ok (.bipush 120, 2) := by decide +kernel
theorem dX7_init_25 : decode cX7_init 25 = .ok (.newarray .int, 2) := by decide +kernel
theorem dX7_init_27 : decode cX7_init 27 = .ok (.putfield 22, 3) := by decide +kernel
theorem dX7_init_30 : decode cX7_init 30 = .ok (.aload_n 0, 1) := by decide +kernel
theorem dX7_init_31 : decode cX7_init 31 = .ok (.iconst 0, 1) := by decide +kernel
theorem dX7_init_32 : decode cX7_init 32 = .ok (.putfield 25, 3) := by decide +kernel
theorem dX7_init_35 : decode cX7_init 35 = .ok (.aload_n 0, 1) := by decide +kernel
theorem dX7_init_36 : decode cX7_init 36 = .ok (.bipush 10, 2) := by decide +kernel
theorem dX7_init_38 : decode cX7_init 38 = .ok (.newarray .int, 2) := by decide +kernel
theorem dX7_init_40 : decode cX7_init 40 = .ok (.putfield 28, 3) := by decide +kernel
theorem dX7_init_43 : decode cX7_init 43 = .ok (.aload_n 0, 1) := by decide +kernel
theorem dX7_init_44 : decode cX7_init 44 = .ok (.bipush 10, 2) := by decide +kernel
theorem dX7_init_46 : decode cX7_init 46 = .ok (.newarray .int, 2) := by decide +kernel
theorem dX7_init_48 : decode cX7_init 48 = .ok (.putfield 31, 3) := by decide +kernel
theorem dX7_init_51 : decode cX7_init 51 = .ok (.aload_n 0, 1) := by decide +kernel
theorem dX7_init_52 : decode cX7_init 52 = .ok (.bipush 10, 2) := by decide +kernel
theorem dX7_init_54 : decode cX7_init 54 = .ok (.newarray .int, 2) := by decide +kernel
theorem dX7_init_56 : decode cX7_init 56 = .ok (.putfield 34, 3) := by decide +kernel
theorem dX7_init_59 : decode cX7_init 59 = .ok (.aload_n 0, 1) := by decide +kernel
theorem dX7_init_60 : decode cX7_init 60 = .ok (.iconst 0, 1) := by decide +kernel
theorem dX7_init_61 : decode cX7_init 61 = .ok (.putfield 37, 3) := by decide +kernel
theorem dX7_init_64 : decode cX7_init 64 = .ok (.aload_n 0, 1) := by decide +kernel
theorem dX7_init_65 : decode cX7_init 65 = .ok (.aload_n 1, 1) := by decide +kernel
theorem dX7_init_66 : decode cX7_init 66 = .ok (.iload_n 2, 1) := by decide +kernel
theorem dX7_init_67 : decode cX7_init 67 = .ok (.invokestatic 40, 3) := by decide +kernel
theorem dX7_init_70 : decode cX7_init 70 = .ok (.putfield 46, 3) := by decide +kernel
theorem dX7_init_73 : decode cX7_init 73 = .ok (.return_, 1) := by decide +kernel
theorem dX7_readText_0 : decode cX7_readText 0 = .ok (.iconst 1, 1) := by decide +kernel
theorem dX7_readText_1 : decode cX7_readText 1 = .ok (.istore_n 1, 1) := by decide +kernel
theorem dX7_readText_2 : decode cX7_readText 2 = .ok (.iload_n 1, 1) := by decide +kernel
theorem dX7_readText_3 : decode cX7_readText 3 = .ok (.bipush 10, 2) := by decide +kernel
theorem dX7_readText_5 : decode cX7_readText 5 = .ok (.if_icmp .gt 55, 3) := by decide +kernel
theorem dX7_readText_8 : decode cX7_readText 8 = .ok (.aload_n 0, 1) := by decide +kernel
theorem dX7_readText_9 : decode cX7_readText 9 = .ok (.invokevirtual 50, 3) := by decide +kernel
theorem dX7_readText_12 : decode cX7_readText 12 = .ok (.ifCond .ne 8, 3) := by decide +kernel
theorem dX7_readText_15 : decode cX7_readText 15 = .ok (.aload_n 0, 1) := by decide +kernel
theorem dX7_readText_16 : decode cX7_readText 16 = .ok (.getfield 15, 3) := by decide +kernel
theorem dX7_readText_19 : decode cX7_readText 19 = .ok (.ireturn, 1) := by decide +kernel
theorem dX7_readText_20 : decode cX7_readText 20 = .ok (.aload_n 0, 1) := by decide +kernel
theorem dX7_readText_21 : decode cX7_readText 21 = .ok (.getfield 15, 3) := by decide +kernel
theorem dX7_readText_24 : decode cX7_readText 24 = .ok (.aload_n 0, 1) := by decide +kernel
theorem dX7_readText_25 : decode cX7_readText 25 = .ok (.getfield 46, 3) := by decide +kernel
theorem dX7_readText_28 : decode cX7_readText 28 = .ok (.arraylength, 1) := by decide +kernel
theorem dX7_readText_29 : decode cX7_readText 29 = .ok (.if_icmp .ne 5, 3) := by decide +kernel
theorem dX7_readText_32 : decode cX7_readText 32 = .ok (.iconst (-1), 1) := by decide +kernel
theorem dX7_readText_33 : decode cX7_readText 33 = .ok (.ireturn, 1) := by decide +kernel
theorem dX7_readText_34 : decode cX7_readText 34 = .ok (.iload_n 1, 1) := by decide +kernel
theorem dX7_readText_35 : decode cX7_readText 35 = .ok (.bipush 10, 2) := by decide +kernel
theorem dX7_readText_37 : decode cX7_readText 37 = .ok (.if_icmp .eq 12, 3) := by decide +kernel
theorem dX7_readText_40 : decode cX7_readText 40 = .ok (.aload_n 0, 1) := by decide +kernel
theorem dX7_readText_41 : decode cX7_readText 41 = .ok (.bipush 59, 2) := by decide +kernel
theorem dX7_readText_43 : decode cX7_readText 43 = .ok (.invokevirtual 54, 3) := by decide +kernel
theorem dX7_readText_46 : decode cX7_readText 46 = .ok (.ifCond .ne 8, 3) := by decide +kernel
theorem dX7_readText_49 : decode cX7_readText 49 = .ok (.aload_n 0, 1) := by decide +kernel
theorem dX7_readText_50 : decode cX7_readText 50 = .ok (.getfield 15, 3) := by decide +kernel
theorem dX7_readText_53 : decode cX7_readText 53 = .ok (.ireturn, 1) := by decide +kernel
theorem dX7_readText_54 : decode cX7_readText 54 = .ok (.iinc 1 1, 3) := by decide +kernel
theorem dX7_readText_57 : decode cX7_readText 57 = .ok (.goto (-55), 3) := by decide +kernel
theorem dX7_readText_60 : decode cX7_readText 60 = .ok (.aload_n 0, 1) := by decide +kernel
theorem dX7_readText_61 : decode cX7_readText 61 = .ok (.getfield 15, 3) := by decide +kernel
theorem dX7_readText_64 : decode cX7_readText 64 = .ok (.ireturn, 1) := by decide +kernel
theorem dX7_readClause_0 : decode cX7_readClause 0 = .ok (.aload_n 0, 1) := by decide +kernel
theorem dX7_readClause_1 : decode cX7_readClause 1 = .ok (.invokevirtual 58, 3) := by decide +kernel
theorem dX7_readClause_4 : decode cX7_readClause 4 = .ok (.istore_n 1, 1) := by decide +kernel
theorem dX7_readClause_5 : decode cX7_readClause 5 = .ok (.iload_n 1, 1) := by decide +kernel
theorem dX7_readClause_6 : decode cX7_readClause 6 = .ok (.ifCond .lt 19, 3) := by decide +kernel
theorem dX7_readClause_9 : decode cX7_readClause 9 = .ok (.aload_n 0, 1) := by decide +kernel
theorem dX7_readClause_10 : decode cX7_readClause 10 = .ok (.bipush 32, 2) := by decide +kernel
theorem dX7_readClause_12 : decode cX7_readClause 12 = .ok (.invokevirtual 54, 3) := by decide +kernel
theorem dX7_readClause_15 : decode cX7_readClause 15 = .ok (.ifCond .eq 10, 3) := by decide +kernel
theorem dX7_readClause_18 : decode cX7_readClause 18 = .ok (.aload_n 0, 1) := by decide +kernel
theorem dX7_readClause_19 : decode cX7_readClause 19 = .ok (.invokevirtual 62, 3) := by decide +kernel
theorem dX7_readClause_22 : decode cX7_readClause 22 = .ok (.ifCond .ne 5, 3) := by decide +kernel
theorem dX7_readClause_25 : decode cX7_readClause 25 = .ok (.iconst 0, 1) := by decide +kernel
theorem dX7_readClause_26 : decode cX7_readClause 26 = .ok (.ireturn, 1) := by decide +kernel
theorem dX7_readClause_27 : decode cX7_readClause 27 = .ok (.iload_n 1, 1) := by decide +kernel
theorem dX7_readClause_28 : decode cX7_readClause 28 = .ok (.ifCond .eq 20, 3) := by decide +kernel
theorem dX7_readClause_31 : decode cX7_readClause 31 = .ok (.iload_n 1, 1) := by decide +kernel
theorem dX7_readClause_32 : decode cX7_readClause 32 = .ok (.iconst 1, 1) := by decide +kernel
theorem dX7_readClause_33 : decode cX7_readClause 33 = .ok (.if_icmp .eq 15, 3) := by decide +kernel
theorem dX7_readClause_36 : decode cX7_readClause 36 = .ok (.aload_n 0, 1) := by decide +kernel
theorem dX7_readClause_37 : decode cX7_readClause 37 = .ok (.getfield 9, 3) := by decide +kernel
theorem dX7_readClause_40 : decode cX7_readClause 40 = .ok (.iload_n 1, 1) := by decide +kernel
theorem dX7_readClause_41 : decode cX7_readClause 41 = .ok (.aload_n 0, 1) := by decide +kernel
theorem dX7_readClause_42 : decode cX7_readClause 42 = .ok (.getfield 19, 3) := by decide +kernel
theorem dX7_readClause_45 : decode cX7_readClause 45 = .ok (.iastore, 1) := by decide +kernel
theorem dX7_readClause_46 : decode cX7_readClause 46 = .ok (.iconst 1, 1) := by decide +kernel
theorem dX7_readClause_47 : decode cX7_readClause 47 = .ok (.ireturn, 1) := by decide +kernel
theorem dX7_readClause_48 : decode cX7_readClause 48 = .ok (.aload_n 0, 1) := by decide +kernel
theorem dX7_readClause_49 : decode cX7_readClause 49 = .ok (.getfield 19, 3) := by decide +kernel
theorem dX7_readClause_52 : decode cX7_readClause 52 = .ok (.istore_n 2, 1) := by decide +kernel
theorem dX7_readClause_53 : decode cX7_readClause 53 = .ok (.aload_n 0, 1) := by decide +kernel
theorem dX7_readClause_54 : decode cX7_readClause 54 = .ok (.bipush 32, 2) := by decide +kernel
theorem dX7_readClause_56 : decode cX7_readClause 56 = .ok (.invokevirtual 54, 3) := by decide +kernel
theorem dX7_readClause_59 : decode cX7_readClause 59 = .ok (.ifCond .eq 24, 3) := by decide +kernel
theorem dX7_readClause_62 : decode cX7_readClause 62 = .ok (.aload_n 0, 1) := by decide +kernel
theorem dX7_readClause_63 : decode cX7_readClause 63 = .ok (.iconst 0, 1) := by decide +kernel
theorem dX7_readClause_64 : decode cX7_readClause 64 = .ok (.invokevirtual 65, 3) := by decide +kernel
theorem dX7_readClause_67 : decode cX7_readClause 67 = .ok (.ifCond .eq 16, 3) := by decide +kernel
theorem dX7_readClause_70 : decode cX7_readClause 70 = .ok (.aload_n 0, 1) := by decide +kernel
theorem dX7_readClause_71 : decode cX7_readClause 71 = .ok (.iload_n 1, 1) := by decide +kernel
theorem dX7_readClause_72 : decode cX7_readClause 72 = .ok (.iload_n 2, 1) := by decide +kernel
theorem dX7_readClause_73 : decode cX7_readClause 73 = .ok (.invokevirtual 69, 3) := by decide +kernel
theorem dX7_readClause_76 : decode cX7_readClause 76 = .ok (.ifCond .eq 7, 3) := by decide +kernel
theorem dX7_readClause_79 : decode cX7_readClause 79 = .ok (.iconst 1, 1) := by decide +kernel
theorem dX7_readClause_80 : decode cX7_readClause 80 = .ok (.goto 4, 3) := by decide +kernel
theorem dX7_readClause_83 : decode cX7_readClause 83 = .ok (.iconst 0, 1) := by decide +kernel
theorem dX7_readClause_84 : decode cX7_readClause 84 = .ok (.ireturn, 1) := by decide +kernel
theorem dX7_addClause_0 : decode cX7_addClause 0 = .ok (.aload_n 0, 1) := by decide +kernel
theorem dX7_addClause_1 : decode cX7_addClause 1 = .ok (.getfield 37, 3) := by decide +kernel
theorem dX7_addClause_4 : decode cX7_addClause 4 = .ok (.bipush 10, 2) := by decide +kernel
theorem dX7_addClause_6 : decode cX7_addClause 6 = .ok (.if_icmp .lt 5, 3) := by decide +kernel
theorem dX7_addClause_9 : decode cX7_addClause 9 = .ok (.iconst 0, 1) := by decide +kernel
theorem dX7_addClause_10 : decode cX7_addClause 10 = .ok (.ireturn, 1) := by decide +kernel
theorem dX7_addClause_11 : decode cX7_addClause 11 = .ok (.aload_n 0, 1) := by decide +kernel
theorem dX7_addClause_12 : decode cX7_addClause 12 = .ok (.getfield 28, 3) := by decide +kernel
theorem dX7_addClause_15 : decode cX7_addClause 15 = .ok (.aload_n 0, 1) := by decide +kernel
theorem dX7_addClause_16 : decode cX7_addClause 16 = .ok (.getfield 37, 3) := by decide +kernel
theorem dX7_addClause_19 : decode cX7_addClause 19 = .ok (.iload_n 1, 1) := by decide +kernel
theorem dX7_addClause_20 : decode cX7_addClause 20 = .ok (.iastore, 1) := by decide +kernel
theorem dX7_addClause_21 : decode cX7_addClause 21 = .ok (.aload_n 0, 1) := by decide +kernel
theorem dX7_addClause_22 : decode cX7_addClause 22 = .ok (.getfield 31, 3) := by decide +kernel
theorem dX7_addClause_25 : decode cX7_addClause 25 = .ok (.aload_n 0, 1) := by decide +kernel
theorem dX7_addClause_26 : decode cX7_addClause 26 = .ok (.getfield 37, 3) := by decide +kernel
theorem dX7_addClause_29 : decode cX7_addClause 29 = .ok (.iload_n 2, 1) := by decide +kernel
theorem dX7_addClause_30 : decode cX7_addClause 30 = .ok (.iastore, 1) := by decide +kernel
theorem dX7_addClause_31 : decode cX7_addClause 31 = .ok (.aload_n 0, 1) := by decide +kernel
theorem dX7_addClause_32 : decode cX7_addClause 32 = .ok (.getfield 34, 3) := by decide +kernel
theorem dX7_addClause_35 : decode cX7_addClause 35 = .ok (.aload_n 0, 1) := by decide +kernel
theorem dX7_addClause_36 : decode cX7_addClause 36 = .ok (.getfield 37, 3) := by decide +kernel
theorem dX7_addClause_39 : decode cX7_addClause 39 = .ok (.aload_n 0, 1) := by decide +kernel
theorem dX7_addClause_40 : decode cX7_addClause 40 = .ok (.getfield 25, 3) := by decide +kernel
theorem dX7_addClause_43 : decode cX7_addClause 43 = .ok (.iastore, 1) := by decide +kernel
theorem dX7_addClause_44 : decode cX7_addClause 44 = .ok (.aload_n 0, 1) := by decide +kernel
theorem dX7_addClause_45 : decode cX7_addClause 45 = .ok (.dup, 1) := by decide +kernel
theorem dX7_addClause_46 : decode cX7_addClause 46 = .ok (.getfield 37, 3) := by decide +kernel
theorem dX7_addClause_49 : decode cX7_addClause 49 = .ok (.iconst 1, 1) := by decide +kernel
theorem dX7_addClause_50 : decode cX7_addClause 50 = .ok (.iadd, 1) := by decide +kernel
theorem dX7_addClause_51 : decode cX7_addClause 51 = .ok (.putfield 37, 3) := by decide +kernel
theorem dX7_addClause_54 : decode cX7_addClause 54 = .ok (.iconst 1, 1) := by decide +kernel
theorem dX7_addClause_55 : decode cX7_addClause 55 = .ok (.ireturn, 1) := by decide +kernel
theorem dX7_wordFor_0 : decode cX7_wordFor 0 = .ok (.iload_n 0, 1) := by decide +kernel
theorem dX7_wordFor_1 : decode cX7_wordFor 1 = .ok (.tableswitch 50 0 4 #[35, 38, 41, 44, 47], 35) := by decide +kernel
theorem dX7_wordFor_36 : decode cX7_wordFor 36 = .ok (.ldc 73, 2) := by decide +kernel
theorem dX7_wordFor_38 : decode cX7_wordFor 38 = .ok (.areturn, 1) := by decide +kernel
theorem dX7_wordFor_39 : decode cX7_wordFor 39 = .ok (.ldc 75, 2) := by decide +kernel
theorem dX7_wordFor_41 : decode cX7_wordFor 41 = .ok (.areturn, 1) := by decide +kernel
theorem dX7_wordFor_42 : decode cX7_wordFor 42 = .ok (.ldc 77, 2) := by decide +kernel
theorem dX7_wordFor_44 : decode cX7_wordFor 44 = .ok (.areturn, 1) := by decide +kernel
theorem dX7_wordFor_45 : decode cX7_wordFor 45 = .ok (.ldc 79, 2) := by decide +kernel
theorem dX7_wordFor_47 : decode cX7_wordFor 47 = .ok (.areturn, 1) := by decide +kernel
theorem dX7_wordFor_48 : decode cX7_wordFor 48 = .ok (.ldc 81, 2) := by decide +kernel
theorem dX7_wordFor_50 : decode cX7_wordFor 50 = .ok (.areturn, 1) := by decide +kernel
theorem dX7_wordFor_51 : decode cX7_wordFor 51 = .ok (.ldc 83, 2) := by decide +kernel
theorem dX7_wordFor_53 : decode cX7_wordFor 53 = .ok (.areturn, 1) := by decide +kernel
theorem dX7_readWord_0 : decode cX7_readWord 0 = .ok (.iconst 0, 1) := by decide +kernel
theorem dX7_readWord_1 : decode cX7_readWord 1 = .ok (.istore_n 1, 1) := by decide +kernel
theorem dX7_readWord_2 : decode cX7_readWord 2 = .ok (.iconst 0, 1) := by decide +kernel
theorem dX7_readWord_3 : decode cX7_readWord 3 = .ok (.istore_n 2, 1) := by decide +kernel
theorem dX7_readWord_4 : decode cX7_readWord 4 = .ok (.iload_n 2, 1) := by decide +kernel
theorem dX7_readWord_5 : decode cX7_readWord 5 = .ok (.iconst 5, 1) := by decide +kernel
theorem dX7_readWord_6 : decode cX7_readWord 6 = .ok (.if_icmp .gt 50, 3) := by decide +kernel
theorem dX7_readWord_9 : decode cX7_readWord 9 = .ok (.iload_n 2, 1) := by decide +kernel
theorem dX7_readWord_10 : decode cX7_readWord 10 = .ok (.invokestatic 85, 3) := by decide +kernel
theorem dX7_readWord_13 : decode cX7_readWord 13 = .ok (.astore_n 3, 1) := by decide +kernel
theorem dX7_readWord_14 : decode cX7_readWord 14 = .ok (.aload_n 0, 1) := by decide +kernel
theorem dX7_readWord_15 : decode cX7_readWord 15 = .ok (.aload_n 3, 1) := by decide +kernel
theorem dX7_readWord_16 : decode cX7_readWord 16 = .ok (.invokevirtual 89, 3) := by decide +kernel
theorem dX7_readWord_19 : decode cX7_readWord 19 = .ok (.istore 4, 2) := by decide +kernel
theorem dX7_readWord_21 : decode cX7_readWord 21 = .ok (.iload 4, 2) := by decide +kernel
theorem dX7_readWord_23 : decode cX7_readWord 23 = .ok (.aload_n 3, 1) := by decide +kernel
theorem dX7_readWord_24 : decode cX7_readWord 24 = .ok (.invokevirtual 93, 3) := by decide +kernel
theorem dX7_readWord_27 : decode cX7_readWord 27 = .ok (.if_icmp .ne 16, 3) := by decide +kernel
theorem dX7_readWord_30 : decode cX7_readWord 30 = .ok (.aload_n 0, 1) := by decide +kernel
theorem dX7_readWord_31 : decode cX7_readWord 31 = .ok (.dup, 1) := by decide +kernel
theorem dX7_readWord_32 : decode cX7_readWord 32 = .ok (.getfield 15, 3) := by decide +kernel
theorem dX7_readWord_35 : decode cX7_readWord 35 = .ok (.iload 4, 2) := by decide +kernel
theorem dX7_readWord_37 : decode cX7_readWord 37 = .ok (.iadd, 1) := by decide +kernel
theorem dX7_readWord_38 : decode cX7_readWord 38 = .ok (.putfield 15, 3) := by decide +kernel
theorem dX7_readWord_41 : decode cX7_readWord 41 = .ok (.iload_n 2, 1) := by decide +kernel
theorem dX7_readWord_42 : decode cX7_readWord 42 = .ok (.ireturn, 1) := by decide +kernel
theorem dX7_readWord_43 : decode cX7_readWord 43 = .ok (.iload_n 1, 1) := by decide +kernel
theorem dX7_readWord_44 : decode cX7_readWord 44 = .ok (.iload 4, 2) := by decide +kernel
theorem dX7_readWord_46 : decode cX7_readWord 46 = .ok (.invokestatic 98, 3) := by decide +kernel
theorem dX7_readWord_49 : decode cX7_readWord 49 = .ok (.istore_n 1, 1) := by decide +kernel
theorem dX7_readWord_50 : decode cX7_readWord 50 = .ok (.iinc 2 1, 3) := by decide +kernel
theorem dX7_readWord_53 : decode cX7_readWord 53 = .ok (.goto (-49), 3) := by decide +kernel
theorem dX7_readWord_56 : decode cX7_readWord 56 = .ok (.aload_n 0, 1) := by decide +kernel
theorem dX7_readWord_57 : decode cX7_readWord 57 = .ok (.dup, 1) := by decide +kernel
theorem dX7_readWord_58 : decode cX7_readWord 58 = .ok (.getfield 15, 3) := by decide +kernel
theorem dX7_readWord_61 : decode cX7_readWord 61 = .ok (.iload_n 1, 1) := by decide +kernel
theorem dX7_readWord_62 : decode cX7_readWord 62 = .ok (.iadd, 1) := by decide +kernel
theorem dX7_readWord_63 : decode cX7_readWord 63 = .ok (.putfield 15, 3) := by decide +kernel
theorem dX7_readWord_66 : decode cX7_readWord 66 = .ok (.iconst (-1), 1) := by decide +kernel
theorem dX7_readWord_67 : decode cX7_readWord 67 = .ok (.ireturn, 1) := by decide +kernel
theorem dX7_alikeWith_0 : decode cX7_alikeWith 0 = .ok (.iconst 0, 1) := by decide +kernel
theorem dX7_alikeWith_1 : decode cX7_alikeWith 1 = .ok (.istore_n 2, 1) := by decide +kernel
theorem dX7_alikeWith_2 : decode cX7_alikeWith 2 = .ok (.iload_n 2, 1) := by decide +kernel
theorem dX7_alikeWith_3 : decode cX7_alikeWith 3 = .ok (.aload_n 1, 1) := by decide +kernel
theorem dX7_alikeWith_4 : decode cX7_alikeWith 4 = .ok (.invokevirtual 93, 3) := by decide +kernel
theorem dX7_alikeWith_7 : decode cX7_alikeWith 7 = .ok (.if_icmp .ge 42, 3) := by decide +kernel
theorem dX7_alikeWith_10 : decode cX7_alikeWith 10 = .ok (.aload_n 0, 1) := by decide +kernel
theorem dX7_alikeWith_11 : decode cX7_alikeWith 11 = .ok (.getfield 15, 3) := by decide +kernel
theorem dX7_alikeWith_14 : decode cX7_alikeWith 14 = .ok (.iload_n 2, 1) := by decide +kernel
theorem dX7_alikeWith_15 : decode cX7_alikeWith 15 = .ok (.iadd, 1) := by decide +kernel
theorem dX7_alikeWith_16 : decode cX7_alikeWith 16 = .ok (.aload_n 0, 1) := by decide +kernel
theorem dX7_alikeWith_17 : decode cX7_alikeWith 17 = .ok (.getfield 46, 3) := by decide +kernel
theorem dX7_alikeWith_20 : decode cX7_alikeWith 20 = .ok (.arraylength, 1) := by decide +kernel
theorem dX7_alikeWith_21 : decode cX7_alikeWith 21 = .ok (.if_icmp .ge 28, 3) := by decide +kernel
theorem dX7_alikeWith_24 : decode cX7_alikeWith 24 = .ok (.aload_n 0, 1) := by decide +kernel
theorem dX7_alikeWith_25 : decode cX7_alikeWith 25 = .ok (.getfield 46, 3) := by decide +kernel
theorem dX7_alikeWith_28 : decode cX7_alikeWith 28 = .ok (.aload_n 0, 1) := by decide +kernel
theorem dX7_alikeWith_29 : decode cX7_alikeWith 29 = .ok (.getfield 15, 3) := by decide +kernel
theorem dX7_alikeWith_32 : decode cX7_alikeWith 32 = .ok (.iload_n 2, 1) := by decide +kernel
theorem dX7_alikeWith_33 : decode cX7_alikeWith 33 = .ok (.iadd, 1) := by decide +kernel
theorem dX7_alikeWith_34 : decode cX7_alikeWith 34 = .ok (.baload, 1) := by decide +kernel
theorem dX7_alikeWith_35 : decode cX7_alikeWith 35 = .ok (.aload_n 1, 1) := by decide +kernel
theorem dX7_alikeWith_36 : decode cX7_alikeWith 36 = .ok (.iload_n 2, 1) := by decide +kernel
theorem dX7_alikeWith_37 : decode cX7_alikeWith 37 = .ok (.invokevirtual 104, 3) := by decide +kernel
theorem dX7_alikeWith_40 : decode cX7_alikeWith 40 = .ok (.if_icmp .ne 9, 3) := by decide +kernel
theorem dX7_alikeWith_43 : decode cX7_alikeWith 43 = .ok (.iinc 2 1, 3) := by decide +kernel
theorem dX7_alikeWith_46 : decode cX7_alikeWith 46 = .ok (.goto (-44), 3) := by decide +kernel
theorem dX7_alikeWith_49 : decode cX7_alikeWith 49 = .ok (.iload_n 2, 1) := by decide +kernel
theorem dX7_alikeWith_50 : decode cX7_alikeWith 50 = .ok (.ireturn, 1) := by decide +kernel
theorem dX7_take_0 : decode cX7_take 0 = .ok (.aload_n 0, 1) := by decide +kernel
theorem dX7_take_1 : decode cX7_take 1 = .ok (.getfield 15, 3) := by decide +kernel
theorem dX7_take_4 : decode cX7_take 4 = .ok (.aload_n 0, 1) := by decide +kernel
theorem dX7_take_5 : decode cX7_take 5 = .ok (.getfield 46, 3) := by decide +kernel
theorem dX7_take_8 : decode cX7_take 8 = .ok (.arraylength, 1) := by decide +kernel
theorem dX7_take_9 : decode cX7_take 9 = .ok (.if_icmp .ge 16, 3) := by decide +kernel
theorem dX7_take_12 : decode cX7_take 12 = .ok (.aload_n 0, 1) := by decide +kernel
theorem dX7_take_13 : decode cX7_take 13 = .ok (.getfield 46, 3) := by decide +kernel
theorem dX7_take_16 : decode cX7_take 16 = .ok (.aload_n 0, 1) := by decide +kernel
theorem dX7_take_17 : decode cX7_take 17 = .ok (.getfield 15, 3) := by decide +kernel
theorem dX7_take_20 : decode cX7_take 20 = .ok (.baload, 1) := by decide +kernel
theorem dX7_take_21 : decode cX7_take 21 = .ok (.iload_n 1, 1) := by decide +kernel
theorem dX7_take_22 : decode cX7_take 22 = .ok (.if_icmp .eq 5, 3) := by decide +kernel
theorem dX7_take_25 : decode cX7_take 25 = .ok (.iconst 0, 1) := by decide +kernel
theorem dX7_take_26 : decode cX7_take 26 = .ok (.ireturn, 1) := by decide +kernel
theorem dX7_take_27 : decode cX7_take 27 = .ok (.aload_n 0, 1) := by decide +kernel
theorem dX7_take_28 : decode cX7_take 28 = .ok (.dup, 1) := by decide +kernel
theorem dX7_take_29 : decode cX7_take 29 = .ok (.getfield 15, 3) := by decide +kernel
theorem dX7_take_32 : decode cX7_take 32 = .ok (.iconst 1, 1) := by decide +kernel
theorem dX7_take_33 : decode cX7_take 33 = .ok (.iadd, 1) := by decide +kernel
theorem dX7_take_34 : decode cX7_take 34 = .ok (.putfield 15, 3) := by decide +kernel
theorem dX7_take_37 : decode cX7_take 37 = .ok (.iconst 1, 1) := by decide +kernel
theorem dX7_take_38 : decode cX7_take 38 = .ok (.ireturn, 1) := by decide +kernel
theorem dX7_readNumber_0 : decode cX7_readNumber 0 = .ok (.aload_n 0, 1) := by decide +kernel
theorem dX7_readNumber_1 : decode cX7_readNumber 1 = .ok (.iconst 0, 1) := by decide +kernel
theorem dX7_readNumber_2 : decode cX7_readNumber 2 = .ok (.putfield 19, 3) := by decide +kernel
theorem dX7_readNumber_5 : decode cX7_readNumber 5 = .ok (.iconst 0, 1) := by decide +kernel
theorem dX7_readNumber_6 : decode cX7_readNumber 6 = .ok (.istore_n 1, 1) := by decide +kernel
theorem dX7_readNumber_7 : decode cX7_readNumber 7 = .ok (.iconst 1, 1) := by decide +kernel
theorem dX7_readNumber_8 : decode cX7_readNumber 8 = .ok (.istore_n 2, 1) := by decide +kernel
theorem dX7_readNumber_9 : decode cX7_readNumber 9 = .ok (.iload_n 2, 1) := by decide +kernel
theorem dX7_readNumber_10 : decode cX7_readNumber 10 = .ok (.ifCond .eq 101, 3) := by decide +kernel
theorem dX7_readNumber_13 : decode cX7_readNumber 13 = .ok (.iload_n 1, 1) := by decide +kernel
theorem dX7_readNumber_14 : decode cX7_readNumber 14 = .ok (.iconst 3, 1) := by decide +kernel
theorem dX7_readNumber_15 : decode cX7_readNumber 15 = .ok (.if_icmp .ge 96, 3) := by decide +kernel
theorem dX7_readNumber_18 : decode cX7_readNumber 18 = .ok (.aload_n 0, 1) := by decide +kernel
theorem dX7_readNumber_19 : decode cX7_readNumber 19 = .ok (.getfield 15, 3) := by decide +kernel
theorem dX7_readNumber_22 : decode cX7_readNumber 22 = .ok (.aload_n 0, 1) := by decide +kernel
theorem dX7_readNumber_23 : decode cX7_readNumber 23 = .ok (.getfield 46, 3) := by decide +kernel
theorem dX7_readNumber_26 : decode cX7_readNumber 26 = .ok (.arraylength, 1) := by decide +kernel
theorem dX7_readNumber_27 : decode cX7_readNumber 27 = .ok (.if_icmp .ge 84, 3) := by decide +kernel
theorem dX7_readNumber_30 : decode cX7_readNumber 30 = .ok (.aload_n 0, 1) := by decide +kernel
theorem dX7_readNumber_31 : decode cX7_readNumber 31 = .ok (.getfield 46, 3) := by decide +kernel
theorem dX7_readNumber_34 : decode cX7_readNumber 34 = .ok (.aload_n 0, 1) := by decide +kernel
theorem dX7_readNumber_35 : decode cX7_readNumber 35 = .ok (.getfield 15, 3) := by decide +kernel
theorem dX7_readNumber_38 : decode cX7_readNumber 38 = .ok (.baload, 1) := by decide +kernel
theorem dX7_readNumber_39 : decode cX7_readNumber 39 = .ok (.bipush 48, 2) := by decide +kernel
theorem dX7_readNumber_41 : decode cX7_readNumber 41 = .ok (.if_icmp .lt 70, 3) := by decide +kernel
theorem dX7_readNumber_44 : decode cX7_readNumber 44 = .ok (.aload_n 0, 1) := by decide +kernel
theorem dX7_readNumber_45 : decode cX7_readNumber 45 = .ok (.getfield 46, 3) := by decide +kernel
theorem dX7_readNumber_48 : decode cX7_readNumber 48 = .ok (.aload_n 0, 1) := by decide +kernel
theorem dX7_readNumber_49 : decode cX7_readNumber 49 = .ok (.getfield 15, 3) := by decide +kernel
theorem dX7_readNumber_52 : decode cX7_readNumber 52 = .ok (.baload, 1) := by decide +kernel
theorem dX7_readNumber_53 : decode cX7_readNumber 53 = .ok (.bipush 57, 2) := by decide +kernel
theorem dX7_readNumber_55 : decode cX7_readNumber 55 = .ok (.if_icmp .gt 56, 3) := by decide +kernel
theorem dX7_readNumber_58 : decode cX7_readNumber 58 = .ok (.aload_n 0, 1) := by decide +kernel
theorem dX7_readNumber_59 : decode cX7_readNumber 59 = .ok (.aload_n 0, 1) := by decide +kernel
theorem dX7_readNumber_60 : decode cX7_readNumber 60 = .ok (.getfield 19, 3) := by decide +kernel
theorem dX7_readNumber_63 : decode cX7_readNumber 63 = .ok (.bipush 10, 2) := by decide +kernel
theorem dX7_readNumber_65 : decode cX7_readNumber 65 = .ok (.imul, 1) := by decide +kernel
theorem dX7_readNumber_66 : decode cX7_readNumber 66 = .ok (.aload_n 0, 1) := by decide +kernel
theorem dX7_readNumber_67 : decode cX7_readNumber 67 = .ok (.getfield 46, 3) := by decide +kernel
theorem dX7_readNumber_70 : decode cX7_readNumber 70 = .ok (.aload_n 0, 1) := by decide +kernel
theorem dX7_readNumber_71 : decode cX7_readNumber 71 = .ok (.getfield 15, 3) := by decide +kernel
theorem dX7_readNumber_74 : decode cX7_readNumber 74 = .ok (.baload, 1) := by decide +kernel
theorem dX7_readNumber_75 : decode cX7_readNumber 75 = .ok (.iadd, 1) := by decide +kernel
theorem dX7_readNumber_76 : decode cX7_readNumber 76 = .ok (.bipush 48, 2) := by decide +kernel
theorem dX7_readNumber_78 : decode cX7_readNumber 78 = .ok (.isub, 1) := by decide +kernel
theorem dX7_readNumber_79 : decode cX7_readNumber 79 = .ok (.putfield 19, 3) := by decide +kernel
theorem dX7_readNumber_82 : decode cX7_readNumber 82 = .ok (.aload_n 0, 1) := by decide +kernel
theorem dX7_readNumber_83 : decode cX7_readNumber 83 = .ok (.dup, 1) := by decide +kernel
theorem dX7_readNumber_84 : decode cX7_readNumber 84 = .ok (.getfield 15, 3) := by decide +kernel
theorem dX7_readNumber_87 : decode cX7_readNumber 87 = .ok (.iconst 1, 1) := by decide +kernel
theorem dX7_readNumber_88 : decode cX7_readNumber 88 = .ok (.iadd, 1) := by decide +kernel
theorem dX7_readNumber_89 : decode cX7_readNumber 89 = .ok (.putfield 15, 3) := by decide +kernel
theorem dX7_readNumber_92 : decode cX7_readNumber 92 = .ok (.iinc 1 1, 3) := by decide +kernel
theorem dX7_readNumber_95 : decode cX7_readNumber 95 = .ok (.aload_n 0, 1) := by decide +kernel
theorem dX7_readNumber_96 : decode cX7_readNumber 96 = .ok (.getfield 19, 3) := by decide +kernel
theorem dX7_readNumber_99 : decode cX7_readNumber 99 = .ok (.ifCond .le 7, 3) := by decide +kernel
theorem dX7_readNumber_102 : decode cX7_readNumber 102 = .ok (.iconst 1, 1) := by decide +kernel
theorem dX7_readNumber_103 : decode cX7_readNumber 103 = .ok (.goto 4, 3) := by decide +kernel
theorem dX7_readNumber_106 : decode cX7_readNumber 106 = .ok (.iconst 0, 1) := by decide +kernel
theorem dX7_readNumber_107 : decode cX7_readNumber 107 = .ok (.istore_n 2, 1) := by decide +kernel
theorem dX7_readNumber_108 : decode cX7_readNumber 108 = .ok (.goto (-99), 3) := by decide +kernel
theorem dX7_readNumber_111 : decode cX7_readNumber 111 = .ok (.iload_n 1, 1) := by decide +kernel
theorem dX7_readNumber_112 : decode cX7_readNumber 112 = .ok (.ifCond .le 7, 3) := by decide +kernel
theorem dX7_readNumber_115 : decode cX7_readNumber 115 = .ok (.iconst 1, 1) := by decide +kernel
theorem dX7_readNumber_116 : decode cX7_readNumber 116 = .ok (.goto 4, 3) := by decide +kernel
theorem dX7_readNumber_119 : decode cX7_readNumber 119 = .ok (.iconst 0, 1) := by decide +kernel
theorem dX7_readNumber_120 : decode cX7_readNumber 120 = .ok (.ireturn, 1) := by decide +kernel
theorem dX7_readEither_0 : decode cX7_readEither 0 = .ok (.aload_n 0, 1) := by decide +kernel
theorem dX7_readEither_1 : decode cX7_readEither 1 = .ok (.iload_n 1, 1) := by decide +kernel
theorem dX7_readEither_2 : decode cX7_readEither 2 = .ok (.invokevirtual 108, 3) := by decide +kernel
theorem dX7_readEither_5 : decode cX7_readEither 5 = .ok (.ifCond .ne 5, 3) := by decide +kernel
theorem dX7_readEither_8 : decode cX7_readEither 8 = .ok (.iconst 0, 1) := by decide +kernel
theorem dX7_readEither_9 : decode cX7_readEither 9 = .ok (.ireturn, 1) := by decide +kernel
theorem dX7_readEither_10 : decode cX7_readEither 10 = .ok (.iconst 0, 1) := by decide +kernel
theorem dX7_readEither_11 : decode cX7_readEither 11 = .ok (.istore_n 2, 1) := by decide +kernel
theorem dX7_readEither_12 : decode cX7_readEither 12 = .ok (.iload_n 2, 1) := by decide +kernel
theorem dX7_readEither_13 : decode cX7_readEither 13 = .ok (.bipush 120, 2) := by decide +kernel
theorem dX7_readEither_15 : decode cX7_readEither 15 = .ok (.if_icmp .ge 37, 3) := by decide +kernel
theorem dX7_readEither_18 : decode cX7_readEither 18 = .ok (.aload_n 0, 1) := by decide +kernel
theorem dX7_readEither_19 : decode cX7_readEither 19 = .ok (.bipush 124, 2) := by decide +kernel
theorem dX7_readEither_21 : decode cX7_readEither 21 = .ok (.invokevirtual 54, 3) := by decide +kernel
theorem dX7_readEither_24 : decode cX7_readEither 24 = .ok (.ifCond .eq 28, 3) := by decide +kernel
theorem dX7_readEither_27 : decode cX7_readEither 27 = .ok (.aload_n 0, 1) := by decide +kernel
theorem dX7_readEither_28 : decode cX7_readEither 28 = .ok (.iload_n 1, 1) := by decide +kernel
theorem dX7_readEither_29 : decode cX7_readEither 29 = .ok (.invokevirtual 108, 3) := by decide +kernel
theorem dX7_readEither_32 : decode cX7_readEither 32 = .ok (.ifCond .eq 12, 3) := by decide +kernel
theorem dX7_readEither_35 : decode cX7_readEither 35 = .ok (.aload_n 0, 1) := by decide +kernel
theorem dX7_readEither_36 : decode cX7_readEither 36 = .ok (.bipush (-3), 2) := by decide +kernel
theorem dX7_readEither_38 : decode cX7_readEither 38 = .ok (.invokevirtual 111, 3) := by decide +kernel
theorem dX7_readEither_41 : decode cX7_readEither 41 = .ok (.ifCond .ne 5, 3) := by decide +kernel
theorem dX7_readEither_44 : decode cX7_readEither 44 = .ok (.iconst 0, 1) := by decide +kernel
theorem dX7_readEither_45 : decode cX7_readEither 45 = .ok (.ireturn, 1) := by decide +kernel
theorem dX7_readEither_46 : decode cX7_readEither 46 = .ok (.iinc 2 1, 3) := by decide +kernel
theorem dX7_readEither_49 : decode cX7_readEither 49 = .ok (.goto (-37), 3) := by decide +kernel
theorem dX7_readEither_52 : decode cX7_readEither 52 = .ok (.iconst 1, 1) := by decide +kernel
theorem dX7_readEither_53 : decode cX7_readEither 53 = .ok (.ireturn, 1) := by decide +kernel
theorem dX7_readBoth_0 : decode cX7_readBoth 0 = .ok (.aload_n 0, 1) := by decide +kernel
theorem dX7_readBoth_1 : decode cX7_readBoth 1 = .ok (.iload_n 1, 1) := by decide +kernel
theorem dX7_readBoth_2 : decode cX7_readBoth 2 = .ok (.invokevirtual 114, 3) := by decide +kernel
theorem dX7_readBoth_5 : decode cX7_readBoth 5 = .ok (.ifCond .ne 5, 3) := by decide +kernel
theorem dX7_readBoth_8 : decode cX7_readBoth 8 = .ok (.iconst 0, 1) := by decide +kernel
theorem dX7_readBoth_9 : decode cX7_readBoth 9 = .ok (.ireturn, 1) := by decide +kernel
theorem dX7_readBoth_10 : decode cX7_readBoth 10 = .ok (.iconst 0, 1) := by decide +kernel
theorem dX7_readBoth_11 : decode cX7_readBoth 11 = .ok (.istore_n 2, 1) := by decide +kernel
theorem dX7_readBoth_12 : decode cX7_readBoth 12 = .ok (.iload_n 2, 1) := by decide +kernel
theorem dX7_readBoth_13 : decode cX7_readBoth 13 = .ok (.bipush 120, 2) := by decide +kernel
theorem dX7_readBoth_15 : decode cX7_readBoth 15 = .ok (.if_icmp .ge 37, 3) := by decide +kernel
theorem dX7_readBoth_18 : decode cX7_readBoth 18 = .ok (.aload_n 0, 1) := by decide +kernel
theorem dX7_readBoth_19 : decode cX7_readBoth 19 = .ok (.bipush 38, 2) := by decide +kernel
theorem dX7_readBoth_21 : decode cX7_readBoth 21 = .ok (.invokevirtual 54, 3) := by decide +kernel
theorem dX7_readBoth_24 : decode cX7_readBoth 24 = .ok (.ifCond .eq 28, 3) := by decide +kernel
theorem dX7_readBoth_27 : decode cX7_readBoth 27 = .ok (.aload_n 0, 1) := by decide +kernel
theorem dX7_readBoth_28 : decode cX7_readBoth 28 = .ok (.iload_n 1, 1) := by decide +kernel
theorem dX7_readBoth_29 : decode cX7_readBoth 29 = .ok (.invokevirtual 114, 3) := by decide +kernel
theorem dX7_readBoth_32 : decode cX7_readBoth 32 = .ok (.ifCond .eq 12, 3) := by decide +kernel
theorem dX7_readBoth_35 : decode cX7_readBoth 35 = .ok (.aload_n 0, 1) := by decide +kernel
theorem dX7_readBoth_36 : decode cX7_readBoth 36 = .ok (.bipush (-2), 2) := by decide +kernel
theorem dX7_readBoth_38 : decode cX7_readBoth 38 = .ok (.invokevirtual 111, 3) := by decide +kernel
theorem dX7_readBoth_41 : decode cX7_readBoth 41 = .ok (.ifCond .ne 5, 3) := by decide +kernel
theorem dX7_readBoth_44 : decode cX7_readBoth 44 = .ok (.iconst 0, 1) := by decide +kernel
theorem dX7_readBoth_45 : decode cX7_readBoth 45 = .ok (.ireturn, 1) := by decide +kernel
theorem dX7_readBoth_46 : decode cX7_readBoth 46 = .ok (.iinc 2 1, 3) := by decide +kernel
theorem dX7_readBoth_49 : decode cX7_readBoth 49 = .ok (.goto (-37), 3) := by decide +kernel
theorem dX7_readBoth_52 : decode cX7_readBoth 52 = .ok (.iconst 1, 1) := by decide +kernel
theorem dX7_readBoth_53 : decode cX7_readBoth 53 = .ok (.ireturn, 1) := by decide +kernel
theorem dX7_readPart_0 : decode cX7_readPart 0 = .ok (.iload_n 1, 1) := by decide +kernel
theorem dX7_readPart_1 : decode cX7_readPart 1 = .ok (.iconst 5, 1) := by decide +kernel
theorem dX7_readPart_2 : decode cX7_readPart 2 = .ok (.if_icmp .ge 36, 3) := by decide +kernel
theorem dX7_readPart_5 : decode cX7_readPart 5 = .ok (.aload_n 0, 1) := by decide +kernel
theorem dX7_readPart_6 : decode cX7_readPart 6 = .ok (.bipush 33, 2) := by decide +kernel
theorem dX7_readPart_8 : decode cX7_readPart 8 = .ok (.invokevirtual 54, 3) := by decide +kernel
theorem dX7_readPart_11 : decode cX7_readPart 11 = .ok (.ifCond .eq 27, 3) := by decide +kernel
theorem dX7_readPart_14 : decode cX7_readPart 14 = .ok (.aload_n 0, 1) := by decide +kernel
theorem dX7_readPart_15 : decode cX7_readPart 15 = .ok (.iload_n 1, 1) := by decide +kernel
theorem dX7_readPart_16 : decode cX7_readPart 16 = .ok (.iconst 1, 1) := by decide +kernel
theorem dX7_readPart_17 : decode cX7_readPart 17 = .ok (.iadd, 1) := by decide +kernel
theorem dX7_readPart_18 : decode cX7_readPart 18 = .ok (.invokevirtual 114, 3) := by decide +kernel
theorem dX7_readPart_21 : decode cX7_readPart 21 = .ok (.ifCond .eq 15, 3) := by decide +kernel
theorem dX7_readPart_24 : decode cX7_readPart 24 = .ok (.aload_n 0, 1) := by decide +kernel
theorem dX7_readPart_25 : decode cX7_readPart 25 = .ok (.iconst (-1), 1) := by decide +kernel
theorem dX7_readPart_26 : decode cX7_readPart 26 = .ok (.invokevirtual 111, 3) := by decide +kernel
theorem dX7_readPart_29 : decode cX7_readPart 29 = .ok (.ifCond .eq 7, 3) := by decide +kernel
theorem dX7_readPart_32 : decode cX7_readPart 32 = .ok (.iconst 1, 1) := by decide +kernel
theorem dX7_readPart_33 : decode cX7_readPart 33 = .ok (.goto 4, 3) := by decide +kernel
theorem dX7_readPart_36 : decode cX7_readPart 36 = .ok (.iconst 0, 1) := by decide +kernel
theorem dX7_readPart_37 : decode cX7_readPart 37 = .ok (.ireturn, 1) := by decide +kernel
theorem dX7_readPart_38 : decode cX7_readPart 38 = .ok (.iload_n 1, 1) := by decide +kernel
theorem dX7_readPart_39 : decode cX7_readPart 39 = .ok (.iconst 5, 1) := by decide +kernel
theorem dX7_readPart_40 : decode cX7_readPart 40 = .ok (.if_icmp .ge 37, 3) := by decide +kernel
theorem dX7_readPart_43 : decode cX7_readPart 43 = .ok (.aload_n 0, 1) := by decide +kernel
theorem dX7_readPart_44 : decode cX7_readPart 44 = .ok (.bipush 40, 2) := by decide +kernel
theorem dX7_readPart_46 : decode cX7_readPart 46 = .ok (.invokevirtual 54, 3) := by decide +kernel
theorem dX7_readPart_49 : decode cX7_readPart 49 = .ok (.ifCond .eq 28, 3) := by decide +kernel
theorem dX7_readPart_52 : decode cX7_readPart 52 = .ok (.aload_n 0, 1) := by decide +kernel
theorem dX7_readPart_53 : decode cX7_readPart 53 = .ok (.iload_n 1, 1) := by decide +kernel
theorem dX7_readPart_54 : decode cX7_readPart 54 = .ok (.iconst 1, 1) := by decide +kernel
theorem dX7_readPart_55 : decode cX7_readPart 55 = .ok (.iadd, 1) := by decide +kernel
theorem dX7_readPart_56 : decode cX7_readPart 56 = .ok (.invokevirtual 65, 3) := by decide +kernel
theorem dX7_readPart_59 : decode cX7_readPart 59 = .ok (.ifCond .eq 16, 3) := by decide +kernel
theorem dX7_readPart_62 : decode cX7_readPart 62 = .ok (.aload_n 0, 1) := by decide +kernel
theorem dX7_readPart_63 : decode cX7_readPart 63 = .ok (.bipush 41, 2) := by decide +kernel
theorem dX7_readPart_65 : decode cX7_readPart 65 = .ok (.invokevirtual 54, 3) := by decide +kernel
theorem dX7_readPart_68 : decode cX7_readPart 68 = .ok (.ifCond .eq 7, 3) := by decide +kernel
theorem dX7_readPart_71 : decode cX7_readPart 71 = .ok (.iconst 1, 1) := by decide +kernel
theorem dX7_readPart_72 : decode cX7_readPart 72 = .ok (.goto 4, 3) := by decide +kernel
theorem dX7_readPart_75 : decode cX7_readPart 75 = .ok (.iconst 0, 1) := by decide +kernel
theorem dX7_readPart_76 : decode cX7_readPart 76 = .ok (.ireturn, 1) := by decide +kernel
theorem dX7_readPart_77 : decode cX7_readPart 77 = .ok (.aload_n 0, 1) := by decide +kernel
theorem dX7_readPart_78 : decode cX7_readPart 78 = .ok (.invokevirtual 117, 3) := by decide +kernel
theorem dX7_readPart_81 : decode cX7_readPart 81 = .ok (.ireturn, 1) := by decide +kernel
theorem dX7_readTest_0 : decode cX7_readTest 0 = .ok (.aload_n 0, 1) := by decide +kernel
theorem dX7_readTest_1 : decode cX7_readTest 1 = .ok (.bipush 100, 2) := by decide +kernel
theorem dX7_readTest_3 : decode cX7_readTest 3 = .ok (.invokevirtual 54, 3) := by decide +kernel
theorem dX7_readTest_6 : decode cX7_readTest 6 = .ok (.ifCond .eq 7, 3) := by decide +kernel
theorem dX7_readTest_9 : decode cX7_readTest 9 = .ok (.iconst 0, 1) := by decide +kernel
theorem dX7_readTest_10 : decode cX7_readTest 10 = .ok (.goto 17, 3) := by decide +kernel
theorem dX7_readTest_13 : decode cX7_readTest 13 = .ok (.aload_n 0, 1) := by decide +kernel
theorem dX7_readTest_14 : decode cX7_readTest 14 = .ok (.bipush 107, 2) := by decide +kernel
theorem dX7_readTest_16 : decode cX7_readTest 16 = .ok (.invokevirtual 54, 3) := by decide +kernel
theorem dX7_readTest_19 : decode cX7_readTest 19 = .ok (.ifCond .eq 7, 3) := by decide +kernel
theorem dX7_readTest_22 : decode cX7_readTest 22 = .ok (.iconst 1, 1) := by decide +kernel
theorem dX7_readTest_23 : decode cX7_readTest 23 = .ok (.goto 4, 3) := by decide +kernel
theorem dX7_readTest_26 : decode cX7_readTest 26 = .ok (.iconst (-1), 1) := by decide +kernel
theorem dX7_readTest_27 : decode cX7_readTest 27 = .ok (.istore_n 1, 1) := by decide +kernel
theorem dX7_readTest_28 : decode cX7_readTest 28 = .ok (.iload_n 1, 1) := by decide +kernel
theorem dX7_readTest_29 : decode cX7_readTest 29 = .ok (.ifCond .ge 5, 3) := by decide +kernel
theorem dX7_readTest_32 : decode cX7_readTest 32 = .ok (.iconst 0, 1) := by decide +kernel
theorem dX7_readTest_33 : decode cX7_readTest 33 = .ok (.ireturn, 1) := by decide +kernel
theorem dX7_readTest_34 : decode cX7_readTest 34 = .ok (.aload_n 0, 1) := by decide +kernel
theorem dX7_readTest_35 : decode cX7_readTest 35 = .ok (.bipush 60, 2) := by decide +kernel
theorem dX7_readTest_37 : decode cX7_readTest 37 = .ok (.invokevirtual 54, 3) := by decide +kernel
theorem dX7_readTest_40 : decode cX7_readTest 40 = .ok (.ifCond .eq 7, 3) := by decide +kernel
theorem dX7_readTest_43 : decode cX7_readTest 43 = .ok (.iconst 0, 1) := by decide +kernel
theorem dX7_readTest_44 : decode cX7_readTest 44 = .ok (.goto 30, 3) := by decide +kernel
theorem dX7_readTest_47 : decode cX7_readTest 47 = .ok (.aload_n 0, 1) := by decide +kernel
theorem dX7_readTest_48 : decode cX7_readTest 48 = .ok (.bipush 61, 2) := by decide +kernel
theorem dX7_readTest_50 : decode cX7_readTest 50 = .ok (.invokevirtual 54, 3) := by decide +kernel
theorem dX7_readTest_53 : decode cX7_readTest 53 = .ok (.ifCond .eq 7, 3) := by decide +kernel
theorem dX7_readTest_56 : decode cX7_readTest 56 = .ok (.iconst 1, 1) := by decide +kernel
theorem dX7_readTest_57 : decode cX7_readTest 57 = .ok (.goto 17, 3) := by decide +kernel
theorem dX7_readTest_60 : decode cX7_readTest 60 = .ok (.aload_n 0, 1) := by decide +kernel
theorem dX7_readTest_61 : decode cX7_readTest 61 = .ok (.bipush 62, 2) := by decide +kernel
theorem dX7_readTest_63 : decode cX7_readTest 63 = .ok (.invokevirtual 54, 3) := by decide +kernel
theorem dX7_readTest_66 : decode cX7_readTest 66 = .ok (.ifCond .eq 7, 3) := by decide +kernel
theorem dX7_readTest_69 : decode cX7_readTest 69 = .ok (.iconst 2, 1) := by decide +kernel
theorem dX7_readTest_70 : decode cX7_readTest 70 = .ok (.goto 4, 3) := by decide +kernel
theorem dX7_readTest_73 : decode cX7_readTest 73 = .ok (.iconst (-1), 1) := by decide +kernel
theorem dX7_readTest_74 : decode cX7_readTest 74 = .ok (.istore_n 2, 1) := by decide +kernel
theorem dX7_readTest_75 : decode cX7_readTest 75 = .ok (.iload_n 2, 1) := by decide +kernel
theorem dX7_readTest_76 : decode cX7_readTest 76 = .ok (.ifCond .lt 10, 3) := by decide +kernel
theorem dX7_readTest_79 : decode cX7_readTest 79 = .ok (.aload_n 0, 1) := by decide +kernel
theorem dX7_readTest_80 : decode cX7_readTest 80 = .ok (.invokevirtual 62, 3) := by decide +kernel
theorem dX7_readTest_83 : decode cX7_readTest 83 = .ok (.ifCond .ne 5, 3) := by decide +kernel
theorem dX7_readTest_86 : decode cX7_readTest 86 = .ok (.iconst 0, 1) := by decide +kernel
theorem dX7_readTest_87 : decode cX7_readTest 87 = .ok (.ireturn, 1) := by decide +kernel
theorem dX7_readTest_88 : decode cX7_readTest 88 = .ok (.aload_n 0, 1) := by decide +kernel
theorem dX7_readTest_89 : decode cX7_readTest 89 = .ok (.aload_n 0, 1) := by decide +kernel
theorem dX7_readTest_90 : decode cX7_readTest 90 = .ok (.getfield 19, 3) := by decide +kernel
theorem dX7_readTest_93 : decode cX7_readTest 93 = .ok (.bipush 8, 2) := by decide +kernel
theorem dX7_readTest_95 : decode cX7_readTest 95 = .ok (.imul, 1) := by decide +kernel
theorem dX7_readTest_96 : decode cX7_readTest 96 = .ok (.iload_n 2, 1) := by decide +kernel
theorem dX7_readTest_97 : decode cX7_readTest 97 = .ok (.iconst 2, 1) := by decide +kernel
theorem dX7_readTest_98 : decode cX7_readTest 98 = .ok (.imul, 1) := by decide +kernel
theorem dX7_readTest_99 : decode cX7_readTest 99 = .ok (.iadd, 1) := by decide +kernel
theorem dX7_readTest_100 : decode cX7_readTest 100 = .ok (.iload_n 1, 1) := by decide +kernel
theorem dX7_readTest_101 : decode cX7_readTest 101 = .ok (.iadd, 1) := by decide +kernel
theorem dX7_readTest_102 : decode cX7_readTest 102 = .ok (.invokevirtual 111, 3) := by decide +kernel
theorem dX7_readTest_105 : decode cX7_readTest 105 = .ok (.ireturn, 1) := by decide +kernel
theorem dX7_put_0 : decode cX7_put 0 = .ok (.aload_n 0, 1) := by decide +kernel
theorem dX7_put_1 : decode cX7_put 1 = .ok (.getfield 25, 3) := by decide +kernel
theorem dX7_put_4 : decode cX7_put 4 = .ok (.bipush 120, 2) := by decide +kernel
theorem dX7_put_6 : decode cX7_put 6 = .ok (.if_icmp .lt 5, 3) := by decide +kernel
theorem dX7_put_9 : decode cX7_put 9 = .ok (.iconst 0, 1) := by decide +kernel
theorem dX7_put_10 : decode cX7_put 10 = .ok (.ireturn, 1) := by decide +kernel
theorem dX7_put_11 : decode cX7_put 11 = .ok (.aload_n 0, 1) := by decide +kernel
theorem dX7_put_12 : decode cX7_put 12 = .ok (.getfield 22, 3) := by decide +kernel
theorem dX7_put_15 : decode cX7_put 15 = .ok (.aload_n 0, 1) := by decide +kernel
theorem dX7_put_16 : decode cX7_put 16 = .ok (.getfield 25, 3) := by decide +kernel
theorem dX7_put_19 : decode cX7_put 19 = .ok (.iload_n 1, 1) := by decide +kernel
theorem dX7_put_20 : decode cX7_put 20 = .ok (.iastore, 1) := by decide +kernel
theorem dX7_put_21 : decode cX7_put 21 = .ok (.aload_n 0, 1) := by decide +kernel
theorem dX7_put_22 : decode cX7_put 22 = .ok (.dup, 1) := by decide +kernel
theorem dX7_put_23 : decode cX7_put 23 = .ok (.getfield 25, 3) := by decide +kernel
theorem dX7_put_26 : decode cX7_put 26 = .ok (.iconst 1, 1) := by decide +kernel
theorem dX7_put_27 : decode cX7_put 27 = .ok (.iadd, 1) := by decide +kernel
theorem dX7_put_28 : decode cX7_put 28 = .ok (.putfield 25, 3) := by decide +kernel
theorem dX7_put_31 : decode cX7_put 31 = .ok (.iconst 1, 1) := by decide +kernel
theorem dX7_put_32 : decode cX7_put 32 = .ok (.ireturn, 1) := by decide +kernel
theorem dX7_chance_0 : decode cX7_chance 0 = .ok (.iconst 0, 1) := by decide +kernel
theorem dX7_chance_1 : decode cX7_chance 1 = .ok (.istore 4, 2) := by decide +kernel
theorem dX7_chance_3 : decode cX7_chance 3 = .ok (.iconst 0, 1) := by decide +kernel
theorem dX7_chance_4 : decode cX7_chance 4 = .ok (.istore 5, 2) := by decide +kernel
theorem dX7_chance_6 : decode cX7_chance 6 = .ok (.iconst 0, 1) := by decide +kernel
theorem dX7_chance_7 : decode cX7_chance 7 = .ok (.istore 6, 2) := by decide +kernel
theorem dX7_chance_9 : decode cX7_chance 9 = .ok (.iload 6, 2) := by decide +kernel
theorem dX7_chance_11 : decode cX7_chance 11 = .ok (.aload_n 0, 1) := by decide +kernel
theorem dX7_chance_12 : decode cX7_chance 12 = .ok (.getfield 37, 3) := by decide +kernel
theorem dX7_chance_15 : decode cX7_chance 15 = .ok (.if_icmp .ge 59, 3) := by decide +kernel
theorem dX7_chance_18 : decode cX7_chance 18 = .ok (.aload_n 0, 1) := by decide +kernel
theorem dX7_chance_19 : decode cX7_chance 19 = .ok (.getfield 28, 3) := by decide +kernel
theorem dX7_chance_22 : decode cX7_chance 22 = .ok (.iload 6, 2) := by decide +kernel
theorem dX7_chance_24 : decode cX7_chance 24 = .ok (.iaload, 1) := by decide +kernel
theorem dX7_chance_25 : decode cX7_chance 25 = .ok (.iload_n 1, 1) := by decide +kernel
theorem dX7_chance_26 : decode cX7_chance 26 = .ok (.if_icmp .ne 33, 3) := by decide +kernel
theorem dX7_chance_29 : decode cX7_chance 29 = .ok (.aload_n 0, 1) := by decide +kernel
theorem dX7_chance_30 : decode cX7_chance 30 = .ok (.iload 5, 2) := by decide +kernel
theorem dX7_chance_32 : decode cX7_chance 32 = .ok (.aload_n 0, 1) := by decide +kernel
theorem dX7_chance_33 : decode cX7_chance 33 = .ok (.getfield 34, 3) := by decide +kernel
theorem dX7_chance_36 : decode cX7_chance 36 = .ok (.iload 6, 2) := by decide +kernel
theorem dX7_chance_38 : decode cX7_chance 38 = .ok (.iaload, 1) := by decide +kernel
theorem dX7_chance_39 : decode cX7_chance 39 = .ok (.iload_n 2, 1) := by decide +kernel
theorem dX7_chance_40 : decode cX7_chance 40 = .ok (.iload_n 3, 1) := by decide +kernel
theorem dX7_chance_41 : decode cX7_chance 41 = .ok (.invokevirtual 120, 3) := by decide +kernel
theorem dX7_chance_44 : decode cX7_chance 44 = .ok (.ifCond .eq 15, 3) := by decide +kernel
theorem dX7_chance_47 : decode cX7_chance 47 = .ok (.iload 4, 2) := by decide +kernel
theorem dX7_chance_49 : decode cX7_chance 49 = .ok (.aload_n 0, 1) := by decide +kernel
theorem dX7_chance_50 : decode cX7_chance 50 = .ok (.getfield 31, 3) := by decide +kernel
theorem dX7_chance_53 : decode cX7_chance 53 = .ok (.iload 6, 2) := by decide +kernel
theorem dX7_chance_55 : decode cX7_chance 55 = .ok (.iaload, 1) := by decide +kernel
theorem dX7_chance_56 : decode cX7_chance 56 = .ok (.iadd, 1) := by decide +kernel
theorem dX7_chance_57 : decode cX7_chance 57 = .ok (.istore 4, 2) := by decide +kernel
theorem dX7_chance_59 : decode cX7_chance 59 = .ok (.aload_n 0, 1) := by decide +kernel
theorem dX7_chance_60 : decode cX7_chance 60 = .ok (.getfield 34, 3) := by decide +kernel
theorem dX7_chance_63 : decode cX7_chance 63 = .ok (.iload 6, 2) := by decide +kernel
theorem dX7_chance_65 : decode cX7_chance 65 = .ok (.iaload, 1) := by decide +kernel
theorem dX7_chance_66 : decode cX7_chance 66 = .ok (.istore 5, 2) := by decide +kernel
theorem dX7_chance_68 : decode cX7_chance 68 = .ok (.iinc 6 1, 3) := by decide +kernel
theorem dX7_chance_71 : decode cX7_chance 71 = .ok (.goto (-62), 3) := by decide +kernel
theorem dX7_chance_74 : decode cX7_chance 74 = .ok (.iload 4, 2) := by decide +kernel
theorem dX7_chance_76 : decode cX7_chance 76 = .ok (.sipush 1000, 3) := by decide +kernel
theorem dX7_chance_79 : decode cX7_chance 79 = .ok (.invokestatic 124, 3) := by decide +kernel
theorem dX7_chance_82 : decode cX7_chance 82 = .ok (.ireturn, 1) := by decide +kernel
theorem dX7_holds_0 : decode cX7_holds 0 = .ok (.iconst 0, 1) := by decide +kernel
theorem dX7_holds_1 : decode cX7_holds 1 = .ok (.istore 5, 2) := by decide +kernel
theorem dX7_holds_3 : decode cX7_holds 3 = .ok (.iload_n 1, 1) := by decide +kernel
theorem dX7_holds_4 : decode cX7_holds 4 = .ok (.istore 6, 2) := by decide +kernel
theorem dX7_holds_6 : decode cX7_holds 6 = .ok (.iload 6, 2) := by decide +kernel
theorem dX7_holds_8 : decode cX7_holds 8 = .ok (.iload_n 2, 1) := by decide +kernel
theorem dX7_holds_9 : decode cX7_holds 9 = .ok (.if_icmp .ge 182, 3) := by decide +kernel
theorem dX7_holds_12 : decode cX7_holds 12 = .ok (.aload_n 0, 1) := by decide +kernel
theorem dX7_holds_13 : decode cX7_holds 13 = .ok (.getfield 22, 3) := by decide +kernel
theorem dX7_holds_16 : decode cX7_holds 16 = .ok (.iload 6, 2) := by decide +kernel
theorem dX7_holds_18 : decode cX7_holds 18 = .ok (.iaload, 1) := by decide +kernel
theorem dX7_holds_19 : decode cX7_holds 19 = .ok (.istore 7, 2) := by decide +kernel
theorem dX7_holds_21 : decode cX7_holds 21 = .ok (.iload 5, 2) := by decide +kernel
theorem dX7_holds_23 : decode cX7_holds 23 = .ok (.iconst 1, 1) := by decide +kernel
theorem dX7_holds_24 : decode cX7_holds 24 = .ok (.iand, 1) := by decide +kernel
theorem dX7_holds_25 : decode cX7_holds 25 = .ok (.istore 8, 2) := by decide +kernel
theorem dX7_holds_27 : decode cX7_holds 27 = .ok (.iload 7, 2) := by decide +kernel
theorem dX7_holds_29 : decode cX7_holds 29 = .ok (.iconst (-1), 1) := by decide +kernel
theorem dX7_holds_30 : decode cX7_holds 30 = .ok (.if_icmp .ne 12, 3) := by decide +kernel
theorem dX7_holds_33 : decode cX7_holds 33 = .ok (.iload 5, 2) := by decide +kernel
theorem dX7_holds_35 : decode cX7_holds 35 = .ok (.iconst 1, 1) := by decide +kernel
theorem dX7_holds_36 : decode cX7_holds 36 = .ok (.ixor, 1) := by decide +kernel
theorem dX7_holds_37 : decode cX7_holds 37 = .ok (.istore 5, 2) := by decide +kernel
theorem dX7_holds_39 : decode cX7_holds 39 = .ok (.goto 146, 3) := by decide +kernel
theorem dX7_holds_42 : decode cX7_holds 42 = .ok (.iload 7, 2) := by decide +kernel
theorem dX7_holds_44 : decode cX7_holds 44 = .ok (.bipush (-2), 2) := by decide +kernel
theorem dX7_holds_46 : decode cX7_holds 46 = .ok (.if_icmp .ne 18, 3) := by decide +kernel
theorem dX7_holds_49 : decode cX7_holds 49 = .ok (.iload 5, 2) := by decide +kernel
theorem dX7_holds_51 : decode cX7_holds 51 = .ok (.iconst 1, 1) := by decide +kernel
theorem dX7_holds_52 : decode cX7_holds 52 = .ok (.ishr, 1) := by decide +kernel
theorem dX7_holds_53 : decode cX7_holds 53 = .ok (.bipush (-2), 2) := by decide +kernel
theorem dX7_holds_55 : decode cX7_holds 55 = .ok (.iload 8, 2) := by decide +kernel
theorem dX7_holds_57 : decode cX7_holds 57 = .ok (.ior, 1) := by decide +kernel
theorem dX7_holds_58 : decode cX7_holds 58 = .ok (.iand, 1) := by decide +kernel
theorem dX7_holds_59 : decode cX7_holds 59 = .ok (.istore 5, 2) := by decide +kernel
theorem dX7_holds_61 : decode cX7_holds 61 = .ok (.goto 124, 3) := by decide +kernel
theorem dX7_holds_64 : decode cX7_holds 64 = .ok (.iload 7, 2) := by decide +kernel
theorem dX7_holds_66 : decode cX7_holds 66 = .ok (.bipush (-3), 2) := by decide +kernel
theorem dX7_holds_68 : decode cX7_holds 68 = .ok (.if_icmp .ne 15, 3) := by decide +kernel
theorem dX7_holds_71 : decode cX7_holds 71 = .ok (.iload 5, 2) := by decide +kernel
theorem dX7_holds_73 : decode cX7_holds 73 = .ok (.iconst 1, 1) := by decide +kernel
theorem dX7_holds_74 : decode cX7_holds 74 = .ok (.ishr, 1) := by decide +kernel
theorem dX7_holds_75 : decode cX7_holds 75 = .ok (.iload 8, 2) := by decide +kernel
theorem dX7_holds_77 : decode cX7_holds 77 = .ok (.ior, 1) := by decide +kernel
theorem dX7_holds_78 : decode cX7_holds 78 = .ok (.istore 5, 2) := by decide +kernel
theorem dX7_holds_80 : decode cX7_holds 80 = .ok (.goto 105, 3) := by decide +kernel
theorem dX7_holds_83 : decode cX7_holds 83 = .ok (.iload 7, 2) := by decide +kernel
theorem dX7_holds_85 : decode cX7_holds 85 = .ok (.iconst 1, 1) := by decide +kernel
theorem dX7_holds_86 : decode cX7_holds 86 = .ok (.iand, 1) := by decide +kernel
theorem dX7_holds_87 : decode cX7_holds 87 = .ok (.ifCond .ne 7, 3) := by decide +kernel
theorem dX7_holds_90 : decode cX7_holds 90 = .ok (.iload_n 3, 1) := by decide +kernel
theorem dX7_holds_91 : decode cX7_holds 91 = .ok (.goto 5, 3) := by decide +kernel
theorem dX7_holds_94 : decode cX7_holds 94 = .ok (.iload 4, 2) := by decide +kernel
theorem dX7_holds_96 : decode cX7_holds 96 = .ok (.istore 9, 2) := by decide +kernel
theorem dX7_holds_98 : decode cX7_holds 98 = .ok (.iload 7, 2) := by decide +kernel
theorem dX7_holds_100 : decode cX7_holds 100 = .ok (.iconst 2, 1) := by decide +kernel
theorem dX7_holds_101 : decode cX7_holds 101 = .ok (.idiv, 1) := by decide +kernel
theorem dX7_holds_102 : decode cX7_holds 102 = .ok (.iconst 4, 1) := by decide +kernel
theorem dX7_holds_103 : decode cX7_holds 103 = .ok (.irem, 1) := by decide +kernel
theorem dX7_holds_104 : decode cX7_holds 104 = .ok (.istore 10, 2) := by decide +kernel
theorem dX7_holds_106 : decode cX7_holds 106 = .ok (.iload 7, 2) := by decide +kernel
theorem dX7_holds_108 : decode cX7_holds 108 = .ok (.bipush 8, 2) := by decide +kernel
theorem dX7_holds_110 : decode cX7_holds 110 = .ok (.idiv, 1) := by decide +kernel
theorem dX7_holds_111 : decode cX7_holds 111 = .ok (.istore 11, 2) := by decide +kernel
theorem dX7_holds_113 : decode cX7_holds 113 = .ok (.iload 10, 2) := by decide +kernel
theorem dX7_holds_115 : decode cX7_holds 115 = .ok (.ifCond .ne 18, 3) := by decide +kernel
theorem dX7_holds_118 : decode cX7_holds 118 = .ok (.iload 9, 2) := by decide +kernel
theorem dX7_holds_120 : decode cX7_holds 120 = .ok (.iload 11, 2) := by decide +kernel
theorem dX7_holds_122 : decode cX7_holds 122 = .ok (.if_icmp .ge 7, 3) := by decide +kernel
theorem dX7_holds_125 : decode cX7_holds 125 = .ok (.iconst 1, 1) := by decide +kernel
theorem dX7_holds_126 : decode cX7_holds 126 = .ok (.goto 40, 3) := by decide +kernel
theorem dX7_holds_129 : decode cX7_holds 129 = .ok (.iconst 0, 1) := by decide +kernel
theorem dX7_holds_130 : decode cX7_holds 130 = .ok (.goto 36, 3) := by decide +kernel
theorem dX7_holds_133 : decode cX7_holds 133 = .ok (.iload 10, 2) := by decide +kernel
theorem dX7_holds_135 : decode cX7_holds 135 = .ok (.iconst 1, 1) := by decide +kernel
theorem dX7_holds_136 : decode cX7_holds 136 = .ok (.if_icmp .ne 18, 3) := by decide +kernel
theorem dX7_holds_139 : decode cX7_holds 139 = .ok (.iload 9, 2) := by decide +kernel
theorem dX7_holds_141 : decode cX7_holds 141 = .ok (.iload 11, 2) := by decide +kernel
theorem dX7_holds_143 : decode cX7_holds 143 = .ok (.if_icmp .ne 7, 3) := by decide +kernel
theorem dX7_holds_146 : decode cX7_holds 146 = .ok (.iconst 1, 1) := by decide +kernel
theorem dX7_holds_147 : decode cX7_holds 147 = .ok (.goto 19, 3) := by decide +kernel
theorem dX7_holds_150 : decode cX7_holds 150 = .ok (.iconst 0, 1) := by decide +kernel
theorem dX7_holds_151 : decode cX7_holds 151 = .ok (.goto 15, 3) := by decide +kernel
theorem dX7_holds_154 : decode cX7_holds 154 = .ok (.iload 9, 2) := by decide +kernel
theorem dX7_holds_156 : decode cX7_holds 156 = .ok (.iload 11, 2) := by decide +kernel
theorem dX7_holds_158 : decode cX7_holds 158 = .ok (.if_icmp .le 7, 3) := by decide +kernel
theorem dX7_holds_161 : decode cX7_holds 161 = .ok (.iconst 1, 1) := by decide +kernel
theorem dX7_holds_162 : decode cX7_holds 162 = .ok (.goto 4, 3) := by decide +kernel
theorem dX7_holds_165 : decode cX7_holds 165 = .ok (.iconst 0, 1) := by decide +kernel
theorem dX7_holds_166 : decode cX7_holds 166 = .ok (.istore 12, 2) := by decide +kernel
theorem dX7_holds_168 : decode cX7_holds 168 = .ok (.iload 5, 2) := by decide +kernel
theorem dX7_holds_170 : decode cX7_holds 170 = .ok (.iconst 1, 1) := by decide +kernel
theorem dX7_holds_171 : decode cX7_holds 171 = .ok (.ishl, 1) := by decide +kernel
theorem dX7_holds_172 : decode cX7_holds 172 = .ok (.iload 12, 2) := by decide +kernel
theorem dX7_holds_174 : decode cX7_holds 174 = .ok (.ifCond .eq 7, 3) := by decide +kernel
theorem dX7_holds_177 : decode cX7_holds 177 = .ok (.iconst 1, 1) := by decide +kernel
theorem dX7_holds_178 : decode cX7_holds 178 = .ok (.goto 4, 3) := by decide +kernel
theorem dX7_holds_181 : decode cX7_holds 181 = .ok (.iconst 0, 1) := by decide +kernel
theorem dX7_holds_182 : decode cX7_holds 182 = .ok (.ior, 1) := by decide +kernel
theorem dX7_holds_183 : decode cX7_holds 183 = .ok (.istore 5, 2) := by decide +kernel
theorem dX7_holds_185 : decode cX7_holds 185 = .ok (.iinc 6 1, 3) := by decide +kernel
theorem dX7_holds_188 : decode cX7_holds 188 = .ok (.goto (-182), 3) := by decide +kernel
theorem dX7_holds_191 : decode cX7_holds 191 = .ok (.iload 5, 2) := by decide +kernel
theorem dX7_holds_193 : decode cX7_holds 193 = .ok (.iconst 1, 1) := by decide +kernel
theorem dX7_holds_194 : decode cX7_holds 194 = .ok (.iand, 1) := by decide +kernel
theorem dX7_holds_195 : decode cX7_holds 195 = .ok (.iconst 1, 1) := by decide +kernel
theorem dX7_holds_196 : decode cX7_holds 196 = .ok (.if_icmp .ne 7, 3) := by decide +kernel
theorem dX7_holds_199 : decode cX7_holds 199 = .ok (.iconst 1, 1) := by decide +kernel
theorem dX7_holds_200 : decode cX7_holds 200 = .ok (.goto 4, 3) := by decide +kernel
theorem dX7_holds_203 : decode cX7_holds 203 = .ok (.iconst 0, 1) := by decide +kernel
theorem dX7_holds_204 : decode cX7_holds 204 = .ok (.ireturn, 1) := by decide +kernel
theorem dX7_knownOver_0 : decode cX7_knownOver 0 = .ok (.iconst 0, 1) := by decide +kernel
theorem dX7_knownOver_1 : decode cX7_knownOver 1 = .ok (.sipush 1000, 3) := by decide +kernel
theorem dX7_knownOver_4 : decode cX7_knownOver 4 = .ok (.aload_n 0, 1) := by decide +kernel
theorem dX7_knownOver_5 : decode cX7_knownOver 5 = .ok (.iconst 0, 1) := by decide +kernel
theorem dX7_knownOver_6 : decode cX7_knownOver 6 = .ok (.iload_n 2, 1) := by decide +kernel
theorem dX7_knownOver_7 : decode cX7_knownOver 7 = .ok (.iload_n 3, 1) := by decide +kernel
theorem dX7_knownOver_8 : decode cX7_knownOver 8 = .ok (.invokevirtual 127, 3) := by decide +kernel
theorem dX7_knownOver_11 : decode cX7_knownOver 11 = .ok (.iload 4, 2) := by decide +kernel
theorem dX7_knownOver_13 : decode cX7_knownOver 13 = .ok (.iadd, 1) := by decide +kernel
theorem dX7_knownOver_14 : decode cX7_knownOver 14 = .ok (.invokestatic 124, 3) := by decide +kernel
theorem dX7_knownOver_17 : decode cX7_knownOver 17 = .ok (.invokestatic 98, 3) := by decide +kernel
theorem dX7_knownOver_20 : decode cX7_knownOver 20 = .ok (.istore 5, 2) := by decide +kernel
theorem dX7_knownOver_22 : decode cX7_knownOver 22 = .ok (.iload_n 1, 1) := by decide +kernel
theorem dX7_knownOver_23 : decode cX7_knownOver 23 = .ok (.sipush 1000, 3) := by decide +kernel
theorem dX7_knownOver_26 : decode cX7_knownOver 26 = .ok (.iload 5, 2) := by decide +kernel
theorem dX7_knownOver_28 : decode cX7_knownOver 28 = .ok (.isub, 1) := by decide +kernel
theorem dX7_knownOver_29 : decode cX7_knownOver 29 = .ok (.imul, 1) := by decide +kernel
theorem dX7_knownOver_30 : decode cX7_knownOver 30 = .ok (.sipush 1000, 3) := by decide +kernel
theorem dX7_knownOver_33 : decode cX7_knownOver 33 = .ok (.idiv, 1) := by decide +kernel
theorem dX7_knownOver_34 : decode cX7_knownOver 34 = .ok (.ldc 131, 2) := by decide +kernel
theorem dX7_knownOver_36 : decode cX7_knownOver 36 = .ok (.iload_n 1, 1) := by decide +kernel
theorem dX7_knownOver_37 : decode cX7_knownOver 37 = .ok (.isub, 1) := by decide +kernel
theorem dX7_knownOver_38 : decode cX7_knownOver 38 = .ok (.aload_n 0, 1) := by decide +kernel
theorem dX7_knownOver_39 : decode cX7_knownOver 39 = .ok (.iconst 1, 1) := by decide +kernel
theorem dX7_knownOver_40 : decode cX7_knownOver 40 = .ok (.iload_n 2, 1) := by decide +kernel
theorem dX7_knownOver_41 : decode cX7_knownOver 41 = .ok (.iload_n 3, 1) := by decide +kernel
theorem dX7_knownOver_42 : decode cX7_knownOver 42 = .ok (.invokevirtual 127, 3) := by decide +kernel
theorem dX7_knownOver_45 : decode cX7_knownOver 45 = .ok (.imul, 1) := by decide +kernel
theorem dX7_knownOver_46 : decode cX7_knownOver 46 = .ok (.sipush 1000, 3) := by decide +kernel
theorem dX7_knownOver_49 : decode cX7_knownOver 49 = .ok (.idiv, 1) := by decide +kernel
theorem dX7_knownOver_50 : decode cX7_knownOver 50 = .ok (.iadd, 1) := by decide +kernel
theorem dX7_knownOver_51 : decode cX7_knownOver 51 = .ok (.ireturn, 1) := by decide +kernel
theorem dX7_bringsBy_0 : decode cX7_bringsBy 0 = .ok (.iload_n 1, 1) := by decide +kernel
theorem dX7_bringsBy_1 : decode cX7_bringsBy 1 = .ok (.aload_n 0, 1) := by decide +kernel
theorem dX7_bringsBy_2 : decode cX7_bringsBy 2 = .ok (.getfield 9, 3) := by decide +kernel
theorem dX7_bringsBy_5 : decode cX7_bringsBy 5 = .ok (.iconst 2, 1) := by decide +kernel
theorem dX7_bringsBy_6 : decode cX7_bringsBy 6 = .ok (.iaload, 1) := by decide +kernel
theorem dX7_bringsBy_7 : decode cX7_bringsBy 7 = .ok (.imul, 1) := by decide +kernel
theorem dX7_bringsBy_8 : decode cX7_bringsBy 8 = .ok (.sipush 1000, 3) := by decide +kernel
theorem dX7_bringsBy_11 : decode cX7_bringsBy 11 = .ok (.idiv, 1) := by decide +kernel
theorem dX7_bringsBy_12 : decode cX7_bringsBy 12 = .ok (.ldc 131, 2) := by decide +kernel
theorem dX7_bringsBy_14 : decode cX7_bringsBy 14 = .ok (.iload_n 1, 1) := by decide +kernel
theorem dX7_bringsBy_15 : decode cX7_bringsBy 15 = .ok (.isub, 1) := by decide +kernel
theorem dX7_bringsBy_16 : decode cX7_bringsBy 16 = .ok (.aload_n 0, 1) := by decide +kernel
theorem dX7_bringsBy_17 : decode cX7_bringsBy 17 = .ok (.getfield 9, 3) := by decide +kernel
theorem dX7_bringsBy_20 : decode cX7_bringsBy 20 = .ok (.iconst 3, 1) := by decide +kernel
theorem dX7_bringsBy_21 : decode cX7_bringsBy 21 = .ok (.iaload, 1) := by decide +kernel
theorem dX7_bringsBy_22 : decode cX7_bringsBy 22 = .ok (.imul, 1) := by decide +kernel
theorem dX7_bringsBy_23 : decode cX7_bringsBy 23 = .ok (.sipush 1000, 3) := by decide +kernel
theorem dX7_bringsBy_26 : decode cX7_bringsBy 26 = .ok (.idiv, 1) := by decide +kernel
theorem dX7_bringsBy_27 : decode cX7_bringsBy 27 = .ok (.isub, 1) := by decide +kernel
theorem dX7_bringsBy_28 : decode cX7_bringsBy 28 = .ok (.ireturn, 1) := by decide +kernel
theorem dX7_lookCost_0 : decode cX7_lookCost 0 = .ok (.aload_n 0, 1) := by decide +kernel
theorem dX7_lookCost_1 : decode cX7_lookCost 1 = .ok (.getfield 9, 3) := by decide +kernel
theorem dX7_lookCost_4 : decode cX7_lookCost 4 = .ok (.iconst 4, 1) := by decide +kernel
theorem dX7_lookCost_5 : decode cX7_lookCost 5 = .ok (.iaload, 1) := by decide +kernel
theorem dX7_lookCost_6 : decode cX7_lookCost 6 = .ok (.i2l, 1) := by decide +kernel
theorem dX7_lookCost_7 : decode cX7_lookCost 7 = .ok (.ldc2_w 132, 3) := by decide +kernel
theorem dX7_lookCost_10 : decode cX7_lookCost 10 = .ok (.lmul, 1) := by decide +kernel
theorem dX7_lookCost_11 : decode cX7_lookCost 11 = .ok (.lreturn, 1) := by decide +kernel
theorem dX7_mendCost_0 : decode cX7_mendCost 0 = .ok (.aload_n 0, 1) := by decide +kernel
theorem dX7_mendCost_1 : decode cX7_mendCost 1 = .ok (.getfield 9, 3) := by decide +kernel
theorem dX7_mendCost_4 : decode cX7_mendCost 4 = .ok (.iconst 5, 1) := by decide +kernel
theorem dX7_mendCost_5 : decode cX7_mendCost 5 = .ok (.iaload, 1) := by decide +kernel
theorem dX7_mendCost_6 : decode cX7_mendCost 6 = .ok (.i2l, 1) := by decide +kernel
theorem dX7_mendCost_7 : decode cX7_mendCost 7 = .ok (.ldc2_w 132, 3) := by decide +kernel
theorem dX7_mendCost_10 : decode cX7_mendCost 10 = .ok (.lmul, 1) := by decide +kernel
theorem dX7_mendCost_11 : decode cX7_mendCost 11 = .ok (.lreturn, 1) := by decide +kernel
theorem dX7_mends_0 : decode cX7_mends 0 = .ok (.aload_n 0, 1) := by decide +kernel
theorem dX7_mends_1 : decode cX7_mends 1 = .ok (.getfield 9, 3) := by decide +kernel
theorem dX7_mends_4 : decode cX7_mends 4 = .ok (.iconst 5, 1) := by decide +kernel
theorem dX7_mends_5 : decode cX7_mends 5 = .ok (.iaload, 1) := by decide +kernel
theorem dX7_mends_6 : decode cX7_mends 6 = .ok (.ifCond .le 7, 3) := by decide +kernel
theorem dX7_mends_9 : decode cX7_mends 9 = .ok (.iconst 1, 1) := by decide +kernel
theorem dX7_mends_10 : decode cX7_mends 10 = .ok (.goto 4, 3) := by decide +kernel
theorem dX7_mends_13 : decode cX7_mends 13 = .ok (.iconst 0, 1) := by decide +kernel
theorem dX7_mends_14 : decode cX7_mends 14 = .ok (.ireturn, 1) := by decide +kernel
theorem dX8_init_0 : decode cX8_init 0 = .ok (.aload_n 0, 1) := by decide +kernel
theorem dX8_init_1 : decode cX8_init 1 = .ok (.iload_n 1, 1) := by decide +kernel
theorem dX8_init_2 : decode cX8_init 2 = .ok (.iload_n 2, 1) := by decide +kernel
theorem dX8_init_3 : decode cX8_init 3 = .ok (.invokespecial 1, 3) := by decide +kernel
theorem dX8_init_6 : decode cX8_init 6 = .ok (.return_, 1) := by decide +kernel
theorem dX8_chosen_0 : decode cX8_chosen 0 = .ok (.aload_n 1, 1) := by decide +kernel
theorem dX8_chosen_1 : decode cX8_chosen 1 = .ok (.getfield 7, 3) := by decide +kernel
theorem dX8_chosen_4 : decode cX8_chosen 4 = .ok (.astore 4, 2) := by decide +kernel
theorem dX8_chosen_6 : decode cX8_chosen 6 = .ok (.aload 4, 2) := by decide +kernel
theorem dX8_chosen_8 : decode cX8_chosen 8 = .ok (.getfield 13, 3) := by decide +kernel
theorem dX8_chosen_11 : decode cX8_chosen 11 = .ok (.aload_n 0, 1) := by decide +kernel
theorem dX8_chosen_12 : decode cX8_chosen 12 = .ok (.getfield 19, 3) := by decide +kernel
theorem dX8_chosen_15 : decode cX8_chosen 15 = .ok (.iaload, 1) := by decide +kernel
theorem dX8_chosen_16 : decode cX8_chosen 16 = .ok (.istore 5, 2) := by decide +kernel
theorem dX8_chosen_18 : decode cX8_chosen 18 = .ok (.iload 5, 2) := by decide +kernel
theorem dX8_chosen_20 : decode cX8_chosen 20 = .ok (.ifCond .ne 5, 3) := by decide +kernel
theorem dX8_chosen_23 : decode cX8_chosen 23 = .ok (.iconst 0, 1) := by decide +kernel
theorem dX8_chosen_24 : decode cX8_chosen 24 = .ok (.ireturn, 1) := by decide +kernel
theorem dX8_chosen_25 : decode cX8_chosen 25 = .ok (.aload 4, 2) := by decide +kernel
theorem dX8_chosen_27 : decode cX8_chosen 27 = .ok (.getfield 25, 3) := by decide +kernel
theorem dX8_chosen_30 : decode cX8_chosen 30 = .ok (.aload_n 0, 1) := by decide +kernel
theorem dX8_chosen_31 : decode cX8_chosen 31 = .ok (.getfield 19, 3) := by decide +kernel
theorem dX8_chosen_34 : decode cX8_chosen 34 = .ok (.aaload, 1) := by decide +kernel
theorem dX8_chosen_35 : decode cX8_chosen 35 = .ok (.iload_n 3, 1) := by decide +kernel
theorem dX8_chosen_36 : decode cX8_chosen 36 = .ok (.iload 5, 2) := by decide +kernel
theorem dX8_chosen_38 : decode cX8_chosen 38 = .ok (.irem, 1) := by decide +kernel
theorem dX8_chosen_39 : decode cX8_chosen 39 = .ok (.iaload, 1) := by decide +kernel
theorem dX8_chosen_40 : decode cX8_chosen 40 = .ok (.istore 6, 2) := by decide +kernel
theorem dX8_chosen_42 : decode cX8_chosen 42 = .ok (.iload 6, 2) := by decide +kernel
theorem dX8_chosen_44 : decode cX8_chosen 44 = .ok (.invokestatic 29, 3) := by decide +kernel
theorem dX8_chosen_47 : decode cX8_chosen 47 = .ok (.aload 4, 2) := by decide +kernel
theorem dX8_chosen_49 : decode cX8_chosen 49 = .ok (.getfield 35, 3) := by decide +kernel
theorem dX8_chosen_52 : decode cX8_chosen 52 = .ok (.isub, 1) := by decide +kernel
theorem dX8_chosen_53 : decode cX8_chosen 53 = .ok (.istore 7, 2) := by decide +kernel
theorem dX8_chosen_55 : decode cX8_chosen 55 = .ok (.iload 7, 2) := by decide +kernel
theorem dX8_chosen_57 : decode cX8_chosen 57 = .ok (.ifCond .le 21, 3) := by decide +kernel
theorem dX8_chosen_60 : decode cX8_chosen 60 = .ok (.iload 6, 2) := by decide +kernel
theorem dX8_chosen_62 : decode cX8_chosen 62 = .ok (.iload 6, 2) := by decide +kernel
theorem dX8_chosen_64 : decode cX8_chosen 64 = .ok (.invokestatic 38, 3) := by decide +kernel
theorem dX8_chosen_67 : decode cX8_chosen 67 = .ok (.iconst (-1), 1) := by decide +kernel
theorem dX8_chosen_68 : decode cX8_chosen 68 = .ok (.ixor, 1) := by decide +kernel
theorem dX8_chosen_69 : decode cX8_chosen 69 = .ok (.iand, 1) := by decide +kernel
theorem dX8_chosen_70 : decode cX8_chosen 70 = .ok (.istore 6, 2) := by decide +kernel
theorem dX8_chosen_72 : decode cX8_chosen 72 = .ok (.iinc 7 (-1), 3) := by decide +kernel
theorem dX8_chosen_75 : decode cX8_chosen 75 = .ok (.goto (-20), 3) := by decide +kernel
theorem dX8_chosen_78 : decode cX8_chosen 78 = .ok (.iload 6, 2) := by decide +kernel
theorem dX8_chosen_80 : decode cX8_chosen 80 = .ok (.ireturn, 1) := by decide +kernel
theorem dX8_means_0 : decode cX8_means 0 = .ok (.aload_n 2, 1) := by decide +kernel
theorem dX8_means_1 : decode cX8_means 1 = .ok (.bipush 61, 2) := by decide +kernel
theorem dX8_means_3 : decode cX8_means 3 = .ok (.invokestatic 41, 3) := by decide +kernel
theorem dX8_means_6 : decode cX8_means 6 = .ok (.aload_n 0, 1) := by decide +kernel
theorem dX8_means_7 : decode cX8_means 7 = .ok (.iload_n 1, 1) := by decide +kernel
theorem dX8_means_8 : decode cX8_means 8 = .ok (.aload_n 2, 1) := by decide +kernel
theorem dX8_means_9 : decode cX8_means 9 = .ok (.invokespecial 45, 3) := by decide +kernel
theorem dX8_means_12 : decode cX8_means 12 = .ok (.aload_n 0, 1) := by decide +kernel
theorem dX8_means_13 : decode cX8_means 13 = .ok (.getfield 49, 3) := by decide +kernel
theorem dX8_means_16 : decode cX8_means 16 = .ok (.iadd, 1) := by decide +kernel
theorem dX8_means_17 : decode cX8_means 17 = .ok (.ireturn, 1) := by decide +kernel
theorem dX9_init_0 : decode cX9_init 0 = .ok (.aload_n 0, 1) := by decide +kernel
theorem dX9_init_1 : decode cX9_init 1 = .ok (.invokespecial 3, 3) := by decide +kernel
theorem dX9_init_4 : decode cX9_init 4 = .ok (.aload_n 0, 1) := by decide +kernel
theorem dX9_init_5 : decode cX9_init 5 = .ok (.bipush 11, 2) := by decide +kernel
theorem dX9_init_7 : decode cX9_init 7 = .ok (.bipush 8, 2) := by decide +kernel
theorem dX9_init_9 : decode cX9_init 9 = .ok (.multianewarray 9 2, 4) := by decide +kernel
theorem dX9_init_13 : decode cX9_init 13 = .ok (.putfield 11, 3) := by decide +kernel
theorem dX9_init_16 : decode cX9_init 16 = .ok (.aload_n 0, 1) := by decide +kernel
theorem dX9_init_17 : decode cX9_init 17 = .ok (.aconst_null, 1) := by decide +kernel
theorem dX9_init_18 : decode cX9_init 18 = .ok (.putfield 16, 3) := by decide +kernel
theorem dX9_init_21 : decode cX9_init 21 = .ok (.aload_n 0, 1) := by decide +kernel
theorem dX9_init_22 : decode cX9_init 22 = .ok (.iconst 3, 1) := by decide +kernel
theorem dX9_init_23 : decode cX9_init 23 = .ok (.newarray .int, 2) := by decide +kernel
theorem dX9_init_25 : decode cX9_init 25 = .ok (.putfield 20, 3) := by decide +kernel
theorem dX9_init_28 : decode cX9_init 28 = .ok (.aload_n 0, 1) := by decide +kernel
theorem dX9_init_29 : decode cX9_init 29 = .ok (.iconst 0, 1) := by decide +kernel
theorem dX9_init_30 : decode cX9_init 30 = .ok (.putfield 24, 3) := by decide +kernel
theorem dX9_init_33 : decode cX9_init 33 = .ok (.aload_n 0, 1) := by decide +kernel
theorem dX9_init_34 : decode cX9_init 34 = .ok (.bipush 56, 2) := by decide +kernel
theorem dX9_init_36 : decode cX9_init 36 = .ok (.newarray .int, 2) := by decide +kernel
theorem dX9_init_38 : decode cX9_init 38 = .ok (.putfield 28, 3) := by decide +kernel
theorem dX9_init_41 : decode cX9_init 41 = .ok (.aload_n 0, 1) := by decide +kernel
theorem dX9_init_42 : decode cX9_init 42 = .ok (.iconst 0, 1) := by decide +kernel
theorem dX9_init_43 : decode cX9_init 43 = .ok (.putfield 31, 3) := by decide +kernel
theorem dX9_init_46 : decode cX9_init 46 = .ok (.aload_n 0, 1) := by decide +kernel
theorem dX9_init_47 : decode cX9_init 47 = .ok (.iconst 0, 1) := by decide +kernel
theorem dX9_init_48 : decode cX9_init 48 = .ok (.putfield 34, 3) := by decide +kernel
theorem dX9_init_51 : decode cX9_init 51 = .ok (.aload_n 0, 1) := by decide +kernel
theorem dX9_init_52 : decode cX9_init 52 = .ok (.iconst 0, 1) := by decide +kernel
theorem dX9_init_53 : decode cX9_init 53 = .ok (.putfield 37, 3) := by decide +kernel
theorem dX9_init_56 : decode cX9_init 56 = .ok (.aload_n 0, 1) := by decide +kernel
theorem dX9_init_57 : decode cX9_init 57 = .ok (.iconst 3, 1) := by decide +kernel
theorem dX9_init_58 : decode cX9_init 58 = .ok (.newarray .int, 2) := by decide +kernel
theorem dX9_init_60 : decode cX9_init 60 = .ok (.putfield 40, 3) := by decide +kernel
theorem dX9_init_63 : decode cX9_init 63 = .ok (.aload_n 0, 1) := by decide +kernel
theorem dX9_init_64 : decode cX9_init 64 = .ok (.aload_n 1, 1) := by decide +kernel
theorem dX9_init_65 : decode cX9_init 65 = .ok (.putfield 43, 3) := by decide +kernel
theorem dX9_init_68 : decode cX9_init 68 = .ok (.aload_n 0, 1) := by decide +kernel
theorem dX9_init_69 : decode cX9_init 69 = .ok (.aload_n 1, 1) := by decide +kernel
theorem dX9_init_70 : decode cX9_init 70 = .ok (.getfield 47, 3) := by decide +kernel
theorem dX9_init_73 : decode cX9_init 73 = .ok (.putfield 53, 3) := by decide +kernel
theorem dX9_init_76 : decode cX9_init 76 = .ok (.return_, 1) := by decide +kernel
theorem dX9_begin_0 : decode cX9_begin 0 = .ok (.aload_n 0, 1) := by decide +kernel
theorem dX9_begin_1 : decode cX9_begin 1 = .ok (.getfield 11, 3) := by decide +kernel
theorem dX9_begin_4 : decode cX9_begin 4 = .ok (.iconst 0, 1) := by decide +kernel
theorem dX9_begin_5 : decode cX9_begin 5 = .ok (.aaload, 1) := by decide +kernel
theorem dX9_begin_6 : decode cX9_begin 6 = .ok (.iconst 0, 1) := by decide +kernel
theorem dX9_begin_7 : decode cX9_begin 7 = .ok (.invokestatic 54, 3) := by decide +kernel
theorem dX9_begin_10 : decode cX9_begin 10 = .ok (.aload_n 0, 1) := by decide +kernel
theorem dX9_begin_11 : decode cX9_begin 11 = .ok (.iload_n 1, 1) := by decide +kernel
theorem dX9_begin_12 : decode cX9_begin 12 = .ok (.iconst 3, 1) := by decide +kernel
theorem dX9_begin_13 : decode cX9_begin 13 = .ok (.invokestatic 60, 3) := by decide +kernel
theorem dX9_begin_16 : decode cX9_begin 16 = .ok (.putfield 34, 3) := by decide +kernel
theorem dX9_begin_19 : decode cX9_begin 19 = .ok (.return_, 1) := by decide +kernel
theorem dX9_meanOf_0 : decode cX9_meanOf 0 = .ok (.aload_n 0, 1) := by decide +kernel
theorem dX9_meanOf_1 : decode cX9_meanOf 1 = .ok (.aload_n 1, 1) := by decide +kernel
theorem dX9_meanOf_2 : decode cX9_meanOf 2 = .ok (.putfield 16, 3) := by decide +kernel
theorem dX9_meanOf_5 : decode cX9_meanOf 5 = .ok (.aload_n 0, 1) := by decide +kernel
theorem dX9_meanOf_6 : decode cX9_meanOf 6 = .ok (.iload_n 2, 1) := by decide +kernel
theorem dX9_meanOf_7 : decode cX9_meanOf 7 = .ok (.invokevirtual 66, 3) := by decide +kernel
theorem dX9_meanOf_10 : decode cX9_meanOf 10 = .ok (.aload_n 0, 1) := by decide +kernel
theorem dX9_meanOf_11 : decode cX9_meanOf 11 = .ok (.iconst 0, 1) := by decide +kernel
theorem dX9_meanOf_12 : decode cX9_meanOf 12 = .ok (.invokevirtual 70, 3) := by decide +kernel
theorem dX9_meanOf_15 : decode cX9_meanOf 15 = .ok (.lreturn, 1) := by decide +kernel
theorem dX9_greatestMean_0 : decode cX9_greatestMean 0 = .ok (.aload_n 0, 1) := by decide +kernel
theorem dX9_greatestMean_1 : decode cX9_greatestMean 1 = .ok (.aconst_null, 1) := by decide +kernel
theorem dX9_greatestMean_2 : decode cX9_greatestMean 2 = .ok (.putfield 16, 3) := by decide +kernel
theorem dX9_greatestMean_5 : decode cX9_greatestMean 5 = .ok (.aload_n 0, 1) := by decide +kernel
theorem dX9_greatestMean_6 : decode cX9_greatestMean 6 = .ok (.iconst 0, 1) := by decide +kernel
theorem dX9_greatestMean_7 : decode cX9_greatestMean 7 = .ok (.putfield 24, 3) := by decide +kernel
theorem dX9_greatestMean_10 : decode cX9_greatestMean 10 = .ok (.aload_n 0, 1) := by decide +kernel
theorem dX9_greatestMean_11 : decode cX9_greatestMean 11 = .ok (.iload_n 1, 1) := by decide +kernel
theorem dX9_greatestMean_12 : decode cX9_greatestMean 12 = .ok (.invokevirtual 66, 3) := by decide +kernel
theorem dX9_greatestMean_15 : decode cX9_greatestMean 15 = .ok (.aload_n 0, 1) := by decide +kernel
theorem dX9_greatestMean_16 : decode cX9_greatestMean 16 = .ok (.invokevirtual 74, 3) := by decide +kernel
theorem dX9_greatestMean_19 : decode cX9_greatestMean 19 = .ok (.aload_n 0, 1) := by decide +kernel
theorem dX9_greatestMean_20 : decode cX9_greatestMean 20 = .ok (.iconst 0, 1) := by decide +kernel
theorem dX9_greatestMean_21 : decode cX9_greatestMean 21 = .ok (.invokevirtual 70, 3) := by decide +kernel
theorem dX9_greatestMean_24 : decode cX9_greatestMean 24 = .ok (.lreturn, 1) := by decide +kernel
theorem dX9_gatherSets_0 : decode cX9_gatherSets 0 = .ok (.aload_n 0, 1) := by decide +kernel
theorem dX9_gatherSets_1 : decode cX9_gatherSets 1 = .ok (.getfield 53, 3) := by decide +kernel
theorem dX9_gatherSets_4 : decode cX9_gatherSets 4 = .ok (.invokevirtual 77, 3) := by decide +kernel
theorem dX9_gatherSets_7 : decode cX9_gatherSets 7 = .ok (.istore_n 1, 1) := by decide +kernel
theorem dX9_gatherSets_8 : decode cX9_gatherSets 8 = .ok (.aload_n 0, 1) := by decide +kernel
theorem dX9_gatherSets_9 : decode cX9_gatherSets 9 = .ok (.iconst 0, 1) := by decide +kernel
theorem dX9_gatherSets_10 : decode cX9_gatherSets 10 = .ok (.putfield 31, 3) := by decide +kernel
theorem dX9_gatherSets_13 : decode cX9_gatherSets 13 = .ok (.iconst 0, 1) := by decide +kernel
theorem dX9_gatherSets_14 : decode cX9_gatherSets 14 = .ok (.istore_n 2, 1) := by decide +kernel
theorem dX9_gatherSets_15 : decode cX9_gatherSets 15 = .ok (.iload_n 2, 1) := by decide +kernel
theorem dX9_gatherSets_16 : decode cX9_gatherSets 16 = .ok (.iconst 1, 1) := by decide +kernel
theorem dX9_gatherSets_17 : decode cX9_gatherSets 17 = .ok (.aload_n 0, 1) := by decide +kernel
theorem dX9_gatherSets_18 : decode cX9_gatherSets 18 = .ok (.getfield 53, 3) := by decide +kernel
theorem dX9_gatherSets_21 : decode cX9_gatherSets 21 = .ok (.getfield 83, 3) := by decide +kernel
theorem dX9_gatherSets_24 : decode cX9_gatherSets 24 = .ok (.ishl, 1) := by decide +kernel
theorem dX9_gatherSets_25 : decode cX9_gatherSets 25 = .ok (.if_icmp .ge 46, 3) := by decide +kernel
theorem dX9_gatherSets_28 : decode cX9_gatherSets 28 = .ok (.iload_n 2, 1) := by decide +kernel
theorem dX9_gatherSets_29 : decode cX9_gatherSets 29 = .ok (.invokestatic 86, 3) := by decide +kernel
theorem dX9_gatherSets_32 : decode cX9_gatherSets 32 = .ok (.iload_n 1, 1) := by decide +kernel
theorem dX9_gatherSets_33 : decode cX9_gatherSets 33 = .ok (.if_icmp .ne 32, 3) := by decide +kernel
theorem dX9_gatherSets_36 : decode cX9_gatherSets 36 = .ok (.aload_n 0, 1) := by decide +kernel
theorem dX9_gatherSets_37 : decode cX9_gatherSets 37 = .ok (.getfield 31, 3) := by decide +kernel
theorem dX9_gatherSets_40 : decode cX9_gatherSets 40 = .ok (.bipush 56, 2) := by decide +kernel
theorem dX9_gatherSets_42 : decode cX9_gatherSets 42 = .ok (.if_icmp .ge 23, 3) := by decide +kernel
theorem dX9_gatherSets_45 : decode cX9_gatherSets 45 = .ok (.aload_n 0, 1) := by decide +kernel
theorem dX9_gatherSets_46 : decode cX9_gatherSets 46 = .ok (.getfield 28, 3) := by decide +kernel
theorem dX9_gatherSets_49 : decode cX9_gatherSets 49 = .ok (.aload_n 0, 1) := by decide +kernel
theorem dX9_gatherSets_50 : decode cX9_gatherSets 50 = .ok (.getfield 31, 3) := by decide +kernel
theorem dX9_gatherSets_53 : decode cX9_gatherSets 53 = .ok (.iload_n 2, 1) := by decide +kernel
theorem dX9_gatherSets_54 : decode cX9_gatherSets 54 = .ok (.iastore, 1) := by decide +kernel
theorem dX9_gatherSets_55 : decode cX9_gatherSets 55 = .ok (.aload_n 0, 1) := by decide +kernel
theorem dX9_gatherSets_56 : decode cX9_gatherSets 56 = .ok (.dup, 1) := by decide +kernel
theorem dX9_gatherSets_57 : decode cX9_gatherSets 57 = .ok (.getfield 31, 3) := by decide +kernel
theorem dX9_gatherSets_60 : decode cX9_gatherSets 60 = .ok (.iconst 1, 1) := by decide +kernel
theorem dX9_gatherSets_61 : decode cX9_gatherSets 61 = .ok (.iadd, 1) := by decide +kernel
theorem dX9_gatherSets_62 : decode cX9_gatherSets 62 = .ok (.putfield 31, 3) := by decide +kernel
theorem dX9_gatherSets_65 : decode cX9_gatherSets 65 = .ok (.iinc 2 1, 3) := by decide +kernel
theorem dX9_gatherSets_68 : decode cX9_gatherSets 68 = .ok (.goto (-53), 3) := by decide +kernel
theorem dX9_gatherSets_71 : decode cX9_gatherSets 71 = .ok (.return_, 1) := by decide +kernel
theorem dX9_greatestRound_0 : decode cX9_greatestRound 0 = .ok (.aload_n 0, 1) := by decide +kernel
theorem dX9_greatestRound_1 : decode cX9_greatestRound 1 = .ok (.aconst_null, 1) := by decide +kernel
theorem dX9_greatestRound_2 : decode cX9_greatestRound 2 = .ok (.putfield 16, 3) := by decide +kernel
theorem dX9_greatestRound_5 : decode cX9_greatestRound 5 = .ok (.aload_n 0, 1) := by decide +kernel
theorem dX9_greatestRound_6 : decode cX9_greatestRound 6 = .ok (.iconst 1, 1) := by decide +kernel
theorem dX9_greatestRound_7 : decode cX9_greatestRound 7 = .ok (.iload_n 1, 1) := by decide +kernel
theorem dX9_greatestRound_8 : decode cX9_greatestRound 8 = .ok (.iconst 3, 1) := by decide +kernel
theorem dX9_greatestRound_9 : decode cX9_greatestRound 9 = .ok (.invokestatic 60, 3) := by decide +kernel
theorem dX9_greatestRound_12 : decode cX9_greatestRound 12 = .ok (.invokestatic 92, 3) := by decide +kernel
theorem dX9_greatestRound_15 : decode cX9_greatestRound 15 = .ok (.putfield 24, 3) := by decide +kernel
theorem dX9_greatestRound_18 : decode cX9_greatestRound 18 = .ok (.aload_n 0, 1) := by decide +kernel
theorem dX9_greatestRound_19 : decode cX9_greatestRound 19 = .ok (.iconst 3, 1) := by decide +kernel
theorem dX9_greatestRound_20 : decode cX9_greatestRound 20 = .ok (.invokevirtual 66, 3) := by decide +kernel
theorem dX9_greatestRound_23 : decode cX9_greatestRound 23 = .ok (.iconst 1, 1) := by decide +kernel
theorem dX9_greatestRound_24 : decode cX9_greatestRound 24 = .ok (.istore_n 2, 1) := by decide +kernel
theorem dX9_greatestRound_25 : decode cX9_greatestRound 25 = .ok (.iconst 0, 1) := by decide +kernel
theorem dX9_greatestRound_26 : decode cX9_greatestRound 26 = .ok (.istore_n 3, 1) := by decide +kernel
theorem dX9_greatestRound_27 : decode cX9_greatestRound 27 = .ok (.iload_n 3, 1) := by decide +kernel
theorem dX9_greatestRound_28 : decode cX9_greatestRound 28 = .ok (.aload_n 0, 1) := by decide +kernel
theorem dX9_greatestRound_29 : decode cX9_greatestRound 29 = .ok (.getfield 24, 3) := by decide +kernel
theorem dX9_greatestRound_32 : decode cX9_greatestRound 32 = .ok (.if_icmp .ge 19, 3) := by decide +kernel
theorem dX9_greatestRound_35 : decode cX9_greatestRound 35 = .ok (.iload_n 2, 1) := by decide +kernel
theorem dX9_greatestRound_36 : decode cX9_greatestRound 36 = .ok (.aload_n 0, 1) := by decide +kernel
theorem dX9_greatestRound_37 : decode cX9_greatestRound 37 = .ok (.getfield 53, 3) := by decide +kernel
theorem dX9_greatestRound_40 : decode cX9_greatestRound 40 = .ok (.getfield 83, 3) := by decide +kernel
theorem dX9_greatestRound_43 : decode cX9_greatestRound 43 = .ok (.imul, 1) := by decide +kernel
theorem dX9_greatestRound_44 : decode cX9_greatestRound 44 = .ok (.istore_n 2, 1) := by decide +kernel
theorem dX9_greatestRound_45 : decode cX9_greatestRound 45 = .ok (.iinc 3 1, 3) := by decide +kernel
theorem dX9_greatestRound_48 : decode cX9_greatestRound 48 = .ok (.goto (-21), 3) := by decide +kernel
theorem dX9_greatestRound_51 : decode cX9_greatestRound 51 = .ok (.ldc2_w 95, 3) := by decide +kernel
theorem dX9_greatestRound_54 : decode cX9_greatestRound 54 = .ok (.lstore_n 3, 1) := by decide +kernel
theorem dX9_greatestRound_55 : decode cX9_greatestRound 55 = .ok (.iconst 0, 1) := by decide +kernel
theorem dX9_greatestRound_56 : decode cX9_greatestRound 56 = .ok (.istore 5, 2) := by decide +kernel
theorem dX9_greatestRound_58 : decode cX9_greatestRound 58 = .ok (.iload 5, 2) := by decide +kernel
theorem dX9_greatestRound_60 : decode cX9_greatestRound 60 = .ok (.iload_n 2, 1) := by decide +kernel
theorem dX9_greatestRound_61 : decode cX9_greatestRound 61 = .ok (.if_icmp .ge 49, 3) := by decide +kernel
theorem dX9_greatestRound_64 : decode cX9_greatestRound 64 = .ok (.aload_n 0, 1) := by decide +kernel
theorem dX9_greatestRound_65 : decode cX9_greatestRound 65 = .ok (.iload 5, 2) := by decide +kernel
theorem dX9_greatestRound_67 : decode cX9_greatestRound 67 = .ok (.invokevirtual 97, 3) := by decide +kernel
theorem dX9_greatestRound_70 : decode cX9_greatestRound 70 = .ok (.aload_n 0, 1) := by decide +kernel
theorem dX9_greatestRound_71 : decode cX9_greatestRound 71 = .ok (.iconst 0, 1) := by decide +kernel
theorem dX9_greatestRound_72 : decode cX9_greatestRound 72 = .ok (.invokevirtual 70, 3) := by decide +kernel
theorem dX9_greatestRound_75 : decode cX9_greatestRound 75 = .ok (.lstore 6, 2) := by decide +kernel
theorem dX9_greatestRound_77 : decode cX9_greatestRound 77 = .ok (.lload 6, 2) := by decide +kernel
theorem dX9_greatestRound_79 : decode cX9_greatestRound 79 = .ok (.lload_n 3, 1) := by decide +kernel
theorem dX9_greatestRound_80 : decode cX9_greatestRound 80 = .ok (.lcmp, 1) := by decide +kernel
theorem dX9_greatestRound_81 : decode cX9_greatestRound 81 = .ok (.ifCond .le 23, 3) := by decide +kernel
theorem dX9_greatestRound_84 : decode cX9_greatestRound 84 = .ok (.lload 6, 2) := by decide +kernel
theorem dX9_greatestRound_86 : decode cX9_greatestRound 86 = .ok (.lstore_n 3, 1) := by decide +kernel
theorem dX9_greatestRound_87 : decode cX9_greatestRound 87 = .ok (.aload_n 0, 1) := by decide +kernel
theorem dX9_greatestRound_88 : decode cX9_greatestRound 88 = .ok (.getfield 20, 3) := by decide +kernel
theorem dX9_greatestRound_91 : decode cX9_greatestRound 91 = .ok (.iconst 0, 1) := by decide +kernel
theorem dX9_greatestRound_92 : decode cX9_greatestRound 92 = .ok (.aload_n 0, 1) := by decide +kernel
theorem dX9_greatestRound_93 : decode cX9_greatestRound 93 = .ok (.getfield 40, 3) := by decide +kernel
theorem dX9_greatestRound_96 : decode cX9_greatestRound 96 = .ok (.iconst 0, 1) := by decide +kernel
theorem dX9_greatestRound_97 : decode cX9_greatestRound 97 = .ok (.aload_n 0, 1) := by decide +kernel
theorem dX9_greatestRound_98 : decode cX9_greatestRound 98 = .ok (.getfield 24, 3) := by decide +kernel
theorem dX9_greatestRound_101 : decode cX9_greatestRound 101 = .ok (.invokestatic 100, 3) := by decide +kernel
theorem dX9_greatestRound_104 : decode cX9_greatestRound 104 = .ok (.iinc 5 1, 3) := by decide +kernel
theorem dX9_greatestRound_107 : decode cX9_greatestRound 107 = .ok (.goto (-49), 3) := by decide +kernel
theorem dX9_greatestRound_110 : decode cX9_greatestRound 110 = .ok (.lload_n 3, 1) := by decide +kernel
theorem dX9_greatestRound_111 : decode cX9_greatestRound 111 = .ok (.lreturn, 1) := by decide +kernel
theorem dX9_spellRow_0 : decode cX9_spellRow 0 = .ok (.iload_n 1, 1) := by decide +kernel
theorem dX9_spellRow_1 : decode cX9_spellRow 1 = .ok (.istore_n 2, 1) := by decide +kernel
theorem dX9_spellRow_2 : decode cX9_spellRow 2 = .ok (.aload_n 0, 1) := by decide +kernel
theorem dX9_spellRow_3 : decode cX9_spellRow 3 = .ok (.getfield 24, 3) := by decide +kernel
theorem dX9_spellRow_6 : decode cX9_spellRow 6 = .ok (.iconst 1, 1) := by decide +kernel
theorem dX9_spellRow_7 : decode cX9_spellRow 7 = .ok (.isub, 1) := by decide +kernel
theorem dX9_spellRow_8 : decode cX9_spellRow 8 = .ok (.istore_n 3, 1) := by decide +kernel
theorem dX9_spellRow_9 : decode cX9_spellRow 9 = .ok (.iload_n 3, 1) := by decide +kernel
theorem dX9_spellRow_10 : decode cX9_spellRow 10 = .ok (.ifCond .lt 44, 3) := by decide +kernel
theorem dX9_spellRow_13 : decode cX9_spellRow 13 = .ok (.aload_n 0, 1) := by decide +kernel
theorem dX9_spellRow_14 : decode cX9_spellRow 14 = .ok (.getfield 53, 3) := by decide +kernel
theorem dX9_spellRow_17 : decode cX9_spellRow 17 = .ok (.getfield 83, 3) := by decide +kernel
theorem dX9_spellRow_20 : decode cX9_spellRow 20 = .ok (.ifCond .le 34, 3) := by decide +kernel
theorem dX9_spellRow_23 : decode cX9_spellRow 23 = .ok (.aload_n 0, 1) := by decide +kernel
theorem dX9_spellRow_24 : decode cX9_spellRow 24 = .ok (.getfield 20, 3) := by decide +kernel
theorem dX9_spellRow_27 : decode cX9_spellRow 27 = .ok (.iload_n 3, 1) := by decide +kernel
theorem dX9_spellRow_28 : decode cX9_spellRow 28 = .ok (.iload_n 2, 1) := by decide +kernel
theorem dX9_spellRow_29 : decode cX9_spellRow 29 = .ok (.aload_n 0, 1) := by decide +kernel
theorem dX9_spellRow_30 : decode cX9_spellRow 30 = .ok (.getfield 53, 3) := by decide +kernel
theorem dX9_spellRow_33 : decode cX9_spellRow 33 = .ok (.getfield 83, 3) := by decide +kernel
theorem dX9_spellRow_36 : decode cX9_spellRow 36 = .ok (.irem, 1) := by decide +kernel
theorem dX9_spellRow_37 : decode cX9_spellRow 37 = .ok (.iastore, 1) := by decide +kernel
theorem dX9_spellRow_38 : decode cX9_spellRow 38 = .ok (.iload_n 2, 1) := by decide +kernel
theorem dX9_spellRow_39 : decode cX9_spellRow 39 = .ok (.aload_n 0, 1) := by decide +kernel
theorem dX9_spellRow_40 : decode cX9_spellRow 40 = .ok (.getfield 53, 3) := by decide +kernel
theorem dX9_spellRow_43 : decode cX9_spellRow 43 = .ok (.getfield 83, 3) := by decide +kernel
theorem dX9_spellRow_46 : decode cX9_spellRow 46 = .ok (.idiv, 1) := by decide +kernel
theorem dX9_spellRow_47 : decode cX9_spellRow 47 = .ok (.istore_n 2, 1) := by decide +kernel
theorem dX9_spellRow_48 : decode cX9_spellRow 48 = .ok (.iinc 3 (-1), 3) := by decide +kernel
theorem dX9_spellRow_51 : decode cX9_spellRow 51 = .ok (.goto (-42), 3) := by decide +kernel
theorem dX9_spellRow_54 : decode cX9_spellRow 54 = .ok (.return_, 1) := by decide +kernel
theorem dX9_fromDay_0 : decode cX9_fromDay 0 = .ok (.iload_n 1, 1) := by decide +kernel
theorem dX9_fromDay_1 : decode cX9_fromDay 1 = .ok (.aload_n 0, 1) := by decide +kernel
theorem dX9_fromDay_2 : decode cX9_fromDay 2 = .ok (.getfield 34, 3) := by decide +kernel
theorem dX9_fromDay_5 : decode cX9_fromDay 5 = .ok (.if_icmp .lt 5, 3) := by decide +kernel
theorem dX9_fromDay_8 : decode cX9_fromDay 8 = .ok (.lconst 0, 1) := by decide +kernel
theorem dX9_fromDay_9 : decode cX9_fromDay 9 = .ok (.lreturn, 1) := by decide +kernel
theorem dX9_fromDay_10 : decode cX9_fromDay 10 = .ok (.lconst 0, 1) := by decide +kernel
theorem dX9_fromDay_11 : decode cX9_fromDay 11 = .ok (.lstore_n 2, 1) := by decide +kernel
theorem dX9_fromDay_12 : decode cX9_fromDay 12 = .ok (.iconst 0, 1) := by decide +kernel
theorem dX9_fromDay_13 : decode cX9_fromDay 13 = .ok (.istore 4, 2) := by decide +kernel
theorem dX9_fromDay_15 : decode cX9_fromDay 15 = .ok (.iload 4, 2) := by decide +kernel
theorem dX9_fromDay_17 : decode cX9_fromDay 17 = .ok (.aload_n 0, 1) := by decide +kernel
theorem dX9_fromDay_18 : decode cX9_fromDay 18 = .ok (.getfield 53, 3) := by decide +kernel
theorem dX9_fromDay_21 : decode cX9_fromDay 21 = .ok (.getfield 83, 3) := by decide +kernel
theorem dX9_fromDay_24 : decode cX9_fromDay 24 = .ok (.if_icmp .ge 33, 3) := by decide +kernel
theorem dX9_fromDay_27 : decode cX9_fromDay 27 = .ok (.lload_n 2, 1) := by decide +kernel
theorem dX9_fromDay_28 : decode cX9_fromDay 28 = .ok (.aload_n 0, 1) := by decide +kernel
theorem dX9_fromDay_29 : decode cX9_fromDay 29 = .ok (.getfield 43, 3) := by decide +kernel
theorem dX9_fromDay_32 : decode cX9_fromDay 32 = .ok (.getfield 106, 3) := by decide +kernel
theorem dX9_fromDay_35 : decode cX9_fromDay 35 = .ok (.iload 4, 2) := by decide +kernel
theorem dX9_fromDay_37 : decode cX9_fromDay 37 = .ok (.aaload, 1) := by decide +kernel
theorem dX9_fromDay_38 : decode cX9_fromDay 38 = .ok (.aload_n 0, 1) := by decide +kernel
theorem dX9_fromDay_39 : decode cX9_fromDay 39 = .ok (.getfield 11, 3) := by decide +kernel
theorem dX9_fromDay_42 : decode cX9_fromDay 42 = .ok (.iload_n 1, 1) := by decide +kernel
theorem dX9_fromDay_43 : decode cX9_fromDay 43 = .ok (.aaload, 1) := by decide +kernel
theorem dX9_fromDay_44 : decode cX9_fromDay 44 = .ok (.iload 4, 2) := by decide +kernel
theorem dX9_fromDay_46 : decode cX9_fromDay 46 = .ok (.iaload, 1) := by decide +kernel
theorem dX9_fromDay_47 : decode cX9_fromDay 47 = .ok (.iaload, 1) := by decide +kernel
theorem dX9_fromDay_48 : decode cX9_fromDay 48 = .ok (.i2l, 1) := by decide +kernel
theorem dX9_fromDay_49 : decode cX9_fromDay 49 = .ok (.ladd, 1) := by decide +kernel
theorem dX9_fromDay_50 : decode cX9_fromDay 50 = .ok (.lstore_n 2, 1) := by decide +kernel
theorem dX9_fromDay_51 : decode cX9_fromDay 51 = .ok (.iinc 4 1, 3) := by decide +kernel
theorem dX9_fromDay_54 : decode cX9_fromDay 54 = .ok (.goto (-39), 3) := by decide +kernel
theorem dX9_fromDay_57 : decode cX9_fromDay 57 = .ok (.aload_n 0, 1) := by decide +kernel
theorem dX9_fromDay_58 : decode cX9_fromDay 58 = .ok (.getfield 16, 3) := by decide +kernel
theorem dX9_fromDay_61 : decode cX9_fromDay 61 = .ok (.ifnull 37, 3) := by decide +kernel
theorem dX9_fromDay_64 : decode cX9_fromDay 64 = .ok (.lload_n 2, 1) := by decide +kernel
theorem dX9_fromDay_65 : decode cX9_fromDay 65 = .ok (.aload_n 0, 1) := by decide +kernel
theorem dX9_fromDay_66 : decode cX9_fromDay 66 = .ok (.iload_n 1, 1) := by decide +kernel
theorem dX9_fromDay_67 : decode cX9_fromDay 67 = .ok (.aload_n 0, 1) := by decide +kernel
theorem dX9_fromDay_68 : decode cX9_fromDay 68 = .ok (.getfield 16, 3) := by decide +kernel
theorem dX9_fromDay_71 : decode cX9_fromDay 71 = .ok (.aload_n 0, 1) := by decide +kernel
theorem dX9_fromDay_72 : decode cX9_fromDay 72 = .ok (.getfield 43, 3) := by decide +kernel
theorem dX9_fromDay_75 : decode cX9_fromDay 75 = .ok (.aload_n 0, 1) := by decide +kernel
theorem dX9_fromDay_76 : decode cX9_fromDay 76 = .ok (.getfield 11, 3) := by decide +kernel
theorem dX9_fromDay_79 : decode cX9_fromDay 79 = .ok (.iload_n 1, 1) := by decide +kernel
theorem dX9_fromDay_80 : decode cX9_fromDay 80 = .ok (.aaload, 1) := by decide +kernel
theorem dX9_fromDay_81 : decode cX9_fromDay 81 = .ok (.aload_n 0, 1) := by decide +kernel
theorem dX9_fromDay_82 : decode cX9_fromDay 82 = .ok (.getfield 53, 3) := by decide +kernel
theorem dX9_fromDay_85 : decode cX9_fromDay 85 = .ok (.getfield 109, 3) := by decide +kernel
theorem dX9_fromDay_88 : decode cX9_fromDay 88 = .ok (.iload_n 1, 1) := by decide +kernel
theorem dX9_fromDay_89 : decode cX9_fromDay 89 = .ok (.iadd, 1) := by decide +kernel
theorem dX9_fromDay_90 : decode cX9_fromDay 90 = .ok (.invokevirtual 112, 3) := by decide +kernel
theorem dX9_fromDay_93 : decode cX9_fromDay 93 = .ok (.invokevirtual 118, 3) := by decide +kernel
theorem dX9_fromDay_96 : decode cX9_fromDay 96 = .ok (.ladd, 1) := by decide +kernel
theorem dX9_fromDay_97 : decode cX9_fromDay 97 = .ok (.lreturn, 1) := by decide +kernel
theorem dX9_fromDay_98 : decode cX9_fromDay 98 = .ok (.aload_n 0, 1) := by decide +kernel
theorem dX9_fromDay_99 : decode cX9_fromDay 99 = .ok (.getfield 24, 3) := by decide +kernel
theorem dX9_fromDay_102 : decode cX9_fromDay 102 = .ok (.ifCond .le 24, 3) := by decide +kernel
theorem dX9_fromDay_105 : decode cX9_fromDay 105 = .ok (.lload_n 2, 1) := by decide +kernel
theorem dX9_fromDay_106 : decode cX9_fromDay 106 = .ok (.aload_n 0, 1) := by decide +kernel
theorem dX9_fromDay_107 : decode cX9_fromDay 107 = .ok (.iload_n 1, 1) := by decide +kernel
theorem dX9_fromDay_108 : decode cX9_fromDay 108 = .ok (.iconst 1, 1) := by decide +kernel
theorem dX9_fromDay_109 : decode cX9_fromDay 109 = .ok (.aload_n 0, 1) := by decide +kernel
theorem dX9_fromDay_110 : decode cX9_fromDay 110 = .ok (.getfield 20, 3) := by decide +kernel
theorem dX9_fromDay_113 : decode cX9_fromDay 113 = .ok (.iload_n 1, 1) := by decide +kernel
theorem dX9_fromDay_114 : decode cX9_fromDay 114 = .ok (.aload_n 0, 1) := by decide +kernel
theorem dX9_fromDay_115 : decode cX9_fromDay 115 = .ok (.getfield 24, 3) := by decide +kernel
theorem dX9_fromDay_118 : decode cX9_fromDay 118 = .ok (.irem, 1) := by decide +kernel
theorem dX9_fromDay_119 : decode cX9_fromDay 119 = .ok (.iaload, 1) := by decide +kernel
theorem dX9_fromDay_120 : decode cX9_fromDay 120 = .ok (.ishl, 1) := by decide +kernel
theorem dX9_fromDay_121 : decode cX9_fromDay 121 = .ok (.invokevirtual 118, 3) := by decide +kernel
theorem dX9_fromDay_124 : decode cX9_fromDay 124 = .ok (.ladd, 1) := by decide +kernel
theorem dX9_fromDay_125 : decode cX9_fromDay 125 = .ok (.lreturn, 1) := by decide +kernel
theorem dX9_fromDay_126 : decode cX9_fromDay 126 = .ok (.lload_n 2, 1) := by decide +kernel
theorem dX9_fromDay_127 : decode cX9_fromDay 127 = .ok (.aload_n 0, 1) := by decide +kernel
theorem dX9_fromDay_128 : decode cX9_fromDay 128 = .ok (.iload_n 1, 1) := by decide +kernel
theorem dX9_fromDay_129 : decode cX9_fromDay 129 = .ok (.invokevirtual 122, 3) := by decide +kernel
theorem dX9_fromDay_132 : decode cX9_fromDay 132 = .ok (.ladd, 1) := by decide +kernel
theorem dX9_fromDay_133 : decode cX9_fromDay 133 = .ok (.lreturn, 1) := by decide +kernel
theorem dX9_behindBestLooks_0 : decode cX9_behindBestLooks 0 = .ok (.ldc2_w 95, 3) := by decide +kernel
theorem dX9_behindBestLooks_3 : decode cX9_behindBestLooks 3 = .ok (.lstore_n 2, 1) := by decide +kernel
theorem dX9_behindBestLooks_4 : decode cX9_behindBestLooks 4 = .ok (.iconst 0, 1) := by decide +kernel
theorem dX9_behindBestLooks_5 : decode cX9_behindBestLooks 5 = .ok (.istore 4, 2) := by decide +kernel
theorem dX9_behindBestLooks_7 : decode cX9_behindBestLooks 7 = .ok (.iload 4, 2) := by decide +kernel
theorem dX9_behindBestLooks_9 : decode cX9_behindBestLooks 9 = .ok (.aload_n 0, 1) := by decide +kernel
theorem dX9_behindBestLooks_10 : decode cX9_behindBestLooks 10 = .ok (.getfield 31, 3) := by decide +kernel
theorem dX9_behindBestLooks_13 : decode cX9_behindBestLooks 13 = .ok (.if_icmp .ge 55, 3) := by decide +kernel
theorem dX9_behindBestLooks_16 : decode cX9_behindBestLooks 16 = .ok (.aload_n 0, 1) := by decide +kernel
theorem dX9_behindBestLooks_17 : decode cX9_behindBestLooks 17 = .ok (.iload_n 1, 1) := by decide +kernel
theorem dX9_behindBestLooks_18 : decode cX9_behindBestLooks 18 = .ok (.aload_n 0, 1) := by decide +kernel
theorem dX9_behindBestLooks_19 : decode cX9_behindBestLooks 19 = .ok (.getfield 28, 3) := by decide +kernel
theorem dX9_behindBestLooks_22 : decode cX9_behindBestLooks 22 = .ok (.iload 4, 2) := by decide +kernel
theorem dX9_behindBestLooks_24 : decode cX9_behindBestLooks 24 = .ok (.iaload, 1) := by decide +kernel
theorem dX9_behindBestLooks_25 : decode cX9_behindBestLooks 25 = .ok (.invokevirtual 118, 3) := by decide +kernel
theorem dX9_behindBestLooks_28 : decode cX9_behindBestLooks 28 = .ok (.lstore 5, 2) := by decide +kernel
theorem dX9_behindBestLooks_30 : decode cX9_behindBestLooks 30 = .ok (.lload 5, 2) := by decide +kernel
theorem dX9_behindBestLooks_32 : decode cX9_behindBestLooks 32 = .ok (.lload_n 2, 1) := by decide +kernel
theorem dX9_behindBestLooks_33 : decode cX9_behindBestLooks 33 = .ok (.lcmp, 1) := by decide +kernel
theorem dX9_behindBestLooks_34 : decode cX9_behindBestLooks 34 = .ok (.ifCond .le 28, 3) := by decide +kernel
theorem dX9_behindBestLooks_37 : decode cX9_behindBestLooks 37 = .ok (.lload 5, 2) := by decide +kernel
theorem dX9_behindBestLooks_39 : decode cX9_behindBestLooks 39 = .ok (.lstore_n 2, 1) := by decide +kernel
theorem dX9_behindBestLooks_40 : decode cX9_behindBestLooks 40 = .ok (.aload_n 0, 1) := by decide +kernel
theorem dX9_behindBestLooks_41 : decode cX9_behindBestLooks 41 = .ok (.iload_n 1, 1) := by decide +kernel
theorem dX9_behindBestLooks_42 : decode cX9_behindBestLooks 42 = .ok (.ifCond .ne 13, 3) := by decide +kernel
theorem dX9_behindBestLooks_45 : decode cX9_behindBestLooks 45 = .ok (.aload_n 0, 1) := by decide +kernel
theorem dX9_behindBestLooks_46 : decode cX9_behindBestLooks 46 = .ok (.getfield 28, 3) := by decide +kernel
theorem dX9_behindBestLooks_49 : decode cX9_behindBestLooks 49 = .ok (.iload 4, 2) := by decide +kernel
theorem dX9_behindBestLooks_51 : decode cX9_behindBestLooks 51 = .ok (.iaload, 1) := by decide +kernel
theorem dX9_behindBestLooks_52 : decode cX9_behindBestLooks 52 = .ok (.goto 7, 3) := by decide +kernel
theorem dX9_behindBestLooks_55 : decode cX9_behindBestLooks 55 = .ok (.aload_n 0, 1) := by decide +kernel
theorem dX9_behindBestLooks_56 : decode cX9_behindBestLooks 56 = .ok (.getfield 37, 3) := by decide +kernel
theorem dX9_behindBestLooks_59 : decode cX9_behindBestLooks 59 = .ok (.putfield 37, 3) := by decide +kernel
theorem dX9_behindBestLooks_62 : decode cX9_behindBestLooks 62 = .ok (.iinc 4 1, 3) := by decide +kernel
theorem dX9_behindBestLooks_65 : decode cX9_behindBestLooks 65 = .ok (.goto (-58), 3) := by decide +kernel
theorem dX9_behindBestLooks_68 : decode cX9_behindBestLooks 68 = .ok (.lload_n 2, 1) := by decide +kernel
theorem dX9_behindBestLooks_69 : decode cX9_behindBestLooks 69 = .ok (.lreturn, 1) := by decide +kernel
theorem dX9_behindLooks_0 : decode cX9_behindLooks 0 = .ok (.iload_n 2, 1) := by decide +kernel
theorem dX9_behindLooks_1 : decode cX9_behindLooks 1 = .ok (.ifCond .ne 9, 3) := by decide +kernel
theorem dX9_behindLooks_4 : decode cX9_behindLooks 4 = .ok (.aload_n 0, 1) := by decide +kernel
theorem dX9_behindLooks_5 : decode cX9_behindLooks 5 = .ok (.iload_n 1, 1) := by decide +kernel
theorem dX9_behindLooks_6 : decode cX9_behindLooks 6 = .ok (.invokevirtual 125, 3) := by decide +kernel
theorem dX9_behindLooks_9 : decode cX9_behindLooks 9 = .ok (.lreturn, 1) := by decide +kernel
theorem dX9_behindLooks_10 : decode cX9_behindLooks 10 = .ok (.iload_n 2, 1) := by decide +kernel
theorem dX9_behindLooks_11 : decode cX9_behindLooks 11 = .ok (.invokestatic 128, 3) := by decide +kernel
theorem dX9_behindLooks_14 : decode cX9_behindLooks 14 = .ok (.istore_n 3, 1) := by decide +kernel
theorem dX9_behindLooks_15 : decode cX9_behindLooks 15 = .ok (.iload_n 2, 1) := by decide +kernel
theorem dX9_behindLooks_16 : decode cX9_behindLooks 16 = .ok (.iload_n 2, 1) := by decide +kernel
theorem dX9_behindLooks_17 : decode cX9_behindLooks 17 = .ok (.iconst 1, 1) := by decide +kernel
theorem dX9_behindLooks_18 : decode cX9_behindLooks 18 = .ok (.isub, 1) := by decide +kernel
theorem dX9_behindLooks_19 : decode cX9_behindLooks 19 = .ok (.iand, 1) := by decide +kernel
theorem dX9_behindLooks_20 : decode cX9_behindLooks 20 = .ok (.istore 4, 2) := by decide +kernel
theorem dX9_behindLooks_22 : decode cX9_behindLooks 22 = .ok (.aload_n 0, 1) := by decide +kernel
theorem dX9_behindLooks_23 : decode cX9_behindLooks 23 = .ok (.getfield 53, 3) := by decide +kernel
theorem dX9_behindLooks_26 : decode cX9_behindLooks 26 = .ok (.iload_n 3, 1) := by decide +kernel
theorem dX9_behindLooks_27 : decode cX9_behindLooks 27 = .ok (.invokevirtual 131, 3) := by decide +kernel
theorem dX9_behindLooks_30 : decode cX9_behindLooks 30 = .ok (.astore 5, 2) := by decide +kernel
theorem dX9_behindLooks_32 : decode cX9_behindLooks 32 = .ok (.aload_n 0, 1) := by decide +kernel
theorem dX9_behindLooks_33 : decode cX9_behindLooks 33 = .ok (.getfield 11, 3) := by decide +kernel
theorem dX9_behindLooks_36 : decode cX9_behindLooks 36 = .ok (.iload_n 1, 1) := by decide +kernel
theorem dX9_behindLooks_37 : decode cX9_behindLooks 37 = .ok (.aaload, 1) := by decide +kernel
theorem dX9_behindLooks_38 : decode cX9_behindLooks 38 = .ok (.iload_n 3, 1) := by decide +kernel
theorem dX9_behindLooks_39 : decode cX9_behindLooks 39 = .ok (.iaload, 1) := by decide +kernel
theorem dX9_behindLooks_40 : decode cX9_behindLooks 40 = .ok (.istore 6, 2) := by decide +kernel
theorem dX9_behindLooks_42 : decode cX9_behindLooks 42 = .ok (.aload_n 0, 1) := by decide +kernel
theorem dX9_behindLooks_43 : decode cX9_behindLooks 43 = .ok (.getfield 43, 3) := by decide +kernel
theorem dX9_behindLooks_46 : decode cX9_behindLooks 46 = .ok (.getfield 135, 3) := by decide +kernel
theorem dX9_behindLooks_49 : decode cX9_behindLooks 49 = .ok (.iload_n 3, 1) := by decide +kernel
theorem dX9_behindLooks_50 : decode cX9_behindLooks 50 = .ok (.aaload, 1) := by decide +kernel
theorem dX9_behindLooks_51 : decode cX9_behindLooks 51 = .ok (.iload 6, 2) := by decide +kernel
theorem dX9_behindLooks_53 : decode cX9_behindLooks 53 = .ok (.iaload, 1) := by decide +kernel
theorem dX9_behindLooks_54 : decode cX9_behindLooks 54 = .ok (.istore 7, 2) := by decide +kernel
theorem dX9_behindLooks_56 : decode cX9_behindLooks 56 = .ok (.lconst 0, 1) := by decide +kernel
theorem dX9_behindLooks_57 : decode cX9_behindLooks 57 = .ok (.lstore 8, 2) := by decide +kernel
theorem dX9_behindLooks_59 : decode cX9_behindLooks 59 = .ok (.lconst 0, 1) := by decide +kernel
theorem dX9_behindLooks_60 : decode cX9_behindLooks 60 = .ok (.lstore 10, 2) := by decide +kernel
theorem dX9_behindLooks_62 : decode cX9_behindLooks 62 = .ok (.iload_n 1, 1) := by decide +kernel
theorem dX9_behindLooks_63 : decode cX9_behindLooks 63 = .ok (.aload_n 0, 1) := by decide +kernel
theorem dX9_behindLooks_64 : decode cX9_behindLooks 64 = .ok (.getfield 34, 3) := by decide +kernel
theorem dX9_behindLooks_67 : decode cX9_behindLooks 67 = .ok (.iconst 1, 1) := by decide +kernel
theorem dX9_behindLooks_68 : decode cX9_behindLooks 68 = .ok (.isub, 1) := by decide +kernel
theorem dX9_behindLooks_69 : decode cX9_behindLooks 69 = .ok (.if_icmp .ne 19, 3) := by decide +kernel
theorem dX9_behindLooks_72 : decode cX9_behindLooks 72 = .ok (.aload_n 0, 1) := by decide +kernel
theorem dX9_behindLooks_73 : decode cX9_behindLooks 73 = .ok (.iload_n 1, 1) := by decide +kernel
theorem dX9_behindLooks_74 : decode cX9_behindLooks 74 = .ok (.iload 4, 2) := by decide +kernel
theorem dX9_behindLooks_76 : decode cX9_behindLooks 76 = .ok (.invokevirtual 118, 3) := by decide +kernel
theorem dX9_behindLooks_79 : decode cX9_behindLooks 79 = .ok (.lstore 8, 2) := by decide +kernel
theorem dX9_behindLooks_81 : decode cX9_behindLooks 81 = .ok (.lload 8, 2) := by decide +kernel
theorem dX9_behindLooks_83 : decode cX9_behindLooks 83 = .ok (.lstore 10, 2) := by decide +kernel
theorem dX9_behindLooks_85 : decode cX9_behindLooks 85 = .ok (.goto 69, 3) := by decide +kernel
theorem dX9_behindLooks_88 : decode cX9_behindLooks 88 = .ok (.iload 7, 2) := by decide +kernel
theorem dX9_behindLooks_90 : decode cX9_behindLooks 90 = .ok (.ifCond .le 22, 3) := by decide +kernel
theorem dX9_behindLooks_93 : decode cX9_behindLooks 93 = .ok (.aload_n 0, 1) := by decide +kernel
theorem dX9_behindLooks_94 : decode cX9_behindLooks 94 = .ok (.getfield 11, 3) := by decide +kernel
theorem dX9_behindLooks_97 : decode cX9_behindLooks 97 = .ok (.iload_n 1, 1) := by decide +kernel
theorem dX9_behindLooks_98 : decode cX9_behindLooks 98 = .ok (.aaload, 1) := by decide +kernel
theorem dX9_behindLooks_99 : decode cX9_behindLooks 99 = .ok (.iload_n 3, 1) := by decide +kernel
theorem dX9_behindLooks_100 : decode cX9_behindLooks 100 = .ok (.bipush 11, 2) := by decide +kernel
theorem dX9_behindLooks_102 : decode cX9_behindLooks 102 = .ok (.iastore, 1) := by decide +kernel
theorem dX9_behindLooks_103 : decode cX9_behindLooks 103 = .ok (.aload_n 0, 1) := by decide +kernel
theorem dX9_behindLooks_104 : decode cX9_behindLooks 104 = .ok (.iload_n 1, 1) := by decide +kernel
theorem dX9_behindLooks_105 : decode cX9_behindLooks 105 = .ok (.iload 4, 2) := by decide +kernel
theorem dX9_behindLooks_107 : decode cX9_behindLooks 107 = .ok (.invokevirtual 118, 3) := by decide +kernel
theorem dX9_behindLooks_110 : decode cX9_behindLooks 110 = .ok (.lstore 8, 2) := by decide +kernel
theorem dX9_behindLooks_112 : decode cX9_behindLooks 112 = .ok (.iload 7, 2) := by decide +kernel
theorem dX9_behindLooks_114 : decode cX9_behindLooks 114 = .ok (.ldc 138, 2) := by decide +kernel
theorem dX9_behindLooks_116 : decode cX9_behindLooks 116 = .ok (.if_icmp .ge 28, 3) := by decide +kernel
theorem dX9_behindLooks_119 : decode cX9_behindLooks 119 = .ok (.aload_n 0, 1) := by decide +kernel
theorem dX9_behindLooks_120 : decode cX9_behindLooks 120 = .ok (.getfield 11, 3) := by decide +kernel
theorem dX9_behindLooks_123 : decode cX9_behindLooks 123 = .ok (.iload_n 1, 1) := by decide +kernel
theorem dX9_behindLooks_124 : decode cX9_behindLooks 124 = .ok (.aaload, 1) := by decide +kernel
theorem dX9_behindLooks_125 : decode cX9_behindLooks 125 = .ok (.iload_n 3, 1) := by decide +kernel
theorem dX9_behindLooks_126 : decode cX9_behindLooks 126 = .ok (.aload_n 0, 1) := by decide +kernel
theorem dX9_behindLooks_127 : decode cX9_behindLooks 127 = .ok (.getfield 43, 3) := by decide +kernel
theorem dX9_behindLooks_130 : decode cX9_behindLooks 130 = .ok (.iload_n 3, 1) := by decide +kernel
theorem dX9_behindLooks_131 : decode cX9_behindLooks 131 = .ok (.invokevirtual 139, 3) := by decide +kernel
theorem dX9_behindLooks_134 : decode cX9_behindLooks 134 = .ok (.iastore, 1) := by decide +kernel
theorem dX9_behindLooks_135 : decode cX9_behindLooks 135 = .ok (.aload_n 0, 1) := by decide +kernel
theorem dX9_behindLooks_136 : decode cX9_behindLooks 136 = .ok (.iload_n 1, 1) := by decide +kernel
theorem dX9_behindLooks_137 : decode cX9_behindLooks 137 = .ok (.iload 4, 2) := by decide +kernel
theorem dX9_behindLooks_139 : decode cX9_behindLooks 139 = .ok (.invokevirtual 118, 3) := by decide +kernel
theorem dX9_behindLooks_142 : decode cX9_behindLooks 142 = .ok (.lstore 10, 2) := by decide +kernel
theorem dX9_behindLooks_144 : decode cX9_behindLooks 144 = .ok (.aload_n 0, 1) := by decide +kernel
theorem dX9_behindLooks_145 : decode cX9_behindLooks 145 = .ok (.getfield 11, 3) := by decide +kernel
theorem dX9_behindLooks_148 : decode cX9_behindLooks 148 = .ok (.iload_n 1, 1) := by decide +kernel
theorem dX9_behindLooks_149 : decode cX9_behindLooks 149 = .ok (.aaload, 1) := by decide +kernel
theorem dX9_behindLooks_150 : decode cX9_behindLooks 150 = .ok (.iload_n 3, 1) := by decide +kernel
theorem dX9_behindLooks_151 : decode cX9_behindLooks 151 = .ok (.iload 6, 2) := by decide +kernel
theorem dX9_behindLooks_153 : decode cX9_behindLooks 153 = .ok (.iastore, 1) := by decide +kernel
theorem dX9_behindLooks_154 : decode cX9_behindLooks 154 = .ok (.iload 7, 2) := by decide +kernel
theorem dX9_behindLooks_156 : decode cX9_behindLooks 156 = .ok (.lload 8, 2) := by decide +kernel
theorem dX9_behindLooks_158 : decode cX9_behindLooks 158 = .ok (.lload 10, 2) := by decide +kernel
theorem dX9_behindLooks_160 : decode cX9_behindLooks 160 = .ok (.aload 5, 2) := by decide +kernel
theorem dX9_behindLooks_162 : decode cX9_behindLooks 162 = .ok (.invokevirtual 142, 3) := by decide +kernel
theorem dX9_behindLooks_165 : decode cX9_behindLooks 165 = .ok (.lsub, 1) := by decide +kernel
theorem dX9_behindLooks_166 : decode cX9_behindLooks 166 = .ok (.invokestatic 148, 3) := by decide +kernel
theorem dX9_behindLooks_169 : decode cX9_behindLooks 169 = .ok (.aload 5, 2) := by decide +kernel
theorem dX9_behindLooks_171 : decode cX9_behindLooks 171 = .ok (.invokevirtual 152, 3) := by decide +kernel
theorem dX9_behindLooks_174 : decode cX9_behindLooks 174 = .ok (.lsub, 1) := by decide +kernel
theorem dX9_behindLooks_175 : decode cX9_behindLooks 175 = .ok (.lreturn, 1) := by decide +kernel
theorem dX9_behindDay_0 : decode cX9_behindDay 0 = .ok (.iload_n 1, 1) := by decide +kernel
theorem dX9_behindDay_1 : decode cX9_behindDay 1 = .ok (.aload_n 0, 1) := by decide +kernel
theorem dX9_behindDay_2 : decode cX9_behindDay 2 = .ok (.getfield 34, 3) := by decide +kernel
theorem dX9_behindDay_5 : decode cX9_behindDay 5 = .ok (.iconst 1, 1) := by decide +kernel
theorem dX9_behindDay_6 : decode cX9_behindDay 6 = .ok (.isub, 1) := by decide +kernel
theorem dX9_behindDay_7 : decode cX9_behindDay 7 = .ok (.if_icmp .lt 5, 3) := by decide +kernel
theorem dX9_behindDay_10 : decode cX9_behindDay 10 = .ok (.lconst 0, 1) := by decide +kernel
theorem dX9_behindDay_11 : decode cX9_behindDay 11 = .ok (.lreturn, 1) := by decide +kernel
theorem dX9_behindDay_12 : decode cX9_behindDay 12 = .ok (.aload_n 0, 1) := by decide +kernel
theorem dX9_behindDay_13 : decode cX9_behindDay 13 = .ok (.iload_n 1, 1) := by decide +kernel
theorem dX9_behindDay_14 : decode cX9_behindDay 14 = .ok (.invokevirtual 155, 3) := by decide +kernel
theorem dX9_behindDay_17 : decode cX9_behindDay 17 = .ok (.aload_n 0, 1) := by decide +kernel
theorem dX9_behindDay_18 : decode cX9_behindDay 18 = .ok (.iload_n 1, 1) := by decide +kernel
theorem dX9_behindDay_19 : decode cX9_behindDay 19 = .ok (.iconst 1, 1) := by decide +kernel
theorem dX9_behindDay_20 : decode cX9_behindDay 20 = .ok (.iadd, 1) := by decide +kernel
theorem dX9_behindDay_21 : decode cX9_behindDay 21 = .ok (.invokevirtual 70, 3) := by decide +kernel
theorem dX9_behindDay_24 : decode cX9_behindDay 24 = .ok (.lreturn, 1) := by decide +kernel
theorem dX9_goOver_0 : decode cX9_goOver 0 = .ok (.iconst 0, 1) := by decide +kernel
theorem dX9_goOver_1 : decode cX9_goOver 1 = .ok (.istore_n 2, 1) := by decide +kernel
theorem dX9_goOver_2 : decode cX9_goOver 2 = .ok (.iload_n 2, 1) := by decide +kernel
theorem dX9_goOver_3 : decode cX9_goOver 3 = .ok (.aload_n 0, 1) := by decide +kernel
theorem dX9_goOver_4 : decode cX9_goOver 4 = .ok (.getfield 53, 3) := by decide +kernel
theorem dX9_goOver_7 : decode cX9_goOver 7 = .ok (.getfield 83, 3) := by decide +kernel
theorem dX9_goOver_10 : decode cX9_goOver 10 = .ok (.if_icmp .ge 29, 3) := by decide +kernel
theorem dX9_goOver_13 : decode cX9_goOver 13 = .ok (.aload_n 0, 1) := by decide +kernel
theorem dX9_goOver_14 : decode cX9_goOver 14 = .ok (.getfield 11, 3) := by decide +kernel
theorem dX9_goOver_17 : decode cX9_goOver 17 = .ok (.iload_n 1, 1) := by decide +kernel
theorem dX9_goOver_18 : decode cX9_goOver 18 = .ok (.iconst 1, 1) := by decide +kernel
theorem dX9_goOver_19 : decode cX9_goOver 19 = .ok (.iadd, 1) := by decide +kernel
theorem dX9_goOver_20 : decode cX9_goOver 20 = .ok (.aaload, 1) := by decide +kernel
theorem dX9_goOver_21 : decode cX9_goOver 21 = .ok (.iload_n 2, 1) := by decide +kernel
theorem dX9_goOver_22 : decode cX9_goOver 22 = .ok (.aload_n 0, 1) := by decide +kernel
theorem dX9_goOver_23 : decode cX9_goOver 23 = .ok (.getfield 11, 3) := by decide +kernel
theorem dX9_goOver_26 : decode cX9_goOver 26 = .ok (.iload_n 1, 1) := by decide +kernel
theorem dX9_goOver_27 : decode cX9_goOver 27 = .ok (.aaload, 1) := by decide +kernel
theorem dX9_goOver_28 : decode cX9_goOver 28 = .ok (.iload_n 2, 1) := by decide +kernel
theorem dX9_goOver_29 : decode cX9_goOver 29 = .ok (.iaload, 1) := by decide +kernel
theorem dX9_goOver_30 : decode cX9_goOver 30 = .ok (.iconst 1, 1) := by decide +kernel
theorem dX9_goOver_31 : decode cX9_goOver 31 = .ok (.iadd, 1) := by decide +kernel
theorem dX9_goOver_32 : decode cX9_goOver 32 = .ok (.iastore, 1) := by decide +kernel
theorem dX9_goOver_33 : decode cX9_goOver 33 = .ok (.iinc 2 1, 3) := by decide +kernel
theorem dX9_goOver_36 : decode cX9_goOver 36 = .ok (.goto (-34), 3) := by decide +kernel
theorem dX9_goOver_39 : decode cX9_goOver 39 = .ok (.return_, 1) := by decide +kernel
theorem dX9_firstOutdone_0 : decode cX9_firstOutdone 0 = .ok (.aload_n 0, 1) := by decide +kernel
theorem dX9_firstOutdone_1 : decode cX9_firstOutdone 1 = .ok (.iload_n 2, 1) := by decide +kernel
theorem dX9_firstOutdone_2 : decode cX9_firstOutdone 2 = .ok (.invokevirtual 66, 3) := by decide +kernel
theorem dX9_firstOutdone_5 : decode cX9_firstOutdone 5 = .ok (.iconst 0, 1) := by decide +kernel
theorem dX9_firstOutdone_6 : decode cX9_firstOutdone 6 = .ok (.istore_n 3, 1) := by decide +kernel
theorem dX9_firstOutdone_7 : decode cX9_firstOutdone 7 = .ok (.iload_n 3, 1) := by decide +kernel
theorem dX9_firstOutdone_8 : decode cX9_firstOutdone 8 = .ok (.iload_n 2, 1) := by decide +kernel
theorem dX9_firstOutdone_9 : decode cX9_firstOutdone 9 = .ok (.if_icmp .ge 134, 3) := by decide +kernel
theorem dX9_firstOutdone_12 : decode cX9_firstOutdone 12 = .ok (.iload_n 3, 1) := by decide +kernel
theorem dX9_firstOutdone_13 : decode cX9_firstOutdone 13 = .ok (.bipush 10, 2) := by decide +kernel
theorem dX9_firstOutdone_15 : decode cX9_firstOutdone 15 = .ok (.if_icmp .ge 128, 3) := by decide +kernel
theorem dX9_firstOutdone_18 : decode cX9_firstOutdone 18 = .ok (.aload_n 1, 1) := by decide +kernel
theorem dX9_firstOutdone_19 : decode cX9_firstOutdone 19 = .ok (.aload_n 0, 1) := by decide +kernel
theorem dX9_firstOutdone_20 : decode cX9_firstOutdone 20 = .ok (.getfield 43, 3) := by decide +kernel
theorem dX9_firstOutdone_23 : decode cX9_firstOutdone 23 = .ok (.aload_n 0, 1) := by decide +kernel
theorem dX9_firstOutdone_24 : decode cX9_firstOutdone 24 = .ok (.getfield 11, 3) := by decide +kernel
theorem dX9_firstOutdone_27 : decode cX9_firstOutdone 27 = .ok (.iload_n 3, 1) := by decide +kernel
theorem dX9_firstOutdone_28 : decode cX9_firstOutdone 28 = .ok (.aaload, 1) := by decide +kernel
theorem dX9_firstOutdone_29 : decode cX9_firstOutdone 29 = .ok (.aload_n 0, 1) := by decide +kernel
theorem dX9_firstOutdone_30 : decode cX9_firstOutdone 30 = .ok (.getfield 53, 3) := by decide +kernel
theorem dX9_firstOutdone_33 : decode cX9_firstOutdone 33 = .ok (.getfield 109, 3) := by decide +kernel
theorem dX9_firstOutdone_36 : decode cX9_firstOutdone 36 = .ok (.iload_n 3, 1) := by decide +kernel
theorem dX9_firstOutdone_37 : decode cX9_firstOutdone 37 = .ok (.iadd, 1) := by decide +kernel
theorem dX9_firstOutdone_38 : decode cX9_firstOutdone 38 = .ok (.invokevirtual 112, 3) := by decide +kernel
theorem dX9_firstOutdone_41 : decode cX9_firstOutdone 41 = .ok (.istore 4, 2) := by decide +kernel
theorem dX9_firstOutdone_43 : decode cX9_firstOutdone 43 = .ok (.iconst 0, 1) := by decide +kernel
theorem dX9_firstOutdone_44 : decode cX9_firstOutdone 44 = .ok (.istore 5, 2) := by decide +kernel
theorem dX9_firstOutdone_46 : decode cX9_firstOutdone 46 = .ok (.iload 5, 2) := by decide +kernel
theorem dX9_firstOutdone_48 : decode cX9_firstOutdone 48 = .ok (.aload_n 0, 1) := by decide +kernel
theorem dX9_firstOutdone_49 : decode cX9_firstOutdone 49 = .ok (.getfield 53, 3) := by decide +kernel
theorem dX9_firstOutdone_52 : decode cX9_firstOutdone 52 = .ok (.getfield 83, 3) := by decide +kernel
theorem dX9_firstOutdone_55 : decode cX9_firstOutdone 55 = .ok (.if_icmp .ge 42, 3) := by decide +kernel
theorem dX9_firstOutdone_58 : decode cX9_firstOutdone 58 = .ok (.aload_n 0, 1) := by decide +kernel
theorem dX9_firstOutdone_59 : decode cX9_firstOutdone 59 = .ok (.getfield 43, 3) := by decide +kernel
theorem dX9_firstOutdone_62 : decode cX9_firstOutdone 62 = .ok (.getfield 158, 3) := by decide +kernel
theorem dX9_firstOutdone_65 : decode cX9_firstOutdone 65 = .ok (.iload 5, 2) := by decide +kernel
theorem dX9_firstOutdone_67 : decode cX9_firstOutdone 67 = .ok (.ldc 138, 2) := by decide +kernel
theorem dX9_firstOutdone_69 : decode cX9_firstOutdone 69 = .ok (.aload_n 0, 1) := by decide +kernel
theorem dX9_firstOutdone_70 : decode cX9_firstOutdone 70 = .ok (.getfield 43, 3) := by decide +kernel
theorem dX9_firstOutdone_73 : decode cX9_firstOutdone 73 = .ok (.getfield 135, 3) := by decide +kernel
theorem dX9_firstOutdone_76 : decode cX9_firstOutdone 76 = .ok (.iload 5, 2) := by decide +kernel
theorem dX9_firstOutdone_78 : decode cX9_firstOutdone 78 = .ok (.aaload, 1) := by decide +kernel
theorem dX9_firstOutdone_79 : decode cX9_firstOutdone 79 = .ok (.aload_n 0, 1) := by decide +kernel
theorem dX9_firstOutdone_80 : decode cX9_firstOutdone 80 = .ok (.getfield 11, 3) := by decide +kernel
theorem dX9_firstOutdone_83 : decode cX9_firstOutdone 83 = .ok (.iload_n 3, 1) := by decide +kernel
theorem dX9_firstOutdone_84 : decode cX9_firstOutdone 84 = .ok (.aaload, 1) := by decide +kernel
theorem dX9_firstOutdone_85 : decode cX9_firstOutdone 85 = .ok (.iload 5, 2) := by decide +kernel
theorem dX9_firstOutdone_87 : decode cX9_firstOutdone 87 = .ok (.iaload, 1) := by decide +kernel
theorem dX9_firstOutdone_88 : decode cX9_firstOutdone 88 = .ok (.iaload, 1) := by decide +kernel
theorem dX9_firstOutdone_89 : decode cX9_firstOutdone 89 = .ok (.isub, 1) := by decide +kernel
theorem dX9_firstOutdone_90 : decode cX9_firstOutdone 90 = .ok (.iastore, 1) := by decide +kernel
theorem dX9_firstOutdone_91 : decode cX9_firstOutdone 91 = .ok (.iinc 5 1, 3) := by decide +kernel
theorem dX9_firstOutdone_94 : decode cX9_firstOutdone 94 = .ok (.goto (-48), 3) := by decide +kernel
theorem dX9_firstOutdone_97 : decode cX9_firstOutdone 97 = .ok (.aload_n 0, 1) := by decide +kernel
theorem dX9_firstOutdone_98 : decode cX9_firstOutdone 98 = .ok (.getfield 43, 3) := by decide +kernel
theorem dX9_firstOutdone_101 : decode cX9_firstOutdone 101 = .ok (.aload_n 0, 1) := by decide +kernel
theorem dX9_firstOutdone_102 : decode cX9_firstOutdone 102 = .ok (.getfield 43, 3) := by decide +kernel
theorem dX9_firstOutdone_105 : decode cX9_firstOutdone 105 = .ok (.invokevirtual 161, 3) := by decide +kernel
theorem dX9_firstOutdone_108 : decode cX9_firstOutdone 108 = .ok (.invokevirtual 164, 3) := by decide +kernel
theorem dX9_firstOutdone_111 : decode cX9_firstOutdone 111 = .ok (.aload_n 0, 1) := by decide +kernel
theorem dX9_firstOutdone_112 : decode cX9_firstOutdone 112 = .ok (.getfield 43, 3) := by decide +kernel
theorem dX9_firstOutdone_115 : decode cX9_firstOutdone 115 = .ok (.iload 4, 2) := by decide +kernel
theorem dX9_firstOutdone_117 : decode cX9_firstOutdone 117 = .ok (.invokevirtual 164, 3) := by decide +kernel
theorem dX9_firstOutdone_120 : decode cX9_firstOutdone 120 = .ok (.if_icmp .le 5, 3) := by decide +kernel
theorem dX9_firstOutdone_123 : decode cX9_firstOutdone 123 = .ok (.iload_n 3, 1) := by decide +kernel
theorem dX9_firstOutdone_124 : decode cX9_firstOutdone 124 = .ok (.ireturn, 1) := by decide +kernel
theorem dX9_firstOutdone_125 : decode cX9_firstOutdone 125 = .ok (.aload_n 0, 1) := by decide +kernel
theorem dX9_firstOutdone_126 : decode cX9_firstOutdone 126 = .ok (.iload_n 3, 1) := by decide +kernel
theorem dX9_firstOutdone_127 : decode cX9_firstOutdone 127 = .ok (.iload 4, 2) := by decide +kernel
theorem dX9_firstOutdone_129 : decode cX9_firstOutdone 129 = .ok (.invokevirtual 167, 3) := by decide +kernel
theorem dX9_firstOutdone_132 : decode cX9_firstOutdone 132 = .ok (.aload_n 0, 1) := by decide +kernel
theorem dX9_firstOutdone_133 : decode cX9_firstOutdone 133 = .ok (.iload_n 3, 1) := by decide +kernel
theorem dX9_firstOutdone_134 : decode cX9_firstOutdone 134 = .ok (.invokevirtual 155, 3) := by decide +kernel
theorem dX9_firstOutdone_137 : decode cX9_firstOutdone 137 = .ok (.iinc 3 1, 3) := by decide +kernel
theorem dX9_firstOutdone_140 : decode cX9_firstOutdone 140 = .ok (.goto (-133), 3) := by decide +kernel
theorem dX9_firstOutdone_143 : decode cX9_firstOutdone 143 = .ok (.bipush (-5), 2) := by decide +kernel
theorem dX9_firstOutdone_145 : decode cX9_firstOutdone 145 = .ok (.ireturn, 1) := by decide +kernel
theorem dX9_showLikely_0 : decode cX9_showLikely 0 = .ok (.iconst 0, 1) := by decide +kernel
theorem dX9_showLikely_1 : decode cX9_showLikely 1 = .ok (.istore_n 3, 1) := by decide +kernel
theorem dX9_showLikely_2 : decode cX9_showLikely 2 = .ok (.iload_n 3, 1) := by decide +kernel
theorem dX9_showLikely_3 : decode cX9_showLikely 3 = .ok (.aload_n 0, 1) := by decide +kernel
theorem dX9_showLikely_4 : decode cX9_showLikely 4 = .ok (.getfield 53, 3) := by decide +kernel
theorem dX9_showLikely_7 : decode cX9_showLikely 7 = .ok (.getfield 83, 3) := by decide +kernel
theorem dX9_showLikely_10 : decode cX9_showLikely 10 = .ok (.if_icmp .ge 74, 3) := by decide +kernel
theorem dX9_showLikely_13 : decode cX9_showLikely 13 = .ok (.iload_n 2, 1) := by decide +kernel
theorem dX9_showLikely_14 : decode cX9_showLikely 14 = .ok (.iload_n 3, 1) := by decide +kernel
theorem dX9_showLikely_15 : decode cX9_showLikely 15 = .ok (.ishr, 1) := by decide +kernel
theorem dX9_showLikely_16 : decode cX9_showLikely 16 = .ok (.iconst 1, 1) := by decide +kernel
theorem dX9_showLikely_17 : decode cX9_showLikely 17 = .ok (.iand, 1) := by decide +kernel
theorem dX9_showLikely_18 : decode cX9_showLikely 18 = .ok (.iconst 1, 1) := by decide +kernel
theorem dX9_showLikely_19 : decode cX9_showLikely 19 = .ok (.if_icmp .ne 59, 3) := by decide +kernel
theorem dX9_showLikely_22 : decode cX9_showLikely 22 = .ok (.aload_n 0, 1) := by decide +kernel
theorem dX9_showLikely_23 : decode cX9_showLikely 23 = .ok (.getfield 43, 3) := by decide +kernel
theorem dX9_showLikely_26 : decode cX9_showLikely 26 = .ok (.getfield 135, 3) := by decide +kernel
theorem dX9_showLikely_29 : decode cX9_showLikely 29 = .ok (.iload_n 3, 1) := by decide +kernel
theorem dX9_showLikely_30 : decode cX9_showLikely 30 = .ok (.aaload, 1) := by decide +kernel
theorem dX9_showLikely_31 : decode cX9_showLikely 31 = .ok (.aload_n 0, 1) := by decide +kernel
theorem dX9_showLikely_32 : decode cX9_showLikely 32 = .ok (.getfield 11, 3) := by decide +kernel
theorem dX9_showLikely_35 : decode cX9_showLikely 35 = .ok (.iload_n 1, 1) := by decide +kernel
theorem dX9_showLikely_36 : decode cX9_showLikely 36 = .ok (.aaload, 1) := by decide +kernel
theorem dX9_showLikely_37 : decode cX9_showLikely 37 = .ok (.iload_n 3, 1) := by decide +kernel
theorem dX9_showLikely_38 : decode cX9_showLikely 38 = .ok (.iaload, 1) := by decide +kernel
theorem dX9_showLikely_39 : decode cX9_showLikely 39 = .ok (.iaload, 1) := by decide +kernel
theorem dX9_showLikely_40 : decode cX9_showLikely 40 = .ok (.ldc 171, 2) := by decide +kernel
theorem dX9_showLikely_42 : decode cX9_showLikely 42 = .ok (.if_icmp .lt 7, 3) := by decide +kernel
theorem dX9_showLikely_45 : decode cX9_showLikely 45 = .ok (.iconst 1, 1) := by decide +kernel
theorem dX9_showLikely_46 : decode cX9_showLikely 46 = .ok (.goto 4, 3) := by decide +kernel
theorem dX9_showLikely_49 : decode cX9_showLikely 49 = .ok (.iconst 0, 1) := by decide +kernel
theorem dX9_showLikely_50 : decode cX9_showLikely 50 = .ok (.istore 4, 2) := by decide +kernel
theorem dX9_showLikely_52 : decode cX9_showLikely 52 = .ok (.aload_n 0, 1) := by decide +kernel
theorem dX9_showLikely_53 : decode cX9_showLikely 53 = .ok (.getfield 11, 3) := by decide +kernel
theorem dX9_showLikely_56 : decode cX9_showLikely 56 = .ok (.iload_n 1, 1) := by decide +kernel
theorem dX9_showLikely_57 : decode cX9_showLikely 57 = .ok (.aaload, 1) := by decide +kernel
theorem dX9_showLikely_58 : decode cX9_showLikely 58 = .ok (.iload_n 3, 1) := by decide +kernel
theorem dX9_showLikely_59 : decode cX9_showLikely 59 = .ok (.iload 4, 2) := by decide +kernel
theorem dX9_showLikely_61 : decode cX9_showLikely 61 = .ok (.ifCond .eq 8, 3) := by decide +kernel
theorem dX9_showLikely_64 : decode cX9_showLikely 64 = .ok (.bipush 11, 2) := by decide +kernel
theorem dX9_showLikely_66 : decode cX9_showLikely 66 = .ok (.goto 11, 3) := by decide +kernel
theorem dX9_showLikely_69 : decode cX9_showLikely 69 = .ok (.aload_n 0, 1) := by decide +kernel
theorem dX9_showLikely_70 : decode cX9_showLikely 70 = .ok (.getfield 43, 3) := by decide +kernel
theorem dX9_showLikely_73 : decode cX9_showLikely 73 = .ok (.iload_n 3, 1) := by decide +kernel
theorem dX9_showLikely_74 : decode cX9_showLikely 74 = .ok (.invokevirtual 139, 3) := by decide +kernel
theorem dX9_showLikely_77 : decode cX9_showLikely 77 = .ok (.iastore, 1) := by decide +kernel
theorem dX9_showLikely_78 : decode cX9_showLikely 78 = .ok (.iinc 3 1, 3) := by decide +kernel
theorem dX9_showLikely_81 : decode cX9_showLikely 81 = .ok (.goto (-79), 3) := by decide +kernel
theorem dX9_showLikely_84 : decode cX9_showLikely 84 = .ok (.return_, 1) := by decide +kernel
theorem dX10_init_0 : decode cX10_init 0 = .ok (.aload_n 0, 1) := by decide +kernel
theorem dX10_init_1 : decode cX10_init 1 = .ok (.iload_n 1, 1) := by decide +kernel
theorem dX10_init_2 : decode cX10_init 2 = .ok (.iload_n 2, 1) := by decide +kernel
theorem dX10_init_3 : decode cX10_init 3 = .ok (.invokespecial 1, 3) := by decide +kernel
theorem dX10_init_6 : decode cX10_init 6 = .ok (.return_, 1) := by decide +kernel
theorem dX10_chosen_0 : decode cX10_chosen 0 = .ok (.aload_n 1, 1) := by decide +kernel
theorem dX10_chosen_1 : decode cX10_chosen 1 = .ok (.getfield 7, 3) := by decide +kernel
theorem dX10_chosen_4 : decode cX10_chosen 4 = .ok (.getfield 13, 3) := by decide +kernel
theorem dX10_chosen_7 : decode cX10_chosen 7 = .ok (.istore 4, 2) := by decide +kernel
theorem dX10_chosen_9 : decode cX10_chosen 9 = .ok (.iconst 0, 1) := by decide +kernel
theorem dX10_chosen_10 : decode cX10_chosen 10 = .ok (.istore 5, 2) := by decide +kernel
theorem dX10_chosen_12 : decode cX10_chosen 12 = .ok (.iconst 0, 1) := by decide +kernel
theorem dX10_chosen_13 : decode cX10_chosen 13 = .ok (.istore 6, 2) := by decide +kernel
theorem dX10_chosen_15 : decode cX10_chosen 15 = .ok (.iload 6, 2) := by decide +kernel
theorem dX10_chosen_17 : decode cX10_chosen 17 = .ok (.aload_n 1, 1) := by decide +kernel
theorem dX10_chosen_18 : decode cX10_chosen 18 = .ok (.getfield 7, 3) := by decide +kernel
theorem dX10_chosen_21 : decode cX10_chosen 21 = .ok (.invokevirtual 19, 3) := by decide +kernel
theorem dX10_chosen_24 : decode cX10_chosen 24 = .ok (.if_icmp .ge 39, 3) := by decide +kernel
theorem dX10_chosen_27 : decode cX10_chosen 27 = .ok (.iload 4, 2) := by decide +kernel
theorem dX10_chosen_29 : decode cX10_chosen 29 = .ok (.ifCond .le 34, 3) := by decide +kernel
theorem dX10_chosen_32 : decode cX10_chosen 32 = .ok (.iload 5, 2) := by decide +kernel
theorem dX10_chosen_34 : decode cX10_chosen 34 = .ok (.iconst 1, 1) := by decide +kernel
theorem dX10_chosen_35 : decode cX10_chosen 35 = .ok (.aload_n 0, 1) := by decide +kernel
theorem dX10_chosen_36 : decode cX10_chosen 36 = .ok (.aload_n 1, 1) := by decide +kernel
theorem dX10_chosen_37 : decode cX10_chosen 37 = .ok (.getfield 7, 3) := by decide +kernel
theorem dX10_chosen_40 : decode cX10_chosen 40 = .ok (.getfield 23, 3) := by decide +kernel
theorem dX10_chosen_43 : decode cX10_chosen 43 = .ok (.iload_n 3, 1) := by decide +kernel
theorem dX10_chosen_44 : decode cX10_chosen 44 = .ok (.invokevirtual 26, 3) := by decide +kernel
theorem dX10_chosen_47 : decode cX10_chosen 47 = .ok (.iload 6, 2) := by decide +kernel
theorem dX10_chosen_49 : decode cX10_chosen 49 = .ok (.iadd, 1) := by decide +kernel
theorem dX10_chosen_50 : decode cX10_chosen 50 = .ok (.iload 4, 2) := by decide +kernel
theorem dX10_chosen_52 : decode cX10_chosen 52 = .ok (.irem, 1) := by decide +kernel
theorem dX10_chosen_53 : decode cX10_chosen 53 = .ok (.ishl, 1) := by decide +kernel
theorem dX10_chosen_54 : decode cX10_chosen 54 = .ok (.ior, 1) := by decide +kernel
theorem dX10_chosen_55 : decode cX10_chosen 55 = .ok (.istore 5, 2) := by decide +kernel
theorem dX10_chosen_57 : decode cX10_chosen 57 = .ok (.iinc 6 1, 3) := by decide +kernel
theorem dX10_chosen_60 : decode cX10_chosen 60 = .ok (.goto (-45), 3) := by decide +kernel
theorem dX10_chosen_63 : decode cX10_chosen 63 = .ok (.iload 5, 2) := by decide +kernel
theorem dX10_chosen_65 : decode cX10_chosen 65 = .ok (.ireturn, 1) := by decide +kernel
theorem dX10_beginning_0 : decode cX10_beginning 0 = .ok (.iload_n 2, 1) := by decide +kernel
theorem dX10_beginning_1 : decode cX10_beginning 1 = .ok (.iload_n 1, 1) := by decide +kernel
theorem dX10_beginning_2 : decode cX10_beginning 2 = .ok (.imul, 1) := by decide +kernel
theorem dX10_beginning_3 : decode cX10_beginning 3 = .ok (.aload_n 0, 1) := by decide +kernel
theorem dX10_beginning_4 : decode cX10_beginning 4 = .ok (.getfield 32, 3) := by decide +kernel
theorem dX10_beginning_7 : decode cX10_beginning 7 = .ok (.iadd, 1) := by decide +kernel
theorem dX10_beginning_8 : decode cX10_beginning 8 = .ok (.ireturn, 1) := by decide +kernel
theorem dX10_rows_0 : decode cX10_rows 0 = .ok (.aload_n 2, 1) := by decide +kernel
theorem dX10_rows_1 : decode cX10_rows 1 = .ok (.bipush 21, 2) := by decide +kernel
theorem dX10_rows_3 : decode cX10_rows 3 = .ok (.invokestatic 35, 3) := by decide +kernel
theorem dX10_rows_6 : decode cX10_rows 6 = .ok (.aload_n 0, 1) := by decide +kernel
theorem dX10_rows_7 : decode cX10_rows 7 = .ok (.iload_n 1, 1) := by decide +kernel
theorem dX10_rows_8 : decode cX10_rows 8 = .ok (.aload_n 2, 1) := by decide +kernel
theorem dX10_rows_9 : decode cX10_rows 9 = .ok (.invokespecial 39, 3) := by decide +kernel
theorem dX10_rows_12 : decode cX10_rows 12 = .ok (.iconst 5, 1) := by decide +kernel
theorem dX10_rows_13 : decode cX10_rows 13 = .ok (.ixor, 1) := by decide +kernel
theorem dX10_rows_14 : decode cX10_rows 14 = .ok (.ireturn, 1) := by decide +kernel
theorem dX11_init_0 : decode cX11_init 0 = .ok (.aload_n 0, 1) := by decide +kernel
theorem dX11_init_1 : decode cX11_init 1 = .ok (.invokespecial 5, 3) := by decide +kernel
theorem dX11_init_4 : decode cX11_init 4 = .ok (.aload_n 0, 1) := by decide +kernel
theorem dX11_init_5 : decode cX11_init 5 = .ok (.new 11, 3) := by decide +kernel
theorem dX11_init_8 : decode cX11_init 8 = .ok (.dup, 1) := by decide +kernel
theorem dX11_init_9 : decode cX11_init 9 = .ok (.invokespecial 13, 3) := by decide +kernel
theorem dX11_init_12 : decode cX11_init 12 = .ok (.putfield 14, 3) := by decide +kernel
theorem dX11_init_15 : decode cX11_init 15 = .ok (.aload_n 0, 1) := by decide +kernel
theorem dX11_init_16 : decode cX11_init 16 = .ok (.new 11, 3) := by decide +kernel
theorem dX11_init_19 : decode cX11_init 19 = .ok (.dup, 1) := by decide +kernel
theorem dX11_init_20 : decode cX11_init 20 = .ok (.invokespecial 13, 3) := by decide +kernel
theorem dX11_init_23 : decode cX11_init 23 = .ok (.putfield 18, 3) := by decide +kernel
theorem dX11_init_26 : decode cX11_init 26 = .ok (.aload_n 0, 1) := by decide +kernel
theorem dX11_init_27 : decode cX11_init 27 = .ok (.iconst 0, 1) := by decide +kernel
theorem dX11_init_28 : decode cX11_init 28 = .ok (.putfield 21, 3) := by decide +kernel
theorem dX11_init_31 : decode cX11_init 31 = .ok (.aload_n 0, 1) := by decide +kernel
theorem dX11_init_32 : decode cX11_init 32 = .ok (.new 25, 3) := by decide +kernel
theorem dX11_init_35 : decode cX11_init 35 = .ok (.dup, 1) := by decide +kernel
theorem dX11_init_36 : decode cX11_init 36 = .ok (.aload_n 0, 1) := by decide +kernel
theorem dX11_init_37 : decode cX11_init 37 = .ok (.getfield 14, 3) := by decide +kernel
theorem dX11_init_40 : decode cX11_init 40 = .ok (.invokespecial 27, 3) := by decide +kernel
theorem dX11_init_43 : decode cX11_init 43 = .ok (.putfield 30, 3) := by decide +kernel
theorem dX11_init_46 : decode cX11_init 46 = .ok (.aload_n 0, 1) := by decide +kernel
theorem dX11_init_47 : decode cX11_init 47 = .ok (.new 34, 3) := by decide +kernel
theorem dX11_init_50 : decode cX11_init 50 = .ok (.dup, 1) := by decide +kernel
theorem dX11_init_51 : decode cX11_init 51 = .ok (.aload_n 0, 1) := by decide +kernel
theorem dX11_init_52 : decode cX11_init 52 = .ok (.getfield 30, 3) := by decide +kernel
theorem dX11_init_55 : decode cX11_init 55 = .ok (.invokespecial 36, 3) := by decide +kernel
theorem dX11_init_58 : decode cX11_init 58 = .ok (.putfield 39, 3) := by decide +kernel
theorem dX11_init_61 : decode cX11_init 61 = .ok (.aload_n 0, 1) := by decide +kernel
theorem dX11_init_62 : decode cX11_init 62 = .ok (.bipush 8, 2) := by decide +kernel
theorem dX11_init_64 : decode cX11_init 64 = .ok (.newarray .int, 2) := by decide +kernel
theorem dX11_init_66 : decode cX11_init 66 = .ok (.putfield 43, 3) := by decide +kernel
theorem dX11_init_69 : decode cX11_init 69 = .ok (.aload_n 0, 1) := by decide +kernel
theorem dX11_init_70 : decode cX11_init 70 = .ok (.bipush 21, 2) := by decide +kernel
theorem dX11_init_72 : decode cX11_init 72 = .ok (.newarray .int, 2) := by decide +kernel
theorem dX11_init_74 : decode cX11_init 74 = .ok (.putfield 47, 3) := by decide +kernel
theorem dX11_init_77 : decode cX11_init 77 = .ok (.return_, 1) := by decide +kernel
theorem dX11_feed_0 : decode cX11_feed 0 = .ok (.iload_n 3, 1) := by decide +kernel
theorem dX11_feed_1 : decode cX11_feed 1 = .ok (.iconst 1, 1) := by decide +kernel
theorem dX11_feed_2 : decode cX11_feed 2 = .ok (.if_icmp .lt 9, 3) := by decide +kernel
theorem dX11_feed_5 : decode cX11_feed 5 = .ok (.iload_n 3, 1) := by decide +kernel
theorem dX11_feed_6 : decode cX11_feed 6 = .ok (.bipush 8, 2) := by decide +kernel
theorem dX11_feed_8 : decode cX11_feed 8 = .ok (.if_icmp .le 6, 3) := by decide +kernel
theorem dX11_feed_11 : decode cX11_feed 11 = .ok (.bipush (-2), 2) := by decide +kernel
theorem dX11_feed_13 : decode cX11_feed 13 = .ok (.ireturn, 1) := by decide +kernel
theorem dX11_feed_14 : decode cX11_feed 14 = .ok (.aload_n 0, 1) := by decide +kernel
theorem dX11_feed_15 : decode cX11_feed 15 = .ok (.getfield 14, 3) := by decide +kernel
theorem dX11_feed_18 : decode cX11_feed 18 = .ok (.getfield 50, 3) := by decide +kernel
theorem dX11_feed_21 : decode cX11_feed 21 = .ok (.iload_n 3, 1) := by decide +kernel
theorem dX11_feed_22 : decode cX11_feed 22 = .ok (.iadd, 1) := by decide +kernel
theorem dX11_feed_23 : decode cX11_feed 23 = .ok (.bipush 120, 2) := by decide +kernel
theorem dX11_feed_25 : decode cX11_feed 25 = .ok (.if_icmp .le 6, 3) := by decide +kernel
theorem dX11_feed_28 : decode cX11_feed 28 = .ok (.bipush (-4), 2) := by decide +kernel
theorem dX11_feed_30 : decode cX11_feed 30 = .ok (.ireturn, 1) := by decide +kernel
theorem dX11_feed_31 : decode cX11_feed 31 = .ok (.iload_n 3, 1) := by decide +kernel
theorem dX11_feed_32 : decode cX11_feed 32 = .ok (.iconst 1, 1) := by decide +kernel
theorem dX11_feed_33 : decode cX11_feed 33 = .ok (.isub, 1) := by decide +kernel
theorem dX11_feed_34 : decode cX11_feed 34 = .ok (.istore 4, 2) := by decide +kernel
theorem dX11_feed_36 : decode cX11_feed 36 = .ok (.iload 4, 2) := by decide +kernel
theorem dX11_feed_38 : decode cX11_feed 38 = .ok (.ifCond .lt 46, 3) := by decide +kernel
theorem dX11_feed_41 : decode cX11_feed 41 = .ok (.aload_n 0, 1) := by decide +kernel
theorem dX11_feed_42 : decode cX11_feed 42 = .ok (.getfield 14, 3) := by decide +kernel
theorem dX11_feed_45 : decode cX11_feed 45 = .ok (.getfield 54, 3) := by decide +kernel
theorem dX11_feed_48 : decode cX11_feed 48 = .ok (.aload_n 0, 1) := by decide +kernel
theorem dX11_feed_49 : decode cX11_feed 49 = .ok (.getfield 14, 3) := by decide +kernel
theorem dX11_feed_52 : decode cX11_feed 52 = .ok (.getfield 50, 3) := by decide +kernel
theorem dX11_feed_55 : decode cX11_feed 55 = .ok (.lload_n 1, 1) := by decide +kernel
theorem dX11_feed_56 : decode cX11_feed 56 = .ok (.bipush 8, 2) := by decide +kernel
theorem dX11_feed_58 : decode cX11_feed 58 = .ok (.iload 4, 2) := by decide +kernel
theorem dX11_feed_60 : decode cX11_feed 60 = .ok (.imul, 1) := by decide +kernel
theorem dX11_feed_61 : decode cX11_feed 61 = .ok (.lushr, 1) := by decide +kernel
theorem dX11_feed_62 : decode cX11_feed 62 = .ok (.l2i, 1) := by decide +kernel
theorem dX11_feed_63 : decode cX11_feed 63 = .ok (.i2b, 1) := by decide +kernel
theorem dX11_feed_64 : decode cX11_feed 64 = .ok (.bastore, 1) := by decide +kernel
theorem dX11_feed_65 : decode cX11_feed 65 = .ok (.aload_n 0, 1) := by decide +kernel
theorem dX11_feed_66 : decode cX11_feed 66 = .ok (.getfield 14, 3) := by decide +kernel
theorem dX11_feed_69 : decode cX11_feed 69 = .ok (.dup, 1) := by decide +kernel
theorem dX11_feed_70 : decode cX11_feed 70 = .ok (.getfield 50, 3) := by decide +kernel
theorem dX11_feed_73 : decode cX11_feed 73 = .ok (.iconst 1, 1) := by decide +kernel
theorem dX11_feed_74 : decode cX11_feed 74 = .ok (.iadd, 1) := by decide +kernel
theorem dX11_feed_75 : decode cX11_feed 75 = .ok (.putfield 50, 3) := by decide +kernel
theorem dX11_feed_78 : decode cX11_feed 78 = .ok (.iinc 4 (-1), 3) := by decide +kernel
theorem dX11_feed_81 : decode cX11_feed 81 = .ok (.goto (-45), 3) := by decide +kernel
theorem dX11_feed_84 : decode cX11_feed 84 = .ok (.aload_n 0, 1) := by decide +kernel
theorem dX11_feed_85 : decode cX11_feed 85 = .ok (.getfield 14, 3) := by decide +kernel
theorem dX11_feed_88 : decode cX11_feed 88 = .ok (.getfield 50, 3) := by decide +kernel
theorem dX11_feed_91 : decode cX11_feed 91 = .ok (.ireturn, 1) := by decide +kernel
theorem dX11_sort_0 : decode cX11_sort 0 = .ok (.aload_n 0, 1) := by decide +kernel
theorem dX11_sort_1 : decode cX11_sort 1 = .ok (.getfield 14, 3) := by decide +kernel
theorem dX11_sort_4 : decode cX11_sort 4 = .ok (.getfield 58, 3) := by decide +kernel
theorem dX11_sort_7 : decode cX11_sort 7 = .ok (.bipush 6, 2) := by decide +kernel
theorem dX11_sort_9 : decode cX11_sort 9 = .ok (.if_icmp .lt 6, 3) := by decide +kernel
theorem dX11_sort_12 : decode cX11_sort 12 = .ok (.bipush (-4), 2) := by decide +kernel
theorem dX11_sort_14 : decode cX11_sort 14 = .ok (.ireturn, 1) := by decide +kernel
theorem dX11_sort_15 : decode cX11_sort 15 = .ok (.new 61, 3) := by decide +kernel
theorem dX11_sort_18 : decode cX11_sort 18 = .ok (.dup, 1) := by decide +kernel
theorem dX11_sort_19 : decode cX11_sort 19 = .ok (.aload_n 0, 1) := by decide +kernel
theorem dX11_sort_20 : decode cX11_sort 20 = .ok (.getfield 14, 3) := by decide +kernel
theorem dX11_sort_23 : decode cX11_sort 23 = .ok (.getfield 54, 3) := by decide +kernel
theorem dX11_sort_26 : decode cX11_sort 26 = .ok (.aload_n 0, 1) := by decide +kernel
theorem dX11_sort_27 : decode cX11_sort 27 = .ok (.getfield 14, 3) := by decide +kernel
theorem dX11_sort_30 : decode cX11_sort 30 = .ok (.getfield 50, 3) := by decide +kernel
theorem dX11_sort_33 : decode cX11_sort 33 = .ok (.invokespecial 63, 3) := by decide +kernel
theorem dX11_sort_36 : decode cX11_sort 36 = .ok (.astore_n 1, 1) := by decide +kernel
theorem dX11_sort_37 : decode cX11_sort 37 = .ok (.aload_n 1, 1) := by decide +kernel
theorem dX11_sort_38 : decode cX11_sort 38 = .ok (.invokevirtual 66, 3) := by decide +kernel
theorem dX11_sort_41 : decode cX11_sort 41 = .ok (.istore_n 2, 1) := by decide +kernel
theorem dX11_sort_42 : decode cX11_sort 42 = .ok (.aload_n 0, 1) := by decide +kernel
theorem dX11_sort_43 : decode cX11_sort 43 = .ok (.getfield 14, 3) := by decide +kernel
theorem dX11_sort_46 : decode cX11_sort 46 = .ok (.iconst 0, 1) := by decide +kernel
theorem dX11_sort_47 : decode cX11_sort 47 = .ok (.putfield 50, 3) := by decide +kernel
theorem dX11_sort_50 : decode cX11_sort 50 = .ok (.iload_n 2, 1) := by decide +kernel
theorem dX11_sort_51 : decode cX11_sort 51 = .ok (.ifCond .lt 8, 3) := by decide +kernel
theorem dX11_sort_54 : decode cX11_sort 54 = .ok (.bipush (-10), 2) := by decide +kernel
theorem dX11_sort_56 : decode cX11_sort 56 = .ok (.iload_n 2, 1) := by decide +kernel
theorem dX11_sort_57 : decode cX11_sort 57 = .ok (.isub, 1) := by decide +kernel
theorem dX11_sort_58 : decode cX11_sort 58 = .ok (.ireturn, 1) := by decide +kernel
theorem dX11_sort_59 : decode cX11_sort 59 = .ok (.aload_n 0, 1) := by decide +kernel
theorem dX11_sort_60 : decode cX11_sort 60 = .ok (.getfield 14, 3) := by decide +kernel
theorem dX11_sort_63 : decode cX11_sort 63 = .ok (.getfield 70, 3) := by decide +kernel
theorem dX11_sort_66 : decode cX11_sort 66 = .ok (.aload_n 0, 1) := by decide +kernel
theorem dX11_sort_67 : decode cX11_sort 67 = .ok (.getfield 14, 3) := by decide +kernel
theorem dX11_sort_70 : decode cX11_sort 70 = .ok (.getfield 58, 3) := by decide +kernel
theorem dX11_sort_73 : decode cX11_sort 73 = .ok (.aload_n 1, 1) := by decide +kernel
theorem dX11_sort_74 : decode cX11_sort 74 = .ok (.aastore, 1) := by decide +kernel
theorem dX11_sort_75 : decode cX11_sort 75 = .ok (.aload_n 0, 1) := by decide +kernel
theorem dX11_sort_76 : decode cX11_sort 76 = .ok (.getfield 14, 3) := by decide +kernel
theorem dX11_sort_79 : decode cX11_sort 79 = .ok (.dup, 1) := by decide +kernel
theorem dX11_sort_80 : decode cX11_sort 80 = .ok (.getfield 58, 3) := by decide +kernel
theorem dX11_sort_83 : decode cX11_sort 83 = .ok (.iconst 1, 1) := by decide +kernel
theorem dX11_sort_84 : decode cX11_sort 84 = .ok (.iadd, 1) := by decide +kernel
theorem dX11_sort_85 : decode cX11_sort 85 = .ok (.putfield 58, 3) := by decide +kernel
theorem dX11_sort_88 : decode cX11_sort 88 = .ok (.aload_n 0, 1) := by decide +kernel
theorem dX11_sort_89 : decode cX11_sort 89 = .ok (.getfield 14, 3) := by decide +kernel
theorem dX11_sort_92 : decode cX11_sort 92 = .ok (.getfield 58, 3) := by decide +kernel
theorem dX11_sort_95 : decode cX11_sort 95 = .ok (.iconst 1, 1) := by decide +kernel
theorem dX11_sort_96 : decode cX11_sort 96 = .ok (.isub, 1) := by decide +kernel
theorem dX11_sort_97 : decode cX11_sort 97 = .ok (.ireturn, 1) := by decide +kernel
theorem dX11_told_0 : decode cX11_told 0 = .ok (.iload_n 1, 1) := by decide +kernel
theorem dX11_told_1 : decode cX11_told 1 = .ok (.iconst 0, 1) := by decide +kernel
theorem dX11_told_2 : decode cX11_told 2 = .ok (.aload_n 0, 1) := by decide +kernel
theorem dX11_told_3 : decode cX11_told 3 = .ok (.getfield 14, 3) := by decide +kernel
theorem dX11_told_6 : decode cX11_told 6 = .ok (.getfield 58, 3) := by decide +kernel
theorem dX11_told_9 : decode cX11_told 9 = .ok (.iconst 1, 1) := by decide +kernel
theorem dX11_told_10 : decode cX11_told 10 = .ok (.isub, 1) := by decide +kernel
theorem dX11_told_11 : decode cX11_told 11 = .ok (.invokestatic 74, 3) := by decide +kernel
theorem dX11_told_14 : decode cX11_told 14 = .ok (.ifCond .eq 13, 3) := by decide +kernel
theorem dX11_told_17 : decode cX11_told 17 = .ok (.iload 4, 2) := by decide +kernel
theorem dX11_told_19 : decode cX11_told 19 = .ok (.iconst 0, 1) := by decide +kernel
theorem dX11_told_20 : decode cX11_told 20 = .ok (.iconst 5, 1) := by decide +kernel
theorem dX11_told_21 : decode cX11_told 21 = .ok (.invokestatic 74, 3) := by decide +kernel
theorem dX11_told_24 : decode cX11_told 24 = .ok (.ifCond .ne 5, 3) := by decide +kernel
theorem dX11_told_27 : decode cX11_told 27 = .ok (.iconst (-1), 1) := by decide +kernel
theorem dX11_told_28 : decode cX11_told 28 = .ok (.ireturn, 1) := by decide +kernel
theorem dX11_told_29 : decode cX11_told 29 = .ok (.iload_n 2, 1) := by decide +kernel
theorem dX11_told_30 : decode cX11_told 30 = .ok (.iconst 0, 1) := by decide +kernel
theorem dX11_told_31 : decode cX11_told 31 = .ok (.sipush 999, 3) := by decide +kernel
theorem dX11_told_34 : decode cX11_told 34 = .ok (.invokestatic 74, 3) := by decide +kernel
theorem dX11_told_37 : decode cX11_told 37 = .ok (.ifCond .eq 13, 3) := by decide +kernel
theorem dX11_told_40 : decode cX11_told 40 = .ok (.iload_n 3, 1) := by decide +kernel
theorem dX11_told_41 : decode cX11_told 41 = .ok (.iconst 0, 1) := by decide +kernel
theorem dX11_told_42 : decode cX11_told 42 = .ok (.bipush 99, 2) := by decide +kernel
theorem dX11_told_44 : decode cX11_told 44 = .ok (.invokestatic 74, 3) := by decide +kernel
theorem dX11_told_47 : decode cX11_told 47 = .ok (.ifCond .ne 6, 3) := by decide +kernel
theorem dX11_told_50 : decode cX11_told 50 = .ok (.bipush (-2), 2) := by decide +kernel
theorem dX11_told_52 : decode cX11_told 52 = .ok (.ireturn, 1) := by decide +kernel
theorem dX11_told_53 : decode cX11_told 53 = .ok (.aload_n 0, 1) := by decide +kernel
theorem dX11_told_54 : decode cX11_told 54 = .ok (.getfield 14, 3) := by decide +kernel
theorem dX11_told_57 : decode cX11_told 57 = .ok (.getfield 70, 3) := by decide +kernel
theorem dX11_told_60 : decode cX11_told 60 = .ok (.iload_n 1, 1) := by decide +kernel
theorem dX11_told_61 : decode cX11_told 61 = .ok (.aaload, 1) := by decide +kernel
theorem dX11_told_62 : decode cX11_told 62 = .ok (.astore 5, 2) := by decide +kernel
theorem dX11_told_64 : decode cX11_told 64 = .ok (.iload 4, 2) := by decide +kernel
theorem dX11_told_66 : decode cX11_told 66 = .ok (.ifCond .eq 9, 3) := by decide +kernel
theorem dX11_told_69 : decode cX11_told 69 = .ok (.iload 4, 2) := by decide +kernel
theorem dX11_told_71 : decode cX11_told 71 = .ok (.iconst 1, 1) := by decide +kernel
theorem dX11_told_72 : decode cX11_told 72 = .ok (.if_icmp .ne 15, 3) := by decide +kernel
theorem dX11_told_75 : decode cX11_told 75 = .ok (.aload 5, 2) := by decide +kernel
theorem dX11_told_77 : decode cX11_told 77 = .ok (.iload 4, 2) := by decide +kernel
theorem dX11_told_79 : decode cX11_told 79 = .ok (.iload_n 2, 1) := by decide +kernel
theorem dX11_told_80 : decode cX11_told 80 = .ok (.iload_n 3, 1) := by decide +kernel
theorem dX11_told_81 : decode cX11_told 81 = .ok (.invokevirtual 78, 3) := by decide +kernel
theorem dX11_told_84 : decode cX11_told 84 = .ok (.goto 11, 3) := by decide +kernel
theorem dX11_told_87 : decode cX11_told 87 = .ok (.aload 5, 2) := by decide +kernel
theorem dX11_told_89 : decode cX11_told 89 = .ok (.getfield 82, 3) := by decide +kernel
theorem dX11_told_92 : decode cX11_told 92 = .ok (.iload 4, 2) := by decide +kernel
theorem dX11_told_94 : decode cX11_told 94 = .ok (.iaload, 1) := by decide +kernel
theorem dX11_told_95 : decode cX11_told 95 = .ok (.ireturn, 1) := by decide +kernel
theorem dX11_thing_0 : decode cX11_thing 0 = .ok (.iload_n 1, 1) := by decide +kernel
theorem dX11_thing_1 : decode cX11_thing 1 = .ok (.iconst 0, 1) := by decide +kernel
theorem dX11_thing_2 : decode cX11_thing 2 = .ok (.aload_n 0, 1) := by decide +kernel
theorem dX11_thing_3 : decode cX11_thing 3 = .ok (.getfield 14, 3) := by decide +kernel
theorem dX11_thing_6 : decode cX11_thing 6 = .ok (.getfield 58, 3) := by decide +kernel
theorem dX11_thing_9 : decode cX11_thing 9 = .ok (.iconst 1, 1) := by decide +kernel
theorem dX11_thing_10 : decode cX11_thing 10 = .ok (.isub, 1) := by decide +kernel
theorem dX11_thing_11 : decode cX11_thing 11 = .ok (.invokestatic 74, 3) := by decide +kernel
theorem dX11_thing_14 : decode cX11_thing 14 = .ok (.ifCond .ne 5, 3) := by decide +kernel
theorem dX11_thing_17 : decode cX11_thing 17 = .ok (.iconst (-1), 1) := by decide +kernel
theorem dX11_thing_18 : decode cX11_thing 18 = .ok (.ireturn, 1) := by decide +kernel
theorem dX11_thing_19 : decode cX11_thing 19 = .ok (.iload_n 2, 1) := by decide +kernel
theorem dX11_thing_20 : decode cX11_thing 20 = .ok (.iconst 0, 1) := by decide +kernel
theorem dX11_thing_21 : decode cX11_thing 21 = .ok (.bipush 99, 2) := by decide +kernel
theorem dX11_thing_23 : decode cX11_thing 23 = .ok (.invokestatic 74, 3) := by decide +kernel
theorem dX11_thing_26 : decode cX11_thing 26 = .ok (.ifCond .ne 6, 3) := by decide +kernel
theorem dX11_thing_29 : decode cX11_thing 29 = .ok (.bipush (-2), 2) := by decide +kernel
theorem dX11_thing_31 : decode cX11_thing 31 = .ok (.ireturn, 1) := by decide +kernel
theorem dX11_thing_32 : decode cX11_thing 32 = .ok (.aload_n 0, 1) := by decide +kernel
theorem dX11_thing_33 : decode cX11_thing 33 = .ok (.getfield 14, 3) := by decide +kernel
theorem dX11_thing_36 : decode cX11_thing 36 = .ok (.getfield 85, 3) := by decide +kernel
theorem dX11_thing_39 : decode cX11_thing 39 = .ok (.bipush 8, 2) := by decide +kernel
theorem dX11_thing_41 : decode cX11_thing 41 = .ok (.if_icmp .lt 6, 3) := by decide +kernel
theorem dX11_thing_44 : decode cX11_thing 44 = .ok (.bipush (-4), 2) := by decide +kernel
theorem dX11_thing_46 : decode cX11_thing 46 = .ok (.ireturn, 1) := by decide +kernel
theorem dX11_thing_47 : decode cX11_thing 47 = .ok (.aload_n 0, 1) := by decide +kernel
theorem dX11_thing_48 : decode cX11_thing 48 = .ok (.getfield 14, 3) := by decide +kernel
theorem dX11_thing_51 : decode cX11_thing 51 = .ok (.iload_n 1, 1) := by decide +kernel
theorem dX11_thing_52 : decode cX11_thing 52 = .ok (.iload_n 2, 1) := by decide +kernel
theorem dX11_thing_53 : decode cX11_thing 53 = .ok (.invokevirtual 88, 3) := by decide +kernel
theorem dX11_thing_56 : decode cX11_thing 56 = .ok (.ireturn, 1) := by decide +kernel
theorem dX11_of_0 : decode cX11_of 0 = .ok (.aload_n 0, 1) := by decide +kernel
theorem dX11_of_1 : decode cX11_of 1 = .ok (.getfield 14, 3) := by decide +kernel
theorem dX11_of_4 : decode cX11_of 4 = .ok (.iload_n 1, 1) := by decide +kernel
theorem dX11_of_5 : decode cX11_of 5 = .ok (.invokevirtual 92, 3) := by decide +kernel
theorem dX11_of_8 : decode cX11_of 8 = .ok (.ifCond .ne 5, 3) := by decide +kernel
theorem dX11_of_11 : decode cX11_of 11 = .ok (.iconst (-1), 1) := by decide +kernel
theorem dX11_of_12 : decode cX11_of 12 = .ok (.ireturn, 1) := by decide +kernel
theorem dX11_of_13 : decode cX11_of 13 = .ok (.iload_n 2, 1) := by decide +kernel
theorem dX11_of_14 : decode cX11_of 14 = .ok (.tableswitch 98 0 5 #[38, 48, 58, 68, 78, 88], 38) := by decide +kernel
theorem dX11_of_52 : decode cX11_of 52 = .ok (.aload_n 0, 1) := by decide +kernel
theorem dX11_of_53 : decode cX11_of 53 = .ok (.getfield 14, 3) := by decide +kernel
theorem dX11_of_56 : decode cX11_of 56 = .ok (.getfield 96, 3) := by decide +kernel
theorem dX11_of_59 : decode cX11_of 59 = .ok (.iload_n 1, 1) := by decide +kernel
theorem dX11_of_60 : decode cX11_of 60 = .ok (.iaload, 1) := by decide +kernel
theorem dX11_of_61 : decode cX11_of 61 = .ok (.ireturn, 1) := by decide +kernel
theorem dX11_of_62 : decode cX11_of 62 = .ok (.aload_n 0, 1) := by decide +kernel
theorem dX11_of_63 : decode cX11_of 63 = .ok (.getfield 14, 3) := by decide +kernel
theorem dX11_of_66 : decode cX11_of 66 = .ok (.getfield 99, 3) := by decide +kernel
theorem dX11_of_69 : decode cX11_of 69 = .ok (.iload_n 1, 1) := by decide +kernel
theorem dX11_of_70 : decode cX11_of 70 = .ok (.iaload, 1) := by decide +kernel
theorem dX11_of_71 : decode cX11_of 71 = .ok (.ireturn, 1) := by decide +kernel
theorem dX11_of_72 : decode cX11_of 72 = .ok (.aload_n 0, 1) := by decide +kernel
theorem dX11_of_73 : decode cX11_of 73 = .ok (.getfield 14, 3) := by decide +kernel
theorem dX11_of_76 : decode cX11_of 76 = .ok (.getfield 102, 3) := by decide +kernel
theorem dX11_of_79 : decode cX11_of 79 = .ok (.iload_n 1, 1) := by decide +kernel
theorem dX11_of_80 : decode cX11_of 80 = .ok (.iaload, 1) := by decide +kernel
theorem dX11_of_81 : decode cX11_of 81 = .ok (.ireturn, 1) := by decide +kernel
theorem dX11_of_82 : decode cX11_of 82 = .ok (.aload_n 0, 1) := by decide +kernel
theorem dX11_of_83 : decode cX11_of 83 = .ok (.getfield 14, 3) := by decide +kernel
theorem dX11_of_86 : decode cX11_of 86 = .ok (.getfield 105, 3) := by decide +kernel
theorem dX11_of_89 : decode cX11_of 89 = .ok (.iload_n 1, 1) := by decide +kernel
theorem dX11_of_90 : decode cX11_of 90 = .ok (.iaload, 1) := by decide +kernel
theorem dX11_of_91 : decode cX11_of 91 = .ok (.ireturn, 1) := by decide +kernel
theorem dX11_of_92 : decode cX11_of 92 = .ok (.aload_n 0, 1) := by decide +kernel
theorem dX11_of_93 : decode cX11_of 93 = .ok (.getfield 14, 3) := by decide +kernel
theorem dX11_of_96 : decode cX11_of 96 = .ok (.getfield 108, 3) := by decide +kernel
theorem dX11_of_99 : decode cX11_of 99 = .ok (.iload_n 1, 1) := by decide +kernel
theorem dX11_of_100 : decode cX11_of 100 = .ok (.iaload, 1) := by decide +kernel
theorem dX11_of_101 : decode cX11_of 101 = .ok (.ireturn, 1) := by decide +kernel
theorem dX11_of_102 : decode cX11_of 102 = .ok (.aload_n 0, 1) := by decide +kernel
theorem dX11_of_103 : decode cX11_of 103 = .ok (.getfield 14, 3) := by decide +kernel
theorem dX11_of_106 : decode cX11_of 106 = .ok (.getfield 111, 3) := by decide +kernel
theorem dX11_of_109 : decode cX11_of 109 = .ok (.iload_n 1, 1) := by decide +kernel
theorem dX11_of_110 : decode cX11_of 110 = .ok (.iaload, 1) := by decide +kernel
theorem dX11_of_111 : decode cX11_of 111 = .ok (.ireturn, 1) := by decide +kernel
theorem dX11_of_112 : decode cX11_of 112 = .ok (.iconst (-1), 1) := by decide +kernel
theorem dX11_of_113 : decode cX11_of 113 = .ok (.ireturn, 1) := by decide +kernel
theorem dX11_days_0 : decode cX11_days 0 = .ok (.iload_n 1, 1) := by decide +kernel
theorem dX11_days_1 : decode cX11_days 1 = .ok (.iconst 1, 1) := by decide +kernel
theorem dX11_days_2 : decode cX11_days 2 = .ok (.bipush 20, 2) := by decide +kernel
theorem dX11_days_4 : decode cX11_days 4 = .ok (.invokestatic 74, 3) := by decide +kernel
theorem dX11_days_7 : decode cX11_days 7 = .ok (.ifCond .eq 18, 3) := by decide +kernel
theorem dX11_days_10 : decode cX11_days 10 = .ok (.aload_n 0, 1) := by decide +kernel
theorem dX11_days_11 : decode cX11_days 11 = .ok (.getfield 14, 3) := by decide +kernel
theorem dX11_days_14 : decode cX11_days 14 = .ok (.getfield 114, 3) := by decide +kernel
theorem dX11_days_17 : decode cX11_days 17 = .ok (.iload_n 1, 1) := by decide +kernel
theorem dX11_days_18 : decode cX11_days 18 = .ok (.iadd, 1) := by decide +kernel
theorem dX11_days_19 : decode cX11_days 19 = .ok (.sipush 999, 3) := by decide +kernel
theorem dX11_days_22 : decode cX11_days 22 = .ok (.if_icmp .le 6, 3) := by decide +kernel
theorem dX11_days_25 : decode cX11_days 25 = .ok (.bipush (-2), 2) := by decide +kernel
theorem dX11_days_27 : decode cX11_days 27 = .ok (.ireturn, 1) := by decide +kernel
theorem dX11_days_28 : decode cX11_days 28 = .ok (.iconst 0, 1) := by decide +kernel
theorem dX11_days_29 : decode cX11_days 29 = .ok (.istore_n 2, 1) := by decide +kernel
theorem dX11_days_30 : decode cX11_days 30 = .ok (.iload_n 2, 1) := by decide +kernel
theorem dX11_days_31 : decode cX11_days 31 = .ok (.iload_n 1, 1) := by decide +kernel
theorem dX11_days_32 : decode cX11_days 32 = .ok (.if_icmp .ge 16, 3) := by decide +kernel
theorem dX11_days_35 : decode cX11_days 35 = .ok (.aload_n 0, 1) := by decide +kernel
theorem dX11_days_36 : decode cX11_days 36 = .ok (.getfield 14, 3) := by decide +kernel
theorem dX11_days_39 : decode cX11_days 39 = .ok (.invokevirtual 117, 3) := by decide +kernel
theorem dX11_days_42 : decode cX11_days 42 = .ok (.iinc 2 1, 3) := by decide +kernel
theorem dX11_days_45 : decode cX11_days 45 = .ok (.goto (-15), 3) := by decide +kernel
theorem dX11_days_48 : decode cX11_days 48 = .ok (.aload_n 0, 1) := by decide +kernel
theorem dX11_days_49 : decode cX11_days 49 = .ok (.getfield 14, 3) := by decide +kernel
theorem dX11_days_52 : decode cX11_days 52 = .ok (.getfield 114, 3) := by decide +kernel
theorem dX11_days_55 : decode cX11_days 55 = .ok (.ireturn, 1) := by decide +kernel
theorem dX11_seen_0 : decode cX11_seen 0 = .ok (.aload_n 0, 1) := by decide +kernel
theorem dX11_seen_1 : decode cX11_seen 1 = .ok (.getfield 14, 3) := by decide +kernel
theorem dX11_seen_4 : decode cX11_seen 4 = .ok (.iload_n 1, 1) := by decide +kernel
theorem dX11_seen_5 : decode cX11_seen 5 = .ok (.invokevirtual 92, 3) := by decide +kernel
theorem dX11_seen_8 : decode cX11_seen 8 = .ok (.ifCond .ne 5, 3) := by decide +kernel
theorem dX11_seen_11 : decode cX11_seen 11 = .ok (.iconst (-1), 1) := by decide +kernel
theorem dX11_seen_12 : decode cX11_seen 12 = .ok (.ireturn, 1) := by decide +kernel
theorem dX11_seen_13 : decode cX11_seen 13 = .ok (.aload_n 0, 1) := by decide +kernel
theorem dX11_seen_14 : decode cX11_seen 14 = .ok (.getfield 14, 3) := by decide +kernel
theorem dX11_seen_17 : decode cX11_seen 17 = .ok (.getfield 102, 3) := by decide +kernel
theorem dX11_seen_20 : decode cX11_seen 20 = .ok (.iload_n 1, 1) := by decide +kernel
theorem dX11_seen_21 : decode cX11_seen 21 = .ok (.iaload, 1) := by decide +kernel
theorem dX11_seen_22 : decode cX11_seen 22 = .ok (.istore_n 3, 1) := by decide +kernel
theorem dX11_seen_23 : decode cX11_seen 23 = .ok (.aload_n 0, 1) := by decide +kernel
theorem dX11_seen_24 : decode cX11_seen 24 = .ok (.getfield 14, 3) := by decide +kernel
theorem dX11_seen_27 : decode cX11_seen 27 = .ok (.getfield 120, 3) := by decide +kernel
theorem dX11_seen_30 : decode cX11_seen 30 = .ok (.iload_n 1, 1) := by decide +kernel
theorem dX11_seen_31 : decode cX11_seen 31 = .ok (.iload_n 2, 1) := by decide +kernel
theorem dX11_seen_32 : decode cX11_seen 32 = .ok (.bastore, 1) := by decide +kernel
theorem dX11_seen_33 : decode cX11_seen 33 = .ok (.aload_n 0, 1) := by decide +kernel
theorem dX11_seen_34 : decode cX11_seen 34 = .ok (.getfield 14, 3) := by decide +kernel
theorem dX11_seen_37 : decode cX11_seen 37 = .ok (.getfield 102, 3) := by decide +kernel
theorem dX11_seen_40 : decode cX11_seen 40 = .ok (.iload_n 1, 1) := by decide +kernel
theorem dX11_seen_41 : decode cX11_seen 41 = .ok (.iload_n 2, 1) := by decide +kernel
theorem dX11_seen_42 : decode cX11_seen 42 = .ok (.ifCond .eq 8, 3) := by decide +kernel
theorem dX11_seen_45 : decode cX11_seen 45 = .ok (.ldc 124, 2) := by decide +kernel
theorem dX11_seen_47 : decode cX11_seen 47 = .ok (.goto 4, 3) := by decide +kernel
theorem dX11_seen_50 : decode cX11_seen 50 = .ok (.iconst 0, 1) := by decide +kernel
theorem dX11_seen_51 : decode cX11_seen 51 = .ok (.iastore, 1) := by decide +kernel
theorem dX11_seen_52 : decode cX11_seen 52 = .ok (.aload_n 0, 1) := by decide +kernel
theorem dX11_seen_53 : decode cX11_seen 53 = .ok (.getfield 14, 3) := by decide +kernel
theorem dX11_seen_56 : decode cX11_seen 56 = .ok (.getfield 105, 3) := by decide +kernel
theorem dX11_seen_59 : decode cX11_seen 59 = .ok (.iload_n 1, 1) := by decide +kernel
theorem dX11_seen_60 : decode cX11_seen 60 = .ok (.iconst 0, 1) := by decide +kernel
theorem dX11_seen_61 : decode cX11_seen 61 = .ok (.iastore, 1) := by decide +kernel
theorem dX11_seen_62 : decode cX11_seen 62 = .ok (.iload_n 3, 1) := by decide +kernel
theorem dX11_seen_63 : decode cX11_seen 63 = .ok (.ireturn, 1) := by decide +kernel
theorem dX11_best_0 : decode cX11_best 0 = .ok (.aload_n 0, 1) := by decide +kernel
theorem dX11_best_1 : decode cX11_best 1 = .ok (.getfield 14, 3) := by decide +kernel
theorem dX11_best_4 : decode cX11_best 4 = .ok (.iload_n 1, 1) := by decide +kernel
theorem dX11_best_5 : decode cX11_best 5 = .ok (.invokevirtual 92, 3) := by decide +kernel
theorem dX11_best_8 : decode cX11_best 8 = .ok (.ifCond .eq 34, 3) := by decide +kernel
theorem dX11_best_11 : decode cX11_best 11 = .ok (.iload_n 2, 1) := by decide +kernel
theorem dX11_best_12 : decode cX11_best 12 = .ok (.iconst 0, 1) := by decide +kernel
theorem dX11_best_13 : decode cX11_best 13 = .ok (.sipush 200, 3) := by decide +kernel
theorem dX11_best_16 : decode cX11_best 16 = .ok (.invokestatic 74, 3) := by decide +kernel
theorem dX11_best_19 : decode cX11_best 19 = .ok (.ifCond .eq 23, 3) := by decide +kernel
theorem dX11_best_22 : decode cX11_best 22 = .ok (.iload_n 3, 1) := by decide +kernel
theorem dX11_best_23 : decode cX11_best 23 = .ok (.iconst 1, 1) := by decide +kernel
theorem dX11_best_24 : decode cX11_best 24 = .ok (.bipush 8, 2) := by decide +kernel
theorem dX11_best_26 : decode cX11_best 26 = .ok (.invokestatic 74, 3) := by decide +kernel
theorem dX11_best_29 : decode cX11_best 29 = .ok (.ifCond .eq 13, 3) := by decide +kernel
theorem dX11_best_32 : decode cX11_best 32 = .ok (.iload 4, 2) := by decide +kernel
theorem dX11_best_34 : decode cX11_best 34 = .ok (.iconst 0, 1) := by decide +kernel
theorem dX11_best_35 : decode cX11_best 35 = .ok (.iconst 2, 1) := by decide +kernel
theorem dX11_best_36 : decode cX11_best 36 = .ok (.invokestatic 74, 3) := by decide +kernel
theorem dX11_best_39 : decode cX11_best 39 = .ok (.ifCond .ne 7, 3) := by decide +kernel
theorem dX11_best_42 : decode cX11_best 42 = .ok (.ldc2_w 125, 3) := by decide +kernel
theorem dX11_best_45 : decode cX11_best 45 = .ok (.lreturn, 1) := by decide +kernel
theorem dX11_best_46 : decode cX11_best 46 = .ok (.aload_n 0, 1) := by decide +kernel
theorem dX11_best_47 : decode cX11_best 47 = .ok (.getfield 30, 3) := by decide +kernel
theorem dX11_best_50 : decode cX11_best 50 = .ok (.iload_n 1, 1) := by decide +kernel
theorem dX11_best_51 : decode cX11_best 51 = .ok (.iload_n 3, 1) := by decide +kernel
theorem dX11_best_52 : decode cX11_best 52 = .ok (.iconst 0, 1) := by decide +kernel
theorem dX11_best_53 : decode cX11_best 53 = .ok (.invokevirtual 127, 3) := by decide +kernel
theorem dX11_best_56 : decode cX11_best 56 = .ok (.aload_n 0, 1) := by decide +kernel
theorem dX11_best_57 : decode cX11_best 57 = .ok (.getfield 30, 3) := by decide +kernel
theorem dX11_best_60 : decode cX11_best 60 = .ok (.iload_n 1, 1) := by decide +kernel
theorem dX11_best_61 : decode cX11_best 61 = .ok (.iconst 0, 1) := by decide +kernel
theorem dX11_best_62 : decode cX11_best 62 = .ok (.iload_n 2, 1) := by decide +kernel
theorem dX11_best_63 : decode cX11_best 63 = .ok (.iload_n 3, 1) := by decide +kernel
theorem dX11_best_64 : decode cX11_best 64 = .ok (.invokevirtual 131, 3) := by decide +kernel
theorem dX11_best_67 : decode cX11_best 67 = .ok (.iload 4, 2) := by decide +kernel
theorem dX11_best_69 : decode cX11_best 69 = .ok (.ifCond .ne 21, 3) := by decide +kernel
theorem dX11_best_72 : decode cX11_best 72 = .ok (.aload_n 0, 1) := by decide +kernel
theorem dX11_best_73 : decode cX11_best 73 = .ok (.getfield 30, 3) := by decide +kernel
theorem dX11_best_76 : decode cX11_best 76 = .ok (.getfield 135, 3) := by decide +kernel
theorem dX11_best_79 : decode cX11_best 79 = .ok (.aload_n 0, 1) := by decide +kernel
theorem dX11_best_80 : decode cX11_best 80 = .ok (.getfield 30, 3) := by decide +kernel
theorem dX11_best_83 : decode cX11_best 83 = .ok (.getfield 139, 3) := by decide +kernel
theorem dX11_best_86 : decode cX11_best 86 = .ok (.invokestatic 142, 3) := by decide +kernel
theorem dX11_best_89 : decode cX11_best 89 = .ok (.lreturn, 1) := by decide +kernel
theorem dX11_best_90 : decode cX11_best 90 = .ok (.iload 4, 2) := by decide +kernel
theorem dX11_best_92 : decode cX11_best 92 = .ok (.iconst 1, 1) := by decide +kernel
theorem dX11_best_93 : decode cX11_best 93 = .ok (.if_icmp .ne 13, 3) := by decide +kernel
theorem dX11_best_96 : decode cX11_best 96 = .ok (.aload_n 0, 1) := by decide +kernel
theorem dX11_best_97 : decode cX11_best 97 = .ok (.getfield 30, 3) := by decide +kernel
theorem dX11_best_100 : decode cX11_best 100 = .ok (.getfield 135, 3) := by decide +kernel
theorem dX11_best_103 : decode cX11_best 103 = .ok (.goto 10, 3) := by decide +kernel
theorem dX11_best_106 : decode cX11_best 106 = .ok (.aload_n 0, 1) := by decide +kernel
theorem dX11_best_107 : decode cX11_best 107 = .ok (.getfield 30, 3) := by decide +kernel
theorem dX11_best_110 : decode cX11_best 110 = .ok (.getfield 139, 3) := by decide +kernel
theorem dX11_best_113 : decode cX11_best 113 = .ok (.lreturn, 1) := by decide +kernel
theorem dX11_number_0 : decode cX11_number 0 = .ok (.aload_n 0, 1) := by decide +kernel
theorem dX11_number_1 : decode cX11_number 1 = .ok (.getfield 14, 3) := by decide +kernel
theorem dX11_number_4 : decode cX11_number 4 = .ok (.iload_n 1, 1) := by decide +kernel
theorem dX11_number_5 : decode cX11_number 5 = .ok (.invokevirtual 92, 3) := by decide +kernel
theorem dX11_number_8 : decode cX11_number 8 = .ok (.ifCond .ne 5, 3) := by decide +kernel
theorem dX11_number_11 : decode cX11_number 11 = .ok (.iconst (-1), 1) := by decide +kernel
theorem dX11_number_12 : decode cX11_number 12 = .ok (.ireturn, 1) := by decide +kernel
theorem dX11_number_13 : decode cX11_number 13 = .ok (.iload_n 2, 1) := by decide +kernel
theorem dX11_number_14 : decode cX11_number 14 = .ok (.iconst 1, 1) := by decide +kernel
theorem dX11_number_15 : decode cX11_number 15 = .ok (.bipush 8, 2) := by decide +kernel
theorem dX11_number_17 : decode cX11_number 17 = .ok (.invokestatic 74, 3) := by decide +kernel
theorem dX11_number_20 : decode cX11_number 20 = .ok (.ifCond .ne 6, 3) := by decide +kernel
theorem dX11_number_23 : decode cX11_number 23 = .ok (.bipush (-2), 2) := by decide +kernel
theorem dX11_number_25 : decode cX11_number 25 = .ok (.ireturn, 1) := by decide +kernel
theorem dX11_number_26 : decode cX11_number 26 = .ok (.aload_n 0, 1) := by decide +kernel
theorem dX11_number_27 : decode cX11_number 27 = .ok (.getfield 30, 3) := by decide +kernel
theorem dX11_number_30 : decode cX11_number 30 = .ok (.iload_n 1, 1) := by decide +kernel
theorem dX11_number_31 : decode cX11_number 31 = .ok (.iload_n 2, 1) := by decide +kernel
theorem dX11_number_32 : decode cX11_number 32 = .ok (.iconst 0, 1) := by decide +kernel
theorem dX11_number_33 : decode cX11_number 33 = .ok (.invokevirtual 127, 3) := by decide +kernel
theorem dX11_number_36 : decode cX11_number 36 = .ok (.aload_n 0, 1) := by decide +kernel
theorem dX11_number_37 : decode cX11_number 37 = .ok (.getfield 30, 3) := by decide +kernel
theorem dX11_number_40 : decode cX11_number 40 = .ok (.iload_n 1, 1) := by decide +kernel
theorem dX11_number_41 : decode cX11_number 41 = .ok (.iconst 0, 1) := by decide +kernel
theorem dX11_number_42 : decode cX11_number 42 = .ok (.iload_n 2, 1) := by decide +kernel
theorem dX11_number_43 : decode cX11_number 43 = .ok (.invokevirtual 148, 3) := by decide +kernel
theorem dX11_number_46 : decode cX11_number 46 = .ok (.istore_n 3, 1) := by decide +kernel
theorem dX11_number_47 : decode cX11_number 47 = .ok (.iload_n 3, 1) := by decide +kernel
theorem dX11_number_48 : decode cX11_number 48 = .ok (.sipush 200, 3) := by decide +kernel
theorem dX11_number_51 : decode cX11_number 51 = .ok (.if_icmp .le 8, 3) := by decide +kernel
theorem dX11_number_54 : decode cX11_number 54 = .ok (.bipush (-5), 2) := by decide +kernel
theorem dX11_number_56 : decode cX11_number 56 = .ok (.goto 4, 3) := by decide +kernel
theorem dX11_number_59 : decode cX11_number 59 = .ok (.iload_n 3, 1) := by decide +kernel
theorem dX11_number_60 : decode cX11_number 60 = .ok (.ireturn, 1) := by decide +kernel
theorem dX11_such_0 : decode cX11_such 0 = .ok (.aload_n 0, 1) := by decide +kernel
theorem dX11_such_1 : decode cX11_such 1 = .ok (.iload_n 1, 1) := by decide +kernel
theorem dX11_such_2 : decode cX11_such 2 = .ok (.iload_n 2, 1) := by decide +kernel
theorem dX11_such_3 : decode cX11_such 3 = .ok (.invokevirtual 151, 3) := by decide +kernel
theorem dX11_such_6 : decode cX11_such 6 = .ok (.istore_n 3, 1) := by decide +kernel
theorem dX11_such_7 : decode cX11_such 7 = .ok (.iload_n 3, 1) := by decide +kernel
theorem dX11_such_8 : decode cX11_such 8 = .ok (.ifCond .ge 5, 3) := by decide +kernel
theorem dX11_such_11 : decode cX11_such 11 = .ok (.iload_n 3, 1) := by decide +kernel
theorem dX11_such_12 : decode cX11_such 12 = .ok (.ireturn, 1) := by decide +kernel
theorem dX11_such_13 : decode cX11_such 13 = .ok (.iload_n 3, 1) := by decide +kernel
theorem dX11_such_14 : decode cX11_such 14 = .ok (.iconst 1, 1) := by decide +kernel
theorem dX11_such_15 : decode cX11_such 15 = .ok (.iadd, 1) := by decide +kernel
theorem dX11_such_16 : decode cX11_such 16 = .ok (.istore 4, 2) := by decide +kernel
theorem dX11_such_18 : decode cX11_such 18 = .ok (.iload 4, 2) := by decide +kernel
theorem dX11_such_20 : decode cX11_such 20 = .ok (.sipush 200, 3) := by decide +kernel
theorem dX11_such_23 : decode cX11_such 23 = .ok (.if_icmp .gt 41, 3) := by decide +kernel
theorem dX11_such_26 : decode cX11_such 26 = .ok (.aload_n 0, 1) := by decide +kernel
theorem dX11_such_27 : decode cX11_such 27 = .ok (.getfield 30, 3) := by decide +kernel
theorem dX11_such_30 : decode cX11_such 30 = .ok (.iload_n 1, 1) := by decide +kernel
theorem dX11_such_31 : decode cX11_such 31 = .ok (.iconst 0, 1) := by decide +kernel
theorem dX11_such_32 : decode cX11_such 32 = .ok (.iload 4, 2) := by decide +kernel
theorem dX11_such_34 : decode cX11_such 34 = .ok (.iload_n 2, 1) := by decide +kernel
theorem dX11_such_35 : decode cX11_such 35 = .ok (.invokevirtual 131, 3) := by decide +kernel
theorem dX11_such_38 : decode cX11_such 38 = .ok (.aload_n 0, 1) := by decide +kernel
theorem dX11_such_39 : decode cX11_such 39 = .ok (.getfield 30, 3) := by decide +kernel
theorem dX11_such_42 : decode cX11_such 42 = .ok (.getfield 135, 3) := by decide +kernel
theorem dX11_such_45 : decode cX11_such 45 = .ok (.aload_n 0, 1) := by decide +kernel
theorem dX11_such_46 : decode cX11_such 46 = .ok (.getfield 30, 3) := by decide +kernel
theorem dX11_such_49 : decode cX11_such 49 = .ok (.getfield 139, 3) := by decide +kernel
theorem dX11_such_52 : decode cX11_such 52 = .ok (.lcmp, 1) := by decide +kernel
theorem dX11_such_53 : decode cX11_such 53 = .ok (.ifCond .ge 5, 3) := by decide +kernel
theorem dX11_such_56 : decode cX11_such 56 = .ok (.iconst 0, 1) := by decide +kernel
theorem dX11_such_57 : decode cX11_such 57 = .ok (.ireturn, 1) := by decide +kernel
theorem dX11_such_58 : decode cX11_such 58 = .ok (.iinc 4 1, 3) := by decide +kernel
theorem dX11_such_61 : decode cX11_such 61 = .ok (.goto (-43), 3) := by decide +kernel
theorem dX11_such_64 : decode cX11_such 64 = .ok (.iconst 1, 1) := by decide +kernel
theorem dX11_such_65 : decode cX11_such 65 = .ok (.ireturn, 1) := by decide +kernel
theorem dX11_looks_0 : decode cX11_looks 0 = .ok (.iload_n 1, 1) := by decide +kernel
theorem dX11_looks_1 : decode cX11_looks 1 = .ok (.iconst 1, 1) := by decide +kernel
theorem dX11_looks_2 : decode cX11_looks 2 = .ok (.iconst 3, 1) := by decide +kernel
theorem dX11_looks_3 : decode cX11_looks 3 = .ok (.invokestatic 74, 3) := by decide +kernel
theorem dX11_looks_6 : decode cX11_looks 6 = .ok (.ifCond .ne 6, 3) := by decide +kernel
theorem dX11_looks_9 : decode cX11_looks 9 = .ok (.bipush (-2), 2) := by decide +kernel
theorem dX11_looks_11 : decode cX11_looks 11 = .ok (.ireturn, 1) := by decide +kernel
theorem dX11_looks_12 : decode cX11_looks 12 = .ok (.aload_n 0, 1) := by decide +kernel
theorem dX11_looks_13 : decode cX11_looks 13 = .ok (.getfield 14, 3) := by decide +kernel
theorem dX11_looks_16 : decode cX11_looks 16 = .ok (.getfield 154, 3) := by decide +kernel
theorem dX11_looks_19 : decode cX11_looks 19 = .ok (.istore_n 2, 1) := by decide +kernel
theorem dX11_looks_20 : decode cX11_looks 20 = .ok (.aload_n 0, 1) := by decide +kernel
theorem dX11_looks_21 : decode cX11_looks 21 = .ok (.getfield 14, 3) := by decide +kernel
theorem dX11_looks_24 : decode cX11_looks 24 = .ok (.iload_n 1, 1) := by decide +kernel
theorem dX11_looks_25 : decode cX11_looks 25 = .ok (.putfield 154, 3) := by decide +kernel
theorem dX11_looks_28 : decode cX11_looks 28 = .ok (.iload_n 2, 1) := by decide +kernel
theorem dX11_looks_29 : decode cX11_looks 29 = .ok (.ireturn, 1) := by decide +kernel
theorem dX11_plan_0 : decode cX11_plan 0 = .ok (.iload_n 1, 1) := by decide +kernel
theorem dX11_plan_1 : decode cX11_plan 1 = .ok (.iconst 0, 1) := by decide +kernel
theorem dX11_plan_2 : decode cX11_plan 2 = .ok (.bipush 6, 2) := by decide +kernel
theorem dX11_plan_4 : decode cX11_plan 4 = .ok (.invokestatic 74, 3) := by decide +kernel
theorem dX11_plan_7 : decode cX11_plan 7 = .ok (.ifCond .ne 5, 3) := by decide +kernel
theorem dX11_plan_10 : decode cX11_plan 10 = .ok (.iconst (-1), 1) := by decide +kernel
theorem dX11_plan_11 : decode cX11_plan 11 = .ok (.ireturn, 1) := by decide +kernel
theorem dX11_plan_12 : decode cX11_plan 12 = .ok (.iload_n 2, 1) := by decide +kernel
theorem dX11_plan_13 : decode cX11_plan 13 = .ok (.iconst 0, 1) := by decide +kernel
theorem dX11_plan_14 : decode cX11_plan 14 = .ok (.bipush 99, 2) := by decide +kernel
theorem dX11_plan_16 : decode cX11_plan 16 = .ok (.invokestatic 74, 3) := by decide +kernel
theorem dX11_plan_19 : decode cX11_plan 19 = .ok (.ifCond .ne 6, 3) := by decide +kernel
theorem dX11_plan_22 : decode cX11_plan 22 = .ok (.bipush (-2), 2) := by decide +kernel
theorem dX11_plan_24 : decode cX11_plan 24 = .ok (.ireturn, 1) := by decide +kernel
theorem dX11_plan_25 : decode cX11_plan 25 = .ok (.aload_n 0, 1) := by decide +kernel
theorem dX11_plan_26 : decode cX11_plan 26 = .ok (.getfield 14, 3) := by decide +kernel
theorem dX11_plan_29 : decode cX11_plan 29 = .ok (.getfield 157, 3) := by decide +kernel
theorem dX11_plan_32 : decode cX11_plan 32 = .ok (.bipush 12, 2) := by decide +kernel
theorem dX11_plan_34 : decode cX11_plan 34 = .ok (.if_icmp .lt 6, 3) := by decide +kernel
theorem dX11_plan_37 : decode cX11_plan 37 = .ok (.bipush (-4), 2) := by decide +kernel
theorem dX11_plan_39 : decode cX11_plan 39 = .ok (.ireturn, 1) := by decide +kernel
theorem dX11_plan_40 : decode cX11_plan 40 = .ok (.aload_n 0, 1) := by decide +kernel
theorem dX11_plan_41 : decode cX11_plan 41 = .ok (.getfield 14, 3) := by decide +kernel
theorem dX11_plan_44 : decode cX11_plan 44 = .ok (.iload_n 1, 1) := by decide +kernel
theorem dX11_plan_45 : decode cX11_plan 45 = .ok (.aload_n 0, 1) := by decide +kernel
theorem dX11_plan_46 : decode cX11_plan 46 = .ok (.getfield 14, 3) := by decide +kernel
theorem dX11_plan_49 : decode cX11_plan 49 = .ok (.getfield 157, 3) := by decide +kernel
theorem dX11_plan_52 : decode cX11_plan 52 = .ok (.iload_n 2, 1) := by decide +kernel
theorem dX11_plan_53 : decode cX11_plan 53 = .ok (.invokestatic 160, 3) := by decide +kernel
theorem dX11_plan_56 : decode cX11_plan 56 = .ok (.invokevirtual 164, 3) := by decide +kernel
theorem dX11_plan_59 : decode cX11_plan 59 = .ok (.ireturn, 1) := by decide +kernel
theorem dX11_row_0 : decode cX11_row 0 = .ok (.aload_n 0, 1) := by decide +kernel
theorem dX11_row_1 : decode cX11_row 1 = .ok (.getfield 14, 3) := by decide +kernel
theorem dX11_row_4 : decode cX11_row 4 = .ok (.iload_n 1, 1) := by decide +kernel
theorem dX11_row_5 : decode cX11_row 5 = .ok (.invokevirtual 168, 3) := by decide +kernel
theorem dX11_row_8 : decode cX11_row 8 = .ok (.astore_n 3, 1) := by decide +kernel
theorem dX11_row_9 : decode cX11_row 9 = .ok (.aload_n 3, 1) := by decide +kernel
theorem dX11_row_10 : decode cX11_row 10 = .ok (.ifnonnull 5, 3) := by decide +kernel
theorem dX11_row_13 : decode cX11_row 13 = .ok (.iconst (-1), 1) := by decide +kernel
theorem dX11_row_14 : decode cX11_row 14 = .ok (.ireturn, 1) := by decide +kernel
theorem dX11_row_15 : decode cX11_row 15 = .ok (.iload_n 2, 1) := by decide +kernel
theorem dX11_row_16 : decode cX11_row 16 = .ok (.iconst 0, 1) := by decide +kernel
theorem dX11_row_17 : decode cX11_row 17 = .ok (.iconst 1, 1) := by decide +kernel
theorem dX11_row_18 : decode cX11_row 18 = .ok (.aload_n 0, 1) := by decide +kernel
theorem dX11_row_19 : decode cX11_row 19 = .ok (.getfield 14, 3) := by decide +kernel
theorem dX11_row_22 : decode cX11_row 22 = .ok (.getfield 85, 3) := by decide +kernel
theorem dX11_row_25 : decode cX11_row 25 = .ok (.ishl, 1) := by decide +kernel
theorem dX11_row_26 : decode cX11_row 26 = .ok (.iconst 1, 1) := by decide +kernel
theorem dX11_row_27 : decode cX11_row 27 = .ok (.isub, 1) := by decide +kernel
theorem dX11_row_28 : decode cX11_row 28 = .ok (.invokestatic 74, 3) := by decide +kernel
theorem dX11_row_31 : decode cX11_row 31 = .ok (.ifCond .ne 6, 3) := by decide +kernel
theorem dX11_row_34 : decode cX11_row 34 = .ok (.bipush (-2), 2) := by decide +kernel
theorem dX11_row_36 : decode cX11_row 36 = .ok (.ireturn, 1) := by decide +kernel
theorem dX11_row_37 : decode cX11_row 37 = .ok (.aload_n 3, 1) := by decide +kernel
theorem dX11_row_38 : decode cX11_row 38 = .ok (.instanceof 172, 3) := by decide +kernel
theorem dX11_row_41 : decode cX11_row 41 = .ok (.ifCond .ne 6, 3) := by decide +kernel
theorem dX11_row_44 : decode cX11_row 44 = .ok (.bipush (-3), 2) := by decide +kernel
theorem dX11_row_46 : decode cX11_row 46 = .ok (.ireturn, 1) := by decide +kernel
theorem dX11_row_47 : decode cX11_row 47 = .ok (.aload_n 0, 1) := by decide +kernel
theorem dX11_row_48 : decode cX11_row 48 = .ok (.getfield 14, 3) := by decide +kernel
theorem dX11_row_51 : decode cX11_row 51 = .ok (.getfield 174, 3) := by decide +kernel
theorem dX11_row_54 : decode cX11_row 54 = .ok (.iload_n 1, 1) := by decide +kernel
theorem dX11_row_55 : decode cX11_row 55 = .ok (.iaload, 1) := by decide +kernel
theorem dX11_row_56 : decode cX11_row 56 = .ok (.istore 4, 2) := by decide +kernel
theorem dX11_row_58 : decode cX11_row 58 = .ok (.iload 4, 2) := by decide +kernel
theorem dX11_row_60 : decode cX11_row 60 = .ok (.bipush 10, 2) := by decide +kernel
theorem dX11_row_62 : decode cX11_row 62 = .ok (.if_icmp .lt 6, 3) := by decide +kernel
theorem dX11_row_65 : decode cX11_row 65 = .ok (.bipush (-4), 2) := by decide +kernel
theorem dX11_row_67 : decode cX11_row 67 = .ok (.ireturn, 1) := by decide +kernel
theorem dX11_row_68 : decode cX11_row 68 = .ok (.aload_n 0, 1) := by decide +kernel
theorem dX11_row_69 : decode cX11_row 69 = .ok (.getfield 14, 3) := by decide +kernel
theorem dX11_row_72 : decode cX11_row 72 = .ok (.getfield 177, 3) := by decide +kernel
theorem dX11_row_75 : decode cX11_row 75 = .ok (.iload_n 1, 1) := by decide +kernel
theorem dX11_row_76 : decode cX11_row 76 = .ok (.aaload, 1) := by decide +kernel
theorem dX11_row_77 : decode cX11_row 77 = .ok (.iload 4, 2) := by decide +kernel
theorem dX11_row_79 : decode cX11_row 79 = .ok (.iload_n 2, 1) := by decide +kernel
theorem dX11_row_80 : decode cX11_row 80 = .ok (.iastore, 1) := by decide +kernel
theorem dX11_row_81 : decode cX11_row 81 = .ok (.aload_n 0, 1) := by decide +kernel
theorem dX11_row_82 : decode cX11_row 82 = .ok (.getfield 14, 3) := by decide +kernel
theorem dX11_row_85 : decode cX11_row 85 = .ok (.getfield 174, 3) := by decide +kernel
theorem dX11_row_88 : decode cX11_row 88 = .ok (.iload_n 1, 1) := by decide +kernel
theorem dX11_row_89 : decode cX11_row 89 = .ok (.iload 4, 2) := by decide +kernel
theorem dX11_row_91 : decode cX11_row 91 = .ok (.iconst 1, 1) := by decide +kernel
theorem dX11_row_92 : decode cX11_row 92 = .ok (.iadd, 1) := by decide +kernel
theorem dX11_row_93 : decode cX11_row 93 = .ok (.iastore, 1) := by decide +kernel
theorem dX11_row_94 : decode cX11_row 94 = .ok (.iload 4, 2) := by decide +kernel
theorem dX11_row_96 : decode cX11_row 96 = .ok (.iconst 1, 1) := by decide +kernel
theorem dX11_row_97 : decode cX11_row 97 = .ok (.iadd, 1) := by decide +kernel
theorem dX11_row_98 : decode cX11_row 98 = .ok (.ireturn, 1) := by decide +kernel
theorem dX11_whom_0 : decode cX11_whom 0 = .ok (.aload_n 0, 1) := by decide +kernel
theorem dX11_whom_1 : decode cX11_whom 1 = .ok (.getfield 14, 3) := by decide +kernel
theorem dX11_whom_4 : decode cX11_whom 4 = .ok (.iload_n 1, 1) := by decide +kernel
theorem dX11_whom_5 : decode cX11_whom 5 = .ok (.invokevirtual 168, 3) := by decide +kernel
theorem dX11_whom_8 : decode cX11_whom 8 = .ok (.astore_n 2, 1) := by decide +kernel
theorem dX11_whom_9 : decode cX11_whom 9 = .ok (.aload_n 2, 1) := by decide +kernel
theorem dX11_whom_10 : decode cX11_whom 10 = .ok (.ifnonnull 7, 3) := by decide +kernel
theorem dX11_whom_13 : decode cX11_whom 13 = .ok (.iconst (-1), 1) := by decide +kernel
theorem dX11_whom_14 : decode cX11_whom 14 = .ok (.goto 8, 3) := by decide +kernel
theorem dX11_whom_17 : decode cX11_whom 17 = .ok (.aload_n 0, 1) := by decide +kernel
theorem dX11_whom_18 : decode cX11_whom 18 = .ok (.aload_n 2, 1) := by decide +kernel
theorem dX11_whom_19 : decode cX11_whom 19 = .ok (.invokevirtual 181, 3) := by decide +kernel
theorem dX11_whom_22 : decode cX11_whom 22 = .ok (.ireturn, 1) := by decide +kernel
theorem dX11_mean_0 : decode cX11_mean 0 = .ok (.aload_n 0, 1) := by decide +kernel
theorem dX11_mean_1 : decode cX11_mean 1 = .ok (.getfield 14, 3) := by decide +kernel
theorem dX11_mean_4 : decode cX11_mean 4 = .ok (.iload_n 1, 1) := by decide +kernel
theorem dX11_mean_5 : decode cX11_mean 5 = .ok (.invokevirtual 168, 3) := by decide +kernel
theorem dX11_mean_8 : decode cX11_mean 8 = .ok (.astore_n 3, 1) := by decide +kernel
theorem dX11_mean_9 : decode cX11_mean 9 = .ok (.aload_n 3, 1) := by decide +kernel
theorem dX11_mean_10 : decode cX11_mean 10 = .ok (.ifnull 12, 3) := by decide +kernel
theorem dX11_mean_13 : decode cX11_mean 13 = .ok (.iload_n 2, 1) := by decide +kernel
theorem dX11_mean_14 : decode cX11_mean 14 = .ok (.iconst 1, 1) := by decide +kernel
theorem dX11_mean_15 : decode cX11_mean 15 = .ok (.iconst 3, 1) := by decide +kernel
theorem dX11_mean_16 : decode cX11_mean 16 = .ok (.invokestatic 74, 3) := by decide +kernel
theorem dX11_mean_19 : decode cX11_mean 19 = .ok (.ifCond .ne 7, 3) := by decide +kernel
theorem dX11_mean_22 : decode cX11_mean 22 = .ok (.ldc2_w 125, 3) := by decide +kernel
theorem dX11_mean_25 : decode cX11_mean 25 = .ok (.lreturn, 1) := by decide +kernel
theorem dX11_mean_26 : decode cX11_mean 26 = .ok (.aload_n 0, 1) := by decide +kernel
theorem dX11_mean_27 : decode cX11_mean 27 = .ok (.getfield 30, 3) := by decide +kernel
theorem dX11_mean_30 : decode cX11_mean 30 = .ok (.iload_n 2, 1) := by decide +kernel
theorem dX11_mean_31 : decode cX11_mean 31 = .ok (.aload_n 3, 1) := by decide +kernel
theorem dX11_mean_32 : decode cX11_mean 32 = .ok (.invokevirtual 184, 3) := by decide +kernel
theorem dX11_mean_35 : decode cX11_mean 35 = .ok (.iadd, 1) := by decide +kernel
theorem dX11_mean_36 : decode cX11_mean 36 = .ok (.invokevirtual 189, 3) := by decide +kernel
theorem dX11_mean_39 : decode cX11_mean 39 = .ok (.aload_n 0, 1) := by decide +kernel
theorem dX11_mean_40 : decode cX11_mean 40 = .ok (.getfield 39, 3) := by decide +kernel
theorem dX11_mean_43 : decode cX11_mean 43 = .ok (.aload_n 3, 1) := by decide +kernel
theorem dX11_mean_44 : decode cX11_mean 44 = .ok (.iload_n 2, 1) := by decide +kernel
theorem dX11_mean_45 : decode cX11_mean 45 = .ok (.invokevirtual 193, 3) := by decide +kernel
theorem dX11_mean_48 : decode cX11_mean 48 = .ok (.lreturn, 1) := by decide +kernel
theorem dX11_all_0 : decode cX11_all 0 = .ok (.iload_n 1, 1) := by decide +kernel
theorem dX11_all_1 : decode cX11_all 1 = .ok (.iconst 1, 1) := by decide +kernel
theorem dX11_all_2 : decode cX11_all 2 = .ok (.iconst 2, 1) := by decide +kernel
theorem dX11_all_3 : decode cX11_all 3 = .ok (.invokestatic 74, 3) := by decide +kernel
theorem dX11_all_6 : decode cX11_all 6 = .ok (.ifCond .eq 22, 3) := by decide +kernel
theorem dX11_all_9 : decode cX11_all 9 = .ok (.iload_n 2, 1) := by decide +kernel
theorem dX11_all_10 : decode cX11_all 10 = .ok (.iconst 0, 1) := by decide +kernel
theorem dX11_all_11 : decode cX11_all 11 = .ok (.iconst 1, 1) := by decide +kernel
theorem dX11_all_12 : decode cX11_all 12 = .ok (.invokestatic 74, 3) := by decide +kernel
theorem dX11_all_15 : decode cX11_all 15 = .ok (.ifCond .eq 13, 3) := by decide +kernel
theorem dX11_all_18 : decode cX11_all 18 = .ok (.aload_n 0, 1) := by decide +kernel
theorem dX11_all_19 : decode cX11_all 19 = .ok (.getfield 14, 3) := by decide +kernel
theorem dX11_all_22 : decode cX11_all 22 = .ok (.getfield 85, 3) := by decide +kernel
theorem dX11_all_25 : decode cX11_all 25 = .ok (.ifCond .ne 7, 3) := by decide +kernel
theorem dX11_all_28 : decode cX11_all 28 = .ok (.ldc2_w 125, 3) := by decide +kernel
theorem dX11_all_31 : decode cX11_all 31 = .ok (.lreturn, 1) := by decide +kernel
theorem dX11_all_32 : decode cX11_all 32 = .ok (.aload_n 0, 1) := by decide +kernel
theorem dX11_all_33 : decode cX11_all 33 = .ok (.getfield 30, 3) := by decide +kernel
theorem dX11_all_36 : decode cX11_all 36 = .ok (.iload_n 1, 1) := by decide +kernel
theorem dX11_all_37 : decode cX11_all 37 = .ok (.invokevirtual 189, 3) := by decide +kernel
theorem dX11_all_40 : decode cX11_all 40 = .ok (.aload_n 0, 1) := by decide +kernel
theorem dX11_all_41 : decode cX11_all 41 = .ok (.getfield 39, 3) := by decide +kernel
theorem dX11_all_44 : decode cX11_all 44 = .ok (.iload_n 1, 1) := by decide +kernel
theorem dX11_all_45 : decode cX11_all 45 = .ok (.invokevirtual 197, 3) := by decide +kernel
theorem dX11_all_48 : decode cX11_all 48 = .ok (.lstore_n 3, 1) := by decide +kernel
theorem dX11_all_49 : decode cX11_all 49 = .ok (.iload_n 2, 1) := by decide +kernel
theorem dX11_all_50 : decode cX11_all 50 = .ok (.ifCond .ne 7, 3) := by decide +kernel
theorem dX11_all_53 : decode cX11_all 53 = .ok (.lload_n 3, 1) := by decide +kernel
theorem dX11_all_54 : decode cX11_all 54 = .ok (.goto 11, 3) := by decide +kernel
theorem dX11_all_57 : decode cX11_all 57 = .ok (.aload_n 0, 1) := by decide +kernel
theorem dX11_all_58 : decode cX11_all 58 = .ok (.getfield 39, 3) := by decide +kernel
theorem dX11_all_61 : decode cX11_all 61 = .ok (.getfield 201, 3) := by decide +kernel
theorem dX11_all_64 : decode cX11_all 64 = .ok (.i2l, 1) := by decide +kernel
theorem dX11_all_65 : decode cX11_all 65 = .ok (.lreturn, 1) := by decide +kernel
theorem dX11_loses_0 : decode cX11_loses 0 = .ok (.aload_n 0, 1) := by decide +kernel
theorem dX11_loses_1 : decode cX11_loses 1 = .ok (.getfield 14, 3) := by decide +kernel
theorem dX11_loses_4 : decode cX11_loses 4 = .ok (.iload_n 1, 1) := by decide +kernel
theorem dX11_loses_5 : decode cX11_loses 5 = .ok (.invokevirtual 168, 3) := by decide +kernel
theorem dX11_loses_8 : decode cX11_loses 8 = .ok (.astore_n 3, 1) := by decide +kernel
theorem dX11_loses_9 : decode cX11_loses 9 = .ok (.aload_n 3, 1) := by decide +kernel
theorem dX11_loses_10 : decode cX11_loses 10 = .ok (.ifnull 22, 3) := by decide +kernel
theorem dX11_loses_13 : decode cX11_loses 13 = .ok (.iload_n 2, 1) := by decide +kernel
theorem dX11_loses_14 : decode cX11_loses 14 = .ok (.iconst 1, 1) := by decide +kernel
theorem dX11_loses_15 : decode cX11_loses 15 = .ok (.iconst 2, 1) := by decide +kernel
theorem dX11_loses_16 : decode cX11_loses 16 = .ok (.invokestatic 74, 3) := by decide +kernel
theorem dX11_loses_19 : decode cX11_loses 19 = .ok (.ifCond .eq 13, 3) := by decide +kernel
theorem dX11_loses_22 : decode cX11_loses 22 = .ok (.aload_n 0, 1) := by decide +kernel
theorem dX11_loses_23 : decode cX11_loses 23 = .ok (.getfield 14, 3) := by decide +kernel
theorem dX11_loses_26 : decode cX11_loses 26 = .ok (.getfield 85, 3) := by decide +kernel
theorem dX11_loses_29 : decode cX11_loses 29 = .ok (.ifCond .ne 7, 3) := by decide +kernel
theorem dX11_loses_32 : decode cX11_loses 32 = .ok (.ldc2_w 125, 3) := by decide +kernel
theorem dX11_loses_35 : decode cX11_loses 35 = .ok (.lreturn, 1) := by decide +kernel
theorem dX11_loses_36 : decode cX11_loses 36 = .ok (.aload_n 0, 1) := by decide +kernel
theorem dX11_loses_37 : decode cX11_loses 37 = .ok (.getfield 30, 3) := by decide +kernel
theorem dX11_loses_40 : decode cX11_loses 40 = .ok (.iload_n 2, 1) := by decide +kernel
theorem dX11_loses_41 : decode cX11_loses 41 = .ok (.aload_n 3, 1) := by decide +kernel
theorem dX11_loses_42 : decode cX11_loses 42 = .ok (.invokevirtual 184, 3) := by decide +kernel
theorem dX11_loses_45 : decode cX11_loses 45 = .ok (.iadd, 1) := by decide +kernel
theorem dX11_loses_46 : decode cX11_loses 46 = .ok (.invokevirtual 189, 3) := by decide +kernel
theorem dX11_loses_49 : decode cX11_loses 49 = .ok (.aload_n 0, 1) := by decide +kernel
theorem dX11_loses_50 : decode cX11_loses 50 = .ok (.getfield 39, 3) := by decide +kernel
theorem dX11_loses_53 : decode cX11_loses 53 = .ok (.iload_n 2, 1) := by decide +kernel
theorem dX11_loses_54 : decode cX11_loses 54 = .ok (.invokevirtual 197, 3) := by decide +kernel
theorem dX11_loses_57 : decode cX11_loses 57 = .ok (.aload_n 0, 1) := by decide +kernel
theorem dX11_loses_58 : decode cX11_loses 58 = .ok (.getfield 39, 3) := by decide +kernel
theorem dX11_loses_61 : decode cX11_loses 61 = .ok (.aload_n 3, 1) := by decide +kernel
theorem dX11_loses_62 : decode cX11_loses 62 = .ok (.iload_n 2, 1) := by decide +kernel
theorem dX11_loses_63 : decode cX11_loses 63 = .ok (.invokevirtual 193, 3) := by decide +kernel
theorem dX11_loses_66 : decode cX11_loses 66 = .ok (.lsub, 1) := by decide +kernel
theorem dX11_loses_67 : decode cX11_loses 67 = .ok (.lreturn, 1) := by decide +kernel
theorem dX11_bound_0 : decode cX11_bound 0 = .ok (.iload_n 1, 1) := by decide +kernel
theorem dX11_bound_1 : decode cX11_bound 1 = .ok (.iconst 1, 1) := by decide +kernel
theorem dX11_bound_2 : decode cX11_bound 2 = .ok (.bipush 8, 2) := by decide +kernel
theorem dX11_bound_4 : decode cX11_bound 4 = .ok (.invokestatic 74, 3) := by decide +kernel
theorem dX11_bound_7 : decode cX11_bound 7 = .ok (.ifCond .ne 7, 3) := by decide +kernel
theorem dX11_bound_10 : decode cX11_bound 10 = .ok (.ldc2_w 125, 3) := by decide +kernel
theorem dX11_bound_13 : decode cX11_bound 13 = .ok (.lreturn, 1) := by decide +kernel
theorem dX11_bound_14 : decode cX11_bound 14 = .ok (.aload_n 0, 1) := by decide +kernel
theorem dX11_bound_15 : decode cX11_bound 15 = .ok (.getfield 30, 3) := by decide +kernel
theorem dX11_bound_18 : decode cX11_bound 18 = .ok (.iload_n 1, 1) := by decide +kernel
theorem dX11_bound_19 : decode cX11_bound 19 = .ok (.invokevirtual 189, 3) := by decide +kernel
theorem dX11_bound_22 : decode cX11_bound 22 = .ok (.iload_n 1, 1) := by decide +kernel
theorem dX11_bound_23 : decode cX11_bound 23 = .ok (.i2l, 1) := by decide +kernel
theorem dX11_bound_24 : decode cX11_bound 24 = .ok (.ldc2_w 204, 3) := by decide +kernel
theorem dX11_bound_27 : decode cX11_bound 27 = .ok (.lmul, 1) := by decide +kernel
theorem dX11_bound_28 : decode cX11_bound 28 = .ok (.aload_n 0, 1) := by decide +kernel
theorem dX11_bound_29 : decode cX11_bound 29 = .ok (.getfield 14, 3) := by decide +kernel
theorem dX11_bound_32 : decode cX11_bound 32 = .ok (.getfield 85, 3) := by decide +kernel
theorem dX11_bound_35 : decode cX11_bound 35 = .ok (.aload_n 0, 1) := by decide +kernel
theorem dX11_bound_36 : decode cX11_bound 36 = .ok (.getfield 14, 3) := by decide +kernel
theorem dX11_bound_39 : decode cX11_bound 39 = .ok (.invokevirtual 206, 3) := by decide +kernel
theorem dX11_bound_42 : decode cX11_bound 42 = .ok (.isub, 1) := by decide +kernel
theorem dX11_bound_43 : decode cX11_bound 43 = .ok (.i2l, 1) := by decide +kernel
theorem dX11_bound_44 : decode cX11_bound 44 = .ok (.lmul, 1) := by decide +kernel
theorem dX11_bound_45 : decode cX11_bound 45 = .ok (.lstore_n 2, 1) := by decide +kernel
theorem dX11_bound_46 : decode cX11_bound 46 = .ok (.aload_n 0, 1) := by decide +kernel
theorem dX11_bound_47 : decode cX11_bound 47 = .ok (.getfield 30, 3) := by decide +kernel
theorem dX11_bound_50 : decode cX11_bound 50 = .ok (.iconst 0, 1) := by decide +kernel
theorem dX11_bound_51 : decode cX11_bound 51 = .ok (.iload_n 1, 1) := by decide +kernel
theorem dX11_bound_52 : decode cX11_bound 52 = .ok (.invokevirtual 209, 3) := by decide +kernel
theorem dX11_bound_55 : decode cX11_bound 55 = .ok (.lstore 4, 2) := by decide +kernel
theorem dX11_bound_57 : decode cX11_bound 57 = .ok (.iconst 1, 1) := by decide +kernel
theorem dX11_bound_58 : decode cX11_bound 58 = .ok (.istore 6, 2) := by decide +kernel
theorem dX11_bound_60 : decode cX11_bound 60 = .ok (.iload 6, 2) := by decide +kernel
theorem dX11_bound_62 : decode cX11_bound 62 = .ok (.sipush 200, 3) := by decide +kernel
theorem dX11_bound_65 : decode cX11_bound 65 = .ok (.if_icmp .gt 32, 3) := by decide +kernel
theorem dX11_bound_68 : decode cX11_bound 68 = .ok (.lload 4, 2) := by decide +kernel
theorem dX11_bound_70 : decode cX11_bound 70 = .ok (.aload_n 0, 1) := by decide +kernel
theorem dX11_bound_71 : decode cX11_bound 71 = .ok (.getfield 30, 3) := by decide +kernel
theorem dX11_bound_74 : decode cX11_bound 74 = .ok (.iload 6, 2) := by decide +kernel
theorem dX11_bound_76 : decode cX11_bound 76 = .ok (.iload_n 1, 1) := by decide +kernel
theorem dX11_bound_77 : decode cX11_bound 77 = .ok (.invokevirtual 209, 3) := by decide +kernel
theorem dX11_bound_80 : decode cX11_bound 80 = .ok (.iload 6, 2) := by decide +kernel
theorem dX11_bound_82 : decode cX11_bound 82 = .ok (.i2l, 1) := by decide +kernel
theorem dX11_bound_83 : decode cX11_bound 83 = .ok (.lload_n 2, 1) := by decide +kernel
theorem dX11_bound_84 : decode cX11_bound 84 = .ok (.lmul, 1) := by decide +kernel
theorem dX11_bound_85 : decode cX11_bound 85 = .ok (.lsub, 1) := by decide +kernel
theorem dX11_bound_86 : decode cX11_bound 86 = .ok (.invokestatic 213, 3) := by decide +kernel
theorem dX11_bound_89 : decode cX11_bound 89 = .ok (.lstore 4, 2) := by decide +kernel
theorem dX11_bound_91 : decode cX11_bound 91 = .ok (.iinc 6 1, 3) := by decide +kernel
theorem dX11_bound_94 : decode cX11_bound 94 = .ok (.goto (-34), 3) := by decide +kernel
theorem dX11_bound_97 : decode cX11_bound 97 = .ok (.lload 4, 2) := by decide +kernel
theorem dX11_bound_99 : decode cX11_bound 99 = .ok (.lreturn, 1) := by decide +kernel
theorem dX11_judged_0 : decode cX11_judged 0 = .ok (.aload_n 0, 1) := by decide +kernel
theorem dX11_judged_1 : decode cX11_judged 1 = .ok (.getfield 14, 3) := by decide +kernel
theorem dX11_judged_4 : decode cX11_judged 4 = .ok (.iload_n 1, 1) := by decide +kernel
theorem dX11_judged_5 : decode cX11_judged 5 = .ok (.invokevirtual 168, 3) := by decide +kernel
theorem dX11_judged_8 : decode cX11_judged 8 = .ok (.astore_n 3, 1) := by decide +kernel
theorem dX11_judged_9 : decode cX11_judged 9 = .ok (.aload_n 3, 1) := by decide +kernel
theorem dX11_judged_10 : decode cX11_judged 10 = .ok (.ifnonnull 5, 3) := by decide +kernel
theorem dX11_judged_13 : decode cX11_judged 13 = .ok (.iconst (-1), 1) := by decide +kernel
theorem dX11_judged_14 : decode cX11_judged 14 = .ok (.ireturn, 1) := by decide +kernel
theorem dX11_judged_15 : decode cX11_judged 15 = .ok (.iload_n 2, 1) := by decide +kernel
theorem dX11_judged_16 : decode cX11_judged 16 = .ok (.iconst 1, 1) := by decide +kernel
theorem dX11_judged_17 : decode cX11_judged 17 = .ok (.bipush 10, 2) := by decide +kernel
theorem dX11_judged_19 : decode cX11_judged 19 = .ok (.invokestatic 74, 3) := by decide +kernel
theorem dX11_judged_22 : decode cX11_judged 22 = .ok (.ifCond .ne 6, 3) := by decide +kernel
theorem dX11_judged_25 : decode cX11_judged 25 = .ok (.bipush (-2), 2) := by decide +kernel
theorem dX11_judged_27 : decode cX11_judged 27 = .ok (.ireturn, 1) := by decide +kernel
theorem dX11_judged_28 : decode cX11_judged 28 = .ok (.aload_n 3, 1) := by decide +kernel
theorem dX11_judged_29 : decode cX11_judged 29 = .ok (.instanceof 172, 3) := by decide +kernel
theorem dX11_judged_32 : decode cX11_judged 32 = .ok (.ifCond .eq 15, 3) := by decide +kernel
theorem dX11_judged_35 : decode cX11_judged 35 = .ok (.aload_n 0, 1) := by decide +kernel
theorem dX11_judged_36 : decode cX11_judged 36 = .ok (.getfield 14, 3) := by decide +kernel
theorem dX11_judged_39 : decode cX11_judged 39 = .ok (.getfield 174, 3) := by decide +kernel
theorem dX11_judged_42 : decode cX11_judged 42 = .ok (.iload_n 1, 1) := by decide +kernel
theorem dX11_judged_43 : decode cX11_judged 43 = .ok (.iaload, 1) := by decide +kernel
theorem dX11_judged_44 : decode cX11_judged 44 = .ok (.ifCond .ne 6, 3) := by decide +kernel
theorem dX11_judged_47 : decode cX11_judged 47 = .ok (.bipush (-3), 2) := by decide +kernel
theorem dX11_judged_49 : decode cX11_judged 49 = .ok (.ireturn, 1) := by decide +kernel
theorem dX11_judged_50 : decode cX11_judged 50 = .ok (.aload_n 0, 1) := by decide +kernel
theorem dX11_judged_51 : decode cX11_judged 51 = .ok (.getfield 30, 3) := by decide +kernel
theorem dX11_judged_54 : decode cX11_judged 54 = .ok (.iload_n 2, 1) := by decide +kernel
theorem dX11_judged_55 : decode cX11_judged 55 = .ok (.invokevirtual 189, 3) := by decide +kernel
theorem dX11_judged_58 : decode cX11_judged 58 = .ok (.aload_n 0, 1) := by decide +kernel
theorem dX11_judged_59 : decode cX11_judged 59 = .ok (.getfield 39, 3) := by decide +kernel
theorem dX11_judged_62 : decode cX11_judged 62 = .ok (.aload_n 3, 1) := by decide +kernel
theorem dX11_judged_63 : decode cX11_judged 63 = .ok (.iload_n 2, 1) := by decide +kernel
theorem dX11_judged_64 : decode cX11_judged 64 = .ok (.invokevirtual 216, 3) := by decide +kernel
theorem dX11_judged_67 : decode cX11_judged 67 = .ok (.ireturn, 1) := by decide +kernel
theorem dX11_run_0 : decode cX11_run 0 = .ok (.aload_n 0, 1) := by decide +kernel
theorem dX11_run_1 : decode cX11_run 1 = .ok (.getfield 14, 3) := by decide +kernel
theorem dX11_run_4 : decode cX11_run 4 = .ok (.iload_n 1, 1) := by decide +kernel
theorem dX11_run_5 : decode cX11_run 5 = .ok (.invokevirtual 168, 3) := by decide +kernel
theorem dX11_run_8 : decode cX11_run 8 = .ok (.astore 4, 2) := by decide +kernel
theorem dX11_run_10 : decode cX11_run 10 = .ok (.aload 4, 2) := by decide +kernel
theorem dX11_run_12 : decode cX11_run 12 = .ok (.ifnull 39, 3) := by decide +kernel
theorem dX11_run_15 : decode cX11_run 15 = .ok (.iload_n 2, 1) := by decide +kernel
theorem dX11_run_16 : decode cX11_run 16 = .ok (.iconst 1, 1) := by decide +kernel
theorem dX11_run_17 : decode cX11_run 17 = .ok (.bipush 30, 2) := by decide +kernel
theorem dX11_run_19 : decode cX11_run 19 = .ok (.invokestatic 74, 3) := by decide +kernel
theorem dX11_run_22 : decode cX11_run 22 = .ok (.ifCond .eq 29, 3) := by decide +kernel
theorem dX11_run_25 : decode cX11_run 25 = .ok (.iload_n 3, 1) := by decide +kernel
theorem dX11_run_26 : decode cX11_run 26 = .ok (.iconst 0, 1) := by decide +kernel
theorem dX11_run_27 : decode cX11_run 27 = .ok (.sipush 999, 3) := by decide +kernel
theorem dX11_run_30 : decode cX11_run 30 = .ok (.invokestatic 74, 3) := by decide +kernel
theorem dX11_run_33 : decode cX11_run 33 = .ok (.ifCond .eq 18, 3) := by decide +kernel
theorem dX11_run_36 : decode cX11_run 36 = .ok (.aload_n 0, 1) := by decide +kernel
theorem dX11_run_37 : decode cX11_run 37 = .ok (.getfield 14, 3) := by decide +kernel
theorem dX11_run_40 : decode cX11_run 40 = .ok (.getfield 114, 3) := by decide +kernel
theorem dX11_run_43 : decode cX11_run 43 = .ok (.iload_n 2, 1) := by decide +kernel
theorem dX11_run_44 : decode cX11_run 44 = .ok (.iadd, 1) := by decide +kernel
theorem dX11_run_45 : decode cX11_run 45 = .ok (.sipush 999, 3) := by decide +kernel
theorem dX11_run_48 : decode cX11_run 48 = .ok (.if_icmp .le 7, 3) := by decide +kernel
theorem dX11_run_51 : decode cX11_run 51 = .ok (.ldc2_w 125, 3) := by decide +kernel
theorem dX11_run_54 : decode cX11_run 54 = .ok (.lreturn, 1) := by decide +kernel
theorem dX11_run_55 : decode cX11_run 55 = .ok (.lconst 0, 1) := by decide +kernel
theorem dX11_run_56 : decode cX11_run 56 = .ok (.lstore 5, 2) := by decide +kernel
theorem dX11_run_58 : decode cX11_run 58 = .ok (.iconst 0, 1) := by decide +kernel
theorem dX11_run_59 : decode cX11_run 59 = .ok (.istore 7, 2) := by decide +kernel
theorem dX11_run_61 : decode cX11_run 61 = .ok (.iload 7, 2) := by decide +kernel
theorem dX11_run_63 : decode cX11_run 63 = .ok (.iload_n 2, 1) := by decide +kernel
theorem dX11_run_64 : decode cX11_run 64 = .ok (.if_icmp .ge 42, 3) := by decide +kernel
theorem dX11_run_67 : decode cX11_run 67 = .ok (.lload 5, 2) := by decide +kernel
theorem dX11_run_69 : decode cX11_run 69 = .ok (.aload_n 0, 1) := by decide +kernel
theorem dX11_run_70 : decode cX11_run 70 = .ok (.getfield 14, 3) := by decide +kernel
theorem dX11_run_73 : decode cX11_run 73 = .ok (.aload_n 0, 1) := by decide +kernel
theorem dX11_run_74 : decode cX11_run 74 = .ok (.aload 4, 2) := by decide +kernel
theorem dX11_run_76 : decode cX11_run 76 = .ok (.invokevirtual 181, 3) := by decide +kernel
theorem dX11_run_79 : decode cX11_run 79 = .ok (.invokevirtual 220, 3) := by decide +kernel
theorem dX11_run_82 : decode cX11_run 82 = .ok (.ladd, 1) := by decide +kernel
theorem dX11_run_83 : decode cX11_run 83 = .ok (.lstore 5, 2) := by decide +kernel
theorem dX11_run_85 : decode cX11_run 85 = .ok (.aload_n 0, 1) := by decide +kernel
theorem dX11_run_86 : decode cX11_run 86 = .ok (.getfield 14, 3) := by decide +kernel
theorem dX11_run_89 : decode cX11_run 89 = .ok (.iload_n 3, 1) := by decide +kernel
theorem dX11_run_90 : decode cX11_run 90 = .ok (.invokevirtual 223, 3) := by decide +kernel
theorem dX11_run_93 : decode cX11_run 93 = .ok (.aload_n 0, 1) := by decide +kernel
theorem dX11_run_94 : decode cX11_run 94 = .ok (.getfield 14, 3) := by decide +kernel
theorem dX11_run_97 : decode cX11_run 97 = .ok (.invokevirtual 117, 3) := by decide +kernel
theorem dX11_run_100 : decode cX11_run 100 = .ok (.iinc 7 1, 3) := by decide +kernel
theorem dX11_run_103 : decode cX11_run 103 = .ok (.goto (-42), 3) := by decide +kernel
theorem dX11_run_106 : decode cX11_run 106 = .ok (.lload 5, 2) := by decide +kernel
theorem dX11_run_108 : decode cX11_run 108 = .ok (.lreturn, 1) := by decide +kernel
theorem dX11_round_0 : decode cX11_round 0 = .ok (.iload_n 1, 1) := by decide +kernel
theorem dX11_round_1 : decode cX11_round 1 = .ok (.iconst 1, 1) := by decide +kernel
theorem dX11_round_2 : decode cX11_round 2 = .ok (.iconst 3, 1) := by decide +kernel
theorem dX11_round_3 : decode cX11_round 3 = .ok (.invokestatic 74, 3) := by decide +kernel
theorem dX11_round_6 : decode cX11_round 6 = .ok (.ifCond .eq 24, 3) := by decide +kernel
theorem dX11_round_9 : decode cX11_round 9 = .ok (.iload_n 2, 1) := by decide +kernel
theorem dX11_round_10 : decode cX11_round 10 = .ok (.iconst (-1), 1) := by decide +kernel
theorem dX11_round_11 : decode cX11_round 11 = .ok (.iload_n 1, 1) := by decide +kernel
theorem dX11_round_12 : decode cX11_round 12 = .ok (.iconst 1, 1) := by decide +kernel
theorem dX11_round_13 : decode cX11_round 13 = .ok (.isub, 1) := by decide +kernel
theorem dX11_round_14 : decode cX11_round 14 = .ok (.invokestatic 74, 3) := by decide +kernel
theorem dX11_round_17 : decode cX11_round 17 = .ok (.ifCond .eq 13, 3) := by decide +kernel
theorem dX11_round_20 : decode cX11_round 20 = .ok (.aload_n 0, 1) := by decide +kernel
theorem dX11_round_21 : decode cX11_round 21 = .ok (.getfield 14, 3) := by decide +kernel
theorem dX11_round_24 : decode cX11_round 24 = .ok (.getfield 85, 3) := by decide +kernel
theorem dX11_round_27 : decode cX11_round 27 = .ok (.ifCond .ne 7, 3) := by decide +kernel
theorem dX11_round_30 : decode cX11_round 30 = .ok (.ldc2_w 125, 3) := by decide +kernel
theorem dX11_round_33 : decode cX11_round 33 = .ok (.lreturn, 1) := by decide +kernel
theorem dX11_round_34 : decode cX11_round 34 = .ok (.aload_n 0, 1) := by decide +kernel
theorem dX11_round_35 : decode cX11_round 35 = .ok (.getfield 30, 3) := by decide +kernel
theorem dX11_round_38 : decode cX11_round 38 = .ok (.iconst 3, 1) := by decide +kernel
theorem dX11_round_39 : decode cX11_round 39 = .ok (.invokevirtual 189, 3) := by decide +kernel
theorem dX11_round_42 : decode cX11_round 42 = .ok (.aload_n 0, 1) := by decide +kernel
theorem dX11_round_43 : decode cX11_round 43 = .ok (.getfield 39, 3) := by decide +kernel
theorem dX11_round_46 : decode cX11_round 46 = .ok (.iload_n 1, 1) := by decide +kernel
theorem dX11_round_47 : decode cX11_round 47 = .ok (.invokevirtual 226, 3) := by decide +kernel
theorem dX11_round_50 : decode cX11_round 50 = .ok (.lstore_n 3, 1) := by decide +kernel
theorem dX11_round_51 : decode cX11_round 51 = .ok (.iload_n 2, 1) := by decide +kernel
theorem dX11_round_52 : decode cX11_round 52 = .ok (.ifCond .ge 7, 3) := by decide +kernel
theorem dX11_round_55 : decode cX11_round 55 = .ok (.lload_n 3, 1) := by decide +kernel
theorem dX11_round_56 : decode cX11_round 56 = .ok (.goto 13, 3) := by decide +kernel
theorem dX11_round_59 : decode cX11_round 59 = .ok (.aload_n 0, 1) := by decide +kernel
theorem dX11_round_60 : decode cX11_round 60 = .ok (.getfield 39, 3) := by decide +kernel
theorem dX11_round_63 : decode cX11_round 63 = .ok (.getfield 229, 3) := by decide +kernel
theorem dX11_round_66 : decode cX11_round 66 = .ok (.iload_n 2, 1) := by decide +kernel
theorem dX11_round_67 : decode cX11_round 67 = .ok (.iaload, 1) := by decide +kernel
theorem dX11_round_68 : decode cX11_round 68 = .ok (.i2l, 1) := by decide +kernel
theorem dX11_round_69 : decode cX11_round 69 = .ok (.lreturn, 1) := by decide +kernel
theorem dX11_tour_0 : decode cX11_tour 0 = .ok (.iload_n 1, 1) := by decide +kernel
theorem dX11_tour_1 : decode cX11_tour 1 = .ok (.iconst 0, 1) := by decide +kernel
theorem dX11_tour_2 : decode cX11_tour 2 = .ok (.sipush 200, 3) := by decide +kernel
theorem dX11_tour_5 : decode cX11_tour 5 = .ok (.invokestatic 74, 3) := by decide +kernel
theorem dX11_tour_8 : decode cX11_tour 8 = .ok (.ifCond .eq 13, 3) := by decide +kernel
theorem dX11_tour_11 : decode cX11_tour 11 = .ok (.iload_n 2, 1) := by decide +kernel
theorem dX11_tour_12 : decode cX11_tour 12 = .ok (.iconst 1, 1) := by decide +kernel
theorem dX11_tour_13 : decode cX11_tour 13 = .ok (.bipush 8, 2) := by decide +kernel
theorem dX11_tour_15 : decode cX11_tour 15 = .ok (.invokestatic 74, 3) := by decide +kernel
theorem dX11_tour_18 : decode cX11_tour 18 = .ok (.ifCond .ne 6, 3) := by decide +kernel
theorem dX11_tour_21 : decode cX11_tour 21 = .ok (.bipush (-2), 2) := by decide +kernel
theorem dX11_tour_23 : decode cX11_tour 23 = .ok (.ireturn, 1) := by decide +kernel
theorem dX11_tour_24 : decode cX11_tour 24 = .ok (.aload_n 0, 1) := by decide +kernel
theorem dX11_tour_25 : decode cX11_tour 25 = .ok (.getfield 30, 3) := by decide +kernel
theorem dX11_tour_28 : decode cX11_tour 28 = .ok (.iload_n 2, 1) := by decide +kernel
theorem dX11_tour_29 : decode cX11_tour 29 = .ok (.invokevirtual 189, 3) := by decide +kernel
theorem dX11_tour_32 : decode cX11_tour 32 = .ok (.aload_n 0, 1) := by decide +kernel
theorem dX11_tour_33 : decode cX11_tour 33 = .ok (.getfield 30, 3) := by decide +kernel
theorem dX11_tour_36 : decode cX11_tour 36 = .ok (.iload_n 2, 1) := by decide +kernel
theorem dX11_tour_37 : decode cX11_tour 37 = .ok (.invokevirtual 232, 3) := by decide +kernel
theorem dX11_tour_40 : decode cX11_tour 40 = .ok (.iconst 0, 1) := by decide +kernel
theorem dX11_tour_41 : decode cX11_tour 41 = .ok (.istore_n 3, 1) := by decide +kernel
theorem dX11_tour_42 : decode cX11_tour 42 = .ok (.iconst 0, 1) := by decide +kernel
theorem dX11_tour_43 : decode cX11_tour 43 = .ok (.istore 4, 2) := by decide +kernel
theorem dX11_tour_45 : decode cX11_tour 45 = .ok (.iconst 1, 1) := by decide +kernel
theorem dX11_tour_46 : decode cX11_tour 46 = .ok (.istore 5, 2) := by decide +kernel
theorem dX11_tour_48 : decode cX11_tour 48 = .ok (.iload 5, 2) := by decide +kernel
theorem dX11_tour_50 : decode cX11_tour 50 = .ok (.iconst 1, 1) := by decide +kernel
theorem dX11_tour_51 : decode cX11_tour 51 = .ok (.aload_n 0, 1) := by decide +kernel
theorem dX11_tour_52 : decode cX11_tour 52 = .ok (.getfield 14, 3) := by decide +kernel
theorem dX11_tour_55 : decode cX11_tour 55 = .ok (.getfield 85, 3) := by decide +kernel
theorem dX11_tour_58 : decode cX11_tour 58 = .ok (.ishl, 1) := by decide +kernel
theorem dX11_tour_59 : decode cX11_tour 59 = .ok (.if_icmp .ge 61, 3) := by decide +kernel
theorem dX11_tour_62 : decode cX11_tour 62 = .ok (.iload 5, 2) := by decide +kernel
theorem dX11_tour_64 : decode cX11_tour 64 = .ok (.invokestatic 235, 3) := by decide +kernel
theorem dX11_tour_67 : decode cX11_tour 67 = .ok (.aload_n 0, 1) := by decide +kernel
theorem dX11_tour_68 : decode cX11_tour 68 = .ok (.getfield 14, 3) := by decide +kernel
theorem dX11_tour_71 : decode cX11_tour 71 = .ok (.getfield 154, 3) := by decide +kernel
theorem dX11_tour_74 : decode cX11_tour 74 = .ok (.if_icmp .gt 40, 3) := by decide +kernel
theorem dX11_tour_77 : decode cX11_tour 77 = .ok (.aload_n 0, 1) := by decide +kernel
theorem dX11_tour_78 : decode cX11_tour 78 = .ok (.getfield 14, 3) := by decide +kernel
theorem dX11_tour_81 : decode cX11_tour 81 = .ok (.iload 5, 2) := by decide +kernel
theorem dX11_tour_83 : decode cX11_tour 83 = .ok (.invokevirtual 241, 3) := by decide +kernel
theorem dX11_tour_86 : decode cX11_tour 86 = .ok (.iload_n 1, 1) := by decide +kernel
theorem dX11_tour_87 : decode cX11_tour 87 = .ok (.if_icmp .gt 27, 3) := by decide +kernel
theorem dX11_tour_90 : decode cX11_tour 90 = .ok (.aload_n 0, 1) := by decide +kernel
theorem dX11_tour_91 : decode cX11_tour 91 = .ok (.getfield 30, 3) := by decide +kernel
theorem dX11_tour_94 : decode cX11_tour 94 = .ok (.iload 5, 2) := by decide +kernel
theorem dX11_tour_96 : decode cX11_tour 96 = .ok (.invokevirtual 244, 3) := by decide +kernel
theorem dX11_tour_99 : decode cX11_tour 99 = .ok (.istore 6, 2) := by decide +kernel
theorem dX11_tour_101 : decode cX11_tour 101 = .ok (.iload 6, 2) := by decide +kernel
theorem dX11_tour_103 : decode cX11_tour 103 = .ok (.iload_n 3, 1) := by decide +kernel
theorem dX11_tour_104 : decode cX11_tour 104 = .ok (.if_icmp .le 10, 3) := by decide +kernel
theorem dX11_tour_107 : decode cX11_tour 107 = .ok (.iload 6, 2) := by decide +kernel
theorem dX11_tour_109 : decode cX11_tour 109 = .ok (.istore_n 3, 1) := by decide +kernel
theorem dX11_tour_110 : decode cX11_tour 110 = .ok (.iload 5, 2) := by decide +kernel
theorem dX11_tour_112 : decode cX11_tour 112 = .ok (.istore 4, 2) := by decide +kernel
theorem dX11_tour_114 : decode cX11_tour 114 = .ok (.iinc 5 1, 3) := by decide +kernel
theorem dX11_tour_117 : decode cX11_tour 117 = .ok (.goto (-69), 3) := by decide +kernel
theorem dX11_tour_120 : decode cX11_tour 120 = .ok (.iload 4, 2) := by decide +kernel
theorem dX11_tour_122 : decode cX11_tour 122 = .ok (.ireturn, 1) := by decide +kernel
theorem dX11_edge_0 : decode cX11_edge 0 = .ok (.aload_n 0, 1) := by decide +kernel
theorem dX11_edge_1 : decode cX11_edge 1 = .ok (.getfield 14, 3) := by decide +kernel
theorem dX11_edge_4 : decode cX11_edge 4 = .ok (.iload_n 1, 1) := by decide +kernel
theorem dX11_edge_5 : decode cX11_edge 5 = .ok (.invokevirtual 92, 3) := by decide +kernel
theorem dX11_edge_8 : decode cX11_edge 8 = .ok (.ifCond .ne 5, 3) := by decide +kernel
theorem dX11_edge_11 : decode cX11_edge 11 = .ok (.iconst (-1), 1) := by decide +kernel
theorem dX11_edge_12 : decode cX11_edge 12 = .ok (.ireturn, 1) := by decide +kernel
theorem dX11_edge_13 : decode cX11_edge 13 = .ok (.iload_n 2, 1) := by decide +kernel
theorem dX11_edge_14 : decode cX11_edge 14 = .ok (.iconst 1, 1) := by decide +kernel
theorem dX11_edge_15 : decode cX11_edge 15 = .ok (.iconst 4, 1) := by decide +kernel
theorem dX11_edge_16 : decode cX11_edge 16 = .ok (.invokestatic 74, 3) := by decide +kernel
theorem dX11_edge_19 : decode cX11_edge 19 = .ok (.ifCond .ne 6, 3) := by decide +kernel
theorem dX11_edge_22 : decode cX11_edge 22 = .ok (.bipush (-2), 2) := by decide +kernel
theorem dX11_edge_24 : decode cX11_edge 24 = .ok (.ireturn, 1) := by decide +kernel
theorem dX11_edge_25 : decode cX11_edge 25 = .ok (.aload_n 0, 1) := by decide +kernel
theorem dX11_edge_26 : decode cX11_edge 26 = .ok (.getfield 14, 3) := by decide +kernel
theorem dX11_edge_29 : decode cX11_edge 29 = .ok (.getfield 85, 3) := by decide +kernel
theorem dX11_edge_32 : decode cX11_edge 32 = .ok (.iconst 1, 1) := by decide +kernel
theorem dX11_edge_33 : decode cX11_edge 33 = .ok (.if_icmp .ne 6, 3) := by decide +kernel
theorem dX11_edge_36 : decode cX11_edge 36 = .ok (.bipush (-3), 2) := by decide +kernel
theorem dX11_edge_38 : decode cX11_edge 38 = .ok (.ireturn, 1) := by decide +kernel
theorem dX11_edge_39 : decode cX11_edge 39 = .ok (.aload_n 0, 1) := by decide +kernel
theorem dX11_edge_40 : decode cX11_edge 40 = .ok (.getfield 30, 3) := by decide +kernel
theorem dX11_edge_43 : decode cX11_edge 43 = .ok (.iload_n 2, 1) := by decide +kernel
theorem dX11_edge_44 : decode cX11_edge 44 = .ok (.invokevirtual 189, 3) := by decide +kernel
theorem dX11_edge_47 : decode cX11_edge 47 = .ok (.aload_n 0, 1) := by decide +kernel
theorem dX11_edge_48 : decode cX11_edge 48 = .ok (.getfield 30, 3) := by decide +kernel
theorem dX11_edge_51 : decode cX11_edge 51 = .ok (.iload_n 2, 1) := by decide +kernel
theorem dX11_edge_52 : decode cX11_edge 52 = .ok (.invokevirtual 232, 3) := by decide +kernel
theorem dX11_edge_55 : decode cX11_edge 55 = .ok (.aload_n 0, 1) := by decide +kernel
theorem dX11_edge_56 : decode cX11_edge 56 = .ok (.getfield 30, 3) := by decide +kernel
theorem dX11_edge_59 : decode cX11_edge 59 = .ok (.invokevirtual 247, 3) := by decide +kernel
theorem dX11_edge_62 : decode cX11_edge 62 = .ok (.istore_n 3, 1) := by decide +kernel
theorem dX11_edge_63 : decode cX11_edge 63 = .ok (.iconst 1, 1) := by decide +kernel
theorem dX11_edge_64 : decode cX11_edge 64 = .ok (.istore 4, 2) := by decide +kernel
theorem dX11_edge_66 : decode cX11_edge 66 = .ok (.iload 4, 2) := by decide +kernel
theorem dX11_edge_68 : decode cX11_edge 68 = .ok (.bipush 30, 2) := by decide +kernel
theorem dX11_edge_70 : decode cX11_edge 70 = .ok (.if_icmp .gt 47, 3) := by decide +kernel
theorem dX11_edge_73 : decode cX11_edge 73 = .ok (.aload_n 0, 1) := by decide +kernel
theorem dX11_edge_74 : decode cX11_edge 74 = .ok (.getfield 30, 3) := by decide +kernel
theorem dX11_edge_77 : decode cX11_edge 77 = .ok (.iload_n 1, 1) := by decide +kernel
theorem dX11_edge_78 : decode cX11_edge 78 = .ok (.iload_n 2, 1) := by decide +kernel
theorem dX11_edge_79 : decode cX11_edge 79 = .ok (.iload 4, 2) := by decide +kernel
theorem dX11_edge_81 : decode cX11_edge 81 = .ok (.ineg, 1) := by decide +kernel
theorem dX11_edge_82 : decode cX11_edge 82 = .ok (.invokevirtual 250, 3) := by decide +kernel
theorem dX11_edge_85 : decode cX11_edge 85 = .ok (.iload_n 3, 1) := by decide +kernel
theorem dX11_edge_86 : decode cX11_edge 86 = .ok (.if_icmp .eq 7, 3) := by decide +kernel
theorem dX11_edge_89 : decode cX11_edge 89 = .ok (.iload 4, 2) := by decide +kernel
theorem dX11_edge_91 : decode cX11_edge 91 = .ok (.ineg, 1) := by decide +kernel
theorem dX11_edge_92 : decode cX11_edge 92 = .ok (.ireturn, 1) := by decide +kernel
theorem dX11_edge_93 : decode cX11_edge 93 = .ok (.aload_n 0, 1) := by decide +kernel
theorem dX11_edge_94 : decode cX11_edge 94 = .ok (.getfield 30, 3) := by decide +kernel
theorem dX11_edge_97 : decode cX11_edge 97 = .ok (.iload_n 1, 1) := by decide +kernel
theorem dX11_edge_98 : decode cX11_edge 98 = .ok (.iload_n 2, 1) := by decide +kernel
theorem dX11_edge_99 : decode cX11_edge 99 = .ok (.iload 4, 2) := by decide +kernel
theorem dX11_edge_101 : decode cX11_edge 101 = .ok (.invokevirtual 250, 3) := by decide +kernel
theorem dX11_edge_104 : decode cX11_edge 104 = .ok (.iload_n 3, 1) := by decide +kernel
theorem dX11_edge_105 : decode cX11_edge 105 = .ok (.if_icmp .eq 6, 3) := by decide +kernel
theorem dX11_edge_108 : decode cX11_edge 108 = .ok (.iload 4, 2) := by decide +kernel
theorem dX11_edge_110 : decode cX11_edge 110 = .ok (.ireturn, 1) := by decide +kernel
theorem dX11_edge_111 : decode cX11_edge 111 = .ok (.iinc 4 1, 3) := by decide +kernel
theorem dX11_edge_114 : decode cX11_edge 114 = .ok (.goto (-48), 3) := by decide +kernel
theorem dX11_edge_117 : decode cX11_edge 117 = .ok (.iconst 0, 1) := by decide +kernel
theorem dX11_edge_118 : decode cX11_edge 118 = .ok (.ireturn, 1) := by decide +kernel
theorem dX11_act_0 : decode cX11_act 0 = .ok (.aload_n 0, 1) := by decide +kernel
theorem dX11_act_1 : decode cX11_act 1 = .ok (.getfield 47, 3) := by decide +kernel
theorem dX11_act_4 : decode cX11_act 4 = .ok (.iconst 0, 1) := by decide +kernel
theorem dX11_act_5 : decode cX11_act 5 = .ok (.iconst 0, 1) := by decide +kernel
theorem dX11_act_6 : decode cX11_act 6 = .ok (.iastore, 1) := by decide +kernel
theorem dX11_act_7 : decode cX11_act 7 = .ok (.aload_n 0, 1) := by decide +kernel
theorem dX11_act_8 : decode cX11_act 8 = .ok (.getfield 14, 3) := by decide +kernel
theorem dX11_act_11 : decode cX11_act 11 = .ok (.iload_n 1, 1) := by decide +kernel
theorem dX11_act_12 : decode cX11_act 12 = .ok (.invokevirtual 168, 3) := by decide +kernel
theorem dX11_act_15 : decode cX11_act 15 = .ok (.astore 4, 2) := by decide +kernel
theorem dX11_act_17 : decode cX11_act 17 = .ok (.aload 4, 2) := by decide +kernel
theorem dX11_act_19 : decode cX11_act 19 = .ok (.ifnonnull 5, 3) := by decide +kernel
theorem dX11_act_22 : decode cX11_act 22 = .ok (.iconst 0, 1) := by decide +kernel
theorem dX11_act_23 : decode cX11_act 23 = .ok (.ireturn, 1) := by decide +kernel
theorem dX11_act_24 : decode cX11_act 24 = .ok (.iload_n 2, 1) := by decide +kernel
theorem dX11_act_25 : decode cX11_act 25 = .ok (.tableswitch 60 0 2 #[27, 38, 49], 27) := by decide +kernel
theorem dX11_act_52 : decode cX11_act 52 = .ok (.aload 4, 2) := by decide +kernel
theorem dX11_act_54 : decode cX11_act 54 = .ok (.iload_n 3, 1) := by decide +kernel
theorem dX11_act_55 : decode cX11_act 55 = .ok (.aload_n 0, 1) := by decide +kernel
theorem dX11_act_56 : decode cX11_act 56 = .ok (.getfield 47, 3) := by decide +kernel
theorem dX11_act_59 : decode cX11_act 59 = .ok (.invokevirtual 253, 3) := by decide +kernel
theorem dX11_act_62 : decode cX11_act 62 = .ok (.ireturn, 1) := by decide +kernel
theorem dX11_act_63 : decode cX11_act 63 = .ok (.aload 4, 2) := by decide +kernel
theorem dX11_act_65 : decode cX11_act 65 = .ok (.iload_n 3, 1) := by decide +kernel
theorem dX11_act_66 : decode cX11_act 66 = .ok (.aload_n 0, 1) := by decide +kernel
theorem dX11_act_67 : decode cX11_act 67 = .ok (.getfield 47, 3) := by decide +kernel
theorem dX11_act_70 : decode cX11_act 70 = .ok (.invokevirtual 257, 3) := by decide +kernel
theorem dX11_act_73 : decode cX11_act 73 = .ok (.ireturn, 1) := by decide +kernel
theorem dX11_act_74 : decode cX11_act 74 = .ok (.aload 4, 2) := by decide +kernel
theorem dX11_act_76 : decode cX11_act 76 = .ok (.iload_n 3, 1) := by decide +kernel
theorem dX11_act_77 : decode cX11_act 77 = .ok (.aload_n 0, 1) := by decide +kernel
theorem dX11_act_78 : decode cX11_act 78 = .ok (.getfield 47, 3) := by decide +kernel
theorem dX11_act_81 : decode cX11_act 81 = .ok (.invokevirtual 259, 3) := by decide +kernel
theorem dX11_act_84 : decode cX11_act 84 = .ok (.ireturn, 1) := by decide +kernel
theorem dX11_act_85 : decode cX11_act 85 = .ok (.iconst 0, 1) := by decide +kernel
theorem dX11_act_86 : decode cX11_act 86 = .ok (.ireturn, 1) := by decide +kernel
theorem dX11_trace_0 : decode cX11_trace 0 = .ok (.iload_n 1, 1) := by decide +kernel
theorem dX11_trace_1 : decode cX11_trace 1 = .ok (.iconst 0, 1) := by decide +kernel
theorem dX11_trace_2 : decode cX11_trace 2 = .ok (.aload_n 0, 1) := by decide +kernel
theorem dX11_trace_3 : decode cX11_trace 3 = .ok (.getfield 47, 3) := by decide +kernel
theorem dX11_trace_6 : decode cX11_trace 6 = .ok (.iconst 0, 1) := by decide +kernel
theorem dX11_trace_7 : decode cX11_trace 7 = .ok (.iaload, 1) := by decide +kernel
theorem dX11_trace_8 : decode cX11_trace 8 = .ok (.bipush 20, 2) := by decide +kernel
theorem dX11_trace_10 : decode cX11_trace 10 = .ok (.invokestatic 262, 3) := by decide +kernel
theorem dX11_trace_13 : decode cX11_trace 13 = .ok (.iconst 1, 1) := by decide +kernel
theorem dX11_trace_14 : decode cX11_trace 14 = .ok (.isub, 1) := by decide +kernel
theorem dX11_trace_15 : decode cX11_trace 15 = .ok (.invokestatic 74, 3) := by decide +kernel
theorem dX11_trace_18 : decode cX11_trace 18 = .ok (.ifCond .eq 14, 3) := by decide +kernel
theorem dX11_trace_21 : decode cX11_trace 21 = .ok (.aload_n 0, 1) := by decide +kernel
theorem dX11_trace_22 : decode cX11_trace 22 = .ok (.getfield 47, 3) := by decide +kernel
theorem dX11_trace_25 : decode cX11_trace 25 = .ok (.iconst 1, 1) := by decide +kernel
theorem dX11_trace_26 : decode cX11_trace 26 = .ok (.iload_n 1, 1) := by decide +kernel
theorem dX11_trace_27 : decode cX11_trace 27 = .ok (.iadd, 1) := by decide +kernel
theorem dX11_trace_28 : decode cX11_trace 28 = .ok (.iaload, 1) := by decide +kernel
theorem dX11_trace_29 : decode cX11_trace 29 = .ok (.goto 4, 3) := by decide +kernel
theorem dX11_trace_32 : decode cX11_trace 32 = .ok (.iconst (-1), 1) := by decide +kernel
theorem dX11_trace_33 : decode cX11_trace 33 = .ok (.ireturn, 1) := by decide +kernel
theorem dX11_as_0 : decode cX11_as 0 = .ok (.aload_n 0, 1) := by decide +kernel
theorem dX11_as_1 : decode cX11_as 1 = .ok (.getfield 14, 3) := by decide +kernel
theorem dX11_as_4 : decode cX11_as 4 = .ok (.iload_n 1, 1) := by decide +kernel
theorem dX11_as_5 : decode cX11_as 5 = .ok (.invokevirtual 168, 3) := by decide +kernel
theorem dX11_as_8 : decode cX11_as 8 = .ok (.astore_n 3, 1) := by decide +kernel
theorem dX11_as_9 : decode cX11_as 9 = .ok (.aload_n 3, 1) := by decide +kernel
theorem dX11_as_10 : decode cX11_as 10 = .ok (.ifnull 13, 3) := by decide +kernel
theorem dX11_as_13 : decode cX11_as 13 = .ok (.iload_n 2, 1) := by decide +kernel
theorem dX11_as_14 : decode cX11_as 14 = .ok (.iconst 0, 1) := by decide +kernel
theorem dX11_as_15 : decode cX11_as 15 = .ok (.bipush 6, 2) := by decide +kernel
theorem dX11_as_17 : decode cX11_as 17 = .ok (.invokestatic 74, 3) := by decide +kernel
theorem dX11_as_20 : decode cX11_as 20 = .ok (.ifCond .ne 5, 3) := by decide +kernel
theorem dX11_as_23 : decode cX11_as 23 = .ok (.iconst (-1), 1) := by decide +kernel
theorem dX11_as_24 : decode cX11_as 24 = .ok (.ireturn, 1) := by decide +kernel
theorem dX11_as_25 : decode cX11_as 25 = .ok (.aload_n 3, 1) := by decide +kernel
theorem dX11_as_26 : decode cX11_as 26 = .ok (.iload_n 2, 1) := by decide +kernel
theorem dX11_as_27 : decode cX11_as 27 = .ok (.invokestatic 264, 3) := by decide +kernel
theorem dX11_as_30 : decode cX11_as 30 = .ok (.ifCond .eq 10, 3) := by decide +kernel
theorem dX11_as_33 : decode cX11_as 33 = .ok (.aload_n 3, 1) := by decide +kernel
theorem dX11_as_34 : decode cX11_as 34 = .ok (.getfield 268, 3) := by decide +kernel
theorem dX11_as_37 : decode cX11_as 37 = .ok (.goto 5, 3) := by decide +kernel
theorem dX11_as_40 : decode cX11_as 40 = .ok (.bipush (-6), 2) := by decide +kernel
theorem dX11_as_42 : decode cX11_as 42 = .ok (.ireturn, 1) := by decide +kernel
theorem dX11_image_0 : decode cX11_image 0 = .ok (.aload_n 0, 1) := by decide +kernel
theorem dX11_image_1 : decode cX11_image 1 = .ok (.getfield 18, 3) := by decide +kernel
theorem dX11_image_4 : decode cX11_image 4 = .ok (.aload_n 0, 1) := by decide +kernel
theorem dX11_image_5 : decode cX11_image 5 = .ok (.getfield 14, 3) := by decide +kernel
theorem dX11_image_8 : decode cX11_image 8 = .ok (.invokevirtual 271, 3) := by decide +kernel
theorem dX11_image_11 : decode cX11_image 11 = .ok (.aload_n 0, 1) := by decide +kernel
theorem dX11_image_12 : decode cX11_image 12 = .ok (.iconst 1, 1) := by decide +kernel
theorem dX11_image_13 : decode cX11_image 13 = .ok (.putfield 21, 3) := by decide +kernel
theorem dX11_image_16 : decode cX11_image 16 = .ok (.aload_n 0, 1) := by decide +kernel
theorem dX11_image_17 : decode cX11_image 17 = .ok (.getfield 14, 3) := by decide +kernel
theorem dX11_image_20 : decode cX11_image 20 = .ok (.getfield 114, 3) := by decide +kernel
theorem dX11_image_23 : decode cX11_image 23 = .ok (.ireturn, 1) := by decide +kernel
theorem dX11_undo_0 : decode cX11_undo 0 = .ok (.aload_n 0, 1) := by decide +kernel
theorem dX11_undo_1 : decode cX11_undo 1 = .ok (.getfield 21, 3) := by decide +kernel
theorem dX11_undo_4 : decode cX11_undo 4 = .ok (.ifCond .ne 6, 3) := by decide +kernel
theorem dX11_undo_7 : decode cX11_undo 7 = .ok (.bipush (-3), 2) := by decide +kernel
theorem dX11_undo_9 : decode cX11_undo 9 = .ok (.ireturn, 1) := by decide +kernel
theorem dX11_undo_10 : decode cX11_undo 10 = .ok (.aload_n 0, 1) := by decide +kernel
theorem dX11_undo_11 : decode cX11_undo 11 = .ok (.getfield 14, 3) := by decide +kernel
theorem dX11_undo_14 : decode cX11_undo 14 = .ok (.aload_n 0, 1) := by decide +kernel
theorem dX11_undo_15 : decode cX11_undo 15 = .ok (.getfield 18, 3) := by decide +kernel
theorem dX11_undo_18 : decode cX11_undo 18 = .ok (.invokevirtual 271, 3) := by decide +kernel
theorem dX11_undo_21 : decode cX11_undo 21 = .ok (.aload_n 0, 1) := by decide +kernel
theorem dX11_undo_22 : decode cX11_undo 22 = .ok (.getfield 14, 3) := by decide +kernel
theorem dX11_undo_25 : decode cX11_undo 25 = .ok (.getfield 114, 3) := by decide +kernel
theorem dX11_undo_28 : decode cX11_undo 28 = .ok (.ireturn, 1) := by decide +kernel
theorem dX11_count_0 : decode cX11_count 0 = .ok (.iload_n 1, 1) := by decide +kernel
theorem dX11_count_1 : decode cX11_count 1 = .ok (.tableswitch 98 0 6 #[43, 51, 59, 67, 75, 83, 91], 43) := by decide +kernel
theorem dX11_count_44 : decode cX11_count 44 = .ok (.aload_n 0, 1) := by decide +kernel
theorem dX11_count_45 : decode cX11_count 45 = .ok (.getfield 14, 3) := by decide +kernel
theorem dX11_count_48 : decode cX11_count 48 = .ok (.getfield 58, 3) := by decide +kernel
theorem dX11_count_51 : decode cX11_count 51 = .ok (.ireturn, 1) := by decide +kernel
theorem dX11_count_52 : decode cX11_count 52 = .ok (.aload_n 0, 1) := by decide +kernel
theorem dX11_count_53 : decode cX11_count 53 = .ok (.getfield 14, 3) := by decide +kernel
theorem dX11_count_56 : decode cX11_count 56 = .ok (.getfield 85, 3) := by decide +kernel
theorem dX11_count_59 : decode cX11_count 59 = .ok (.ireturn, 1) := by decide +kernel
theorem dX11_count_60 : decode cX11_count 60 = .ok (.aload_n 0, 1) := by decide +kernel
theorem dX11_count_61 : decode cX11_count 61 = .ok (.getfield 14, 3) := by decide +kernel
theorem dX11_count_64 : decode cX11_count 64 = .ok (.getfield 157, 3) := by decide +kernel
theorem dX11_count_67 : decode cX11_count 67 = .ok (.ireturn, 1) := by decide +kernel
theorem dX11_count_68 : decode cX11_count 68 = .ok (.aload_n 0, 1) := by decide +kernel
theorem dX11_count_69 : decode cX11_count 69 = .ok (.getfield 14, 3) := by decide +kernel
theorem dX11_count_72 : decode cX11_count 72 = .ok (.getfield 114, 3) := by decide +kernel
theorem dX11_count_75 : decode cX11_count 75 = .ok (.ireturn, 1) := by decide +kernel
theorem dX11_count_76 : decode cX11_count 76 = .ok (.aload_n 0, 1) := by decide +kernel
theorem dX11_count_77 : decode cX11_count 77 = .ok (.getfield 14, 3) := by decide +kernel
theorem dX11_count_80 : decode cX11_count 80 = .ok (.getfield 154, 3) := by decide +kernel
theorem dX11_count_83 : decode cX11_count 83 = .ok (.ireturn, 1) := by decide +kernel
theorem dX11_count_84 : decode cX11_count 84 = .ok (.aload_n 0, 1) := by decide +kernel
theorem dX11_count_85 : decode cX11_count 85 = .ok (.getfield 14, 3) := by decide +kernel
theorem dX11_count_88 : decode cX11_count 88 = .ok (.getfield 50, 3) := by decide +kernel
theorem dX11_count_91 : decode cX11_count 91 = .ok (.ireturn, 1) := by decide +kernel
theorem dX11_count_92 : decode cX11_count 92 = .ok (.aload_n 0, 1) := by decide +kernel
theorem dX11_count_93 : decode cX11_count 93 = .ok (.getfield 47, 3) := by decide +kernel
theorem dX11_count_96 : decode cX11_count 96 = .ok (.iconst 0, 1) := by decide +kernel
theorem dX11_count_97 : decode cX11_count 97 = .ok (.iaload, 1) := by decide +kernel
theorem dX11_count_98 : decode cX11_count 98 = .ok (.ireturn, 1) := by decide +kernel
theorem dX11_count_99 : decode cX11_count 99 = .ok (.iconst (-1), 1) := by decide +kernel
theorem dX11_count_100 : decode cX11_count 100 = .ok (.ireturn, 1) := by decide +kernel
theorem dX11_within_0 : decode cX11_within 0 = .ok (.iload_n 0, 1) := by decide +kernel
theorem dX11_within_1 : decode cX11_within 1 = .ok (.iload_n 1, 1) := by decide +kernel
theorem dX11_within_2 : decode cX11_within 2 = .ok (.if_icmp .lt 12, 3) := by decide +kernel
theorem dX11_within_5 : decode cX11_within 5 = .ok (.iload_n 0, 1) := by decide +kernel
theorem dX11_within_6 : decode cX11_within 6 = .ok (.iload_n 2, 1) := by decide +kernel
theorem dX11_within_7 : decode cX11_within 7 = .ok (.if_icmp .gt 7, 3) := by decide +kernel
theorem dX11_within_10 : decode cX11_within 10 = .ok (.iconst 1, 1) := by decide +kernel
theorem dX11_within_11 : decode cX11_within 11 = .ok (.goto 4, 3) := by decide +kernel
theorem dX11_within_14 : decode cX11_within 14 = .ok (.iconst 0, 1) := by decide +kernel
theorem dX11_within_15 : decode cX11_within 15 = .ok (.ireturn, 1) := by decide +kernel
theorem dX11_bothWays_0 : decode cX11_bothWays 0 = .ok (.iload_n 0, 1) := by decide +kernel
theorem dX11_bothWays_1 : decode cX11_bothWays 1 = .ok (.i2l, 1) := by decide +kernel
theorem dX11_bothWays_2 : decode cX11_bothWays 2 = .ok (.lload_n 1, 1) := by decide +kernel
theorem dX11_bothWays_3 : decode cX11_bothWays 3 = .ok (.lmul, 1) := by decide +kernel
theorem dX11_bothWays_4 : decode cX11_bothWays 4 = .ok (.ldc 124, 2) := by decide +kernel
theorem dX11_bothWays_6 : decode cX11_bothWays 6 = .ok (.iload_n 0, 1) := by decide +kernel
theorem dX11_bothWays_7 : decode cX11_bothWays 7 = .ok (.isub, 1) := by decide +kernel
theorem dX11_bothWays_8 : decode cX11_bothWays 8 = .ok (.i2l, 1) := by decide +kernel
theorem dX11_bothWays_9 : decode cX11_bothWays 9 = .ok (.lload_n 3, 1) := by decide +kernel
theorem dX11_bothWays_10 : decode cX11_bothWays 10 = .ok (.lmul, 1) := by decide +kernel
theorem dX11_bothWays_11 : decode cX11_bothWays 11 = .ok (.ladd, 1) := by decide +kernel
theorem dX11_bothWays_12 : decode cX11_bothWays 12 = .ok (.ldc2_w 274, 3) := by decide +kernel
theorem dX11_bothWays_15 : decode cX11_bothWays 15 = .ok (.ldiv, 1) := by decide +kernel
theorem dX11_bothWays_16 : decode cX11_bothWays 16 = .ok (.lreturn, 1) := by decide +kernel
theorem dX11_planOf_0 : decode cX11_planOf 0 = .ok (.iload_n 0, 1) := by decide +kernel
theorem dX11_planOf_1 : decode cX11_planOf 1 = .ok (.tableswitch 99 1 6 #[39, 49, 59, 69, 79, 89], 39) := by decide +kernel
theorem dX11_planOf_40 : decode cX11_planOf 40 = .ok (.new 276, 3) := by decide +kernel
theorem dX11_planOf_43 : decode cX11_planOf 43 = .ok (.dup, 1) := by decide +kernel
theorem dX11_planOf_44 : decode cX11_planOf 44 = .ok (.iload_n 1, 1) := by decide +kernel
theorem dX11_planOf_45 : decode cX11_planOf 45 = .ok (.iload_n 2, 1) := by decide +kernel
theorem dX11_planOf_46 : decode cX11_planOf 46 = .ok (.invokespecial 278, 3) := by decide +kernel
theorem dX11_planOf_49 : decode cX11_planOf 49 = .ok (.areturn, 1) := by decide +kernel
theorem dX11_planOf_50 : decode cX11_planOf 50 = .ok (.new 281, 3) := by decide +kernel
theorem dX11_planOf_53 : decode cX11_planOf 53 = .ok (.dup, 1) := by decide +kernel
theorem dX11_planOf_54 : decode cX11_planOf 54 = .ok (.iload_n 1, 1) := by decide +kernel
theorem dX11_planOf_55 : decode cX11_planOf 55 = .ok (.iload_n 2, 1) := by decide +kernel
theorem dX11_planOf_56 : decode cX11_planOf 56 = .ok (.invokespecial 283, 3) := by decide +kernel
theorem dX11_planOf_59 : decode cX11_planOf 59 = .ok (.areturn, 1) := by decide +kernel
theorem dX11_planOf_60 : decode cX11_planOf 60 = .ok (.new 284, 3) := by decide +kernel
theorem dX11_planOf_63 : decode cX11_planOf 63 = .ok (.dup, 1) := by decide +kernel
theorem dX11_planOf_64 : decode cX11_planOf 64 = .ok (.iload_n 1, 1) := by decide +kernel
theorem dX11_planOf_65 : decode cX11_planOf 65 = .ok (.iload_n 2, 1) := by decide +kernel
theorem dX11_planOf_66 : decode cX11_planOf 66 = .ok (.invokespecial 286, 3) := by decide +kernel
theorem dX11_planOf_69 : decode cX11_planOf 69 = .ok (.areturn, 1) := by decide +kernel
theorem dX11_planOf_70 : decode cX11_planOf 70 = .ok (.new 287, 3) := by decide +kernel
theorem dX11_planOf_73 : decode cX11_planOf 73 = .ok (.dup, 1) := by decide +kernel
theorem dX11_planOf_74 : decode cX11_planOf 74 = .ok (.iload_n 1, 1) := by decide +kernel
theorem dX11_planOf_75 : decode cX11_planOf 75 = .ok (.iload_n 2, 1) := by decide +kernel
theorem dX11_planOf_76 : decode cX11_planOf 76 = .ok (.invokespecial 289, 3) := by decide +kernel
theorem dX11_planOf_79 : decode cX11_planOf 79 = .ok (.areturn, 1) := by decide +kernel
theorem dX11_planOf_80 : decode cX11_planOf 80 = .ok (.new 290, 3) := by decide +kernel
theorem dX11_planOf_83 : decode cX11_planOf 83 = .ok (.dup, 1) := by decide +kernel
theorem dX11_planOf_84 : decode cX11_planOf 84 = .ok (.iload_n 1, 1) := by decide +kernel
theorem dX11_planOf_85 : decode cX11_planOf 85 = .ok (.iload_n 2, 1) := by decide +kernel
theorem dX11_planOf_86 : decode cX11_planOf 86 = .ok (.invokespecial 292, 3) := by decide +kernel
theorem dX11_planOf_89 : decode cX11_planOf 89 = .ok (.areturn, 1) := by decide +kernel
theorem dX11_planOf_90 : decode cX11_planOf 90 = .ok (.new 172, 3) := by decide +kernel
theorem dX11_planOf_93 : decode cX11_planOf 93 = .ok (.dup, 1) := by decide +kernel
theorem dX11_planOf_94 : decode cX11_planOf 94 = .ok (.iload_n 1, 1) := by decide +kernel
theorem dX11_planOf_95 : decode cX11_planOf 95 = .ok (.iload_n 2, 1) := by decide +kernel
theorem dX11_planOf_96 : decode cX11_planOf 96 = .ok (.invokespecial 293, 3) := by decide +kernel
theorem dX11_planOf_99 : decode cX11_planOf 99 = .ok (.areturn, 1) := by decide +kernel
theorem dX11_planOf_100 : decode cX11_planOf 100 = .ok (.new 185, 3) := by decide +kernel
theorem dX11_planOf_103 : decode cX11_planOf 103 = .ok (.dup, 1) := by decide +kernel
theorem dX11_planOf_104 : decode cX11_planOf 104 = .ok (.iload_n 1, 1) := by decide +kernel
theorem dX11_planOf_105 : decode cX11_planOf 105 = .ok (.iload_n 2, 1) := by decide +kernel
theorem dX11_planOf_106 : decode cX11_planOf 106 = .ok (.invokespecial 294, 3) := by decide +kernel
theorem dX11_planOf_109 : decode cX11_planOf 109 = .ok (.areturn, 1) := by decide +kernel
theorem dX11_isOfKind_0 : decode cX11_isOfKind 0 = .ok (.iload_n 1, 1) := by decide +kernel
theorem dX11_isOfKind_1 : decode cX11_isOfKind 1 = .ok (.tableswitch 69 1 6 #[39, 44, 49, 54, 59, 64], 39) := by decide +kernel
theorem dX11_isOfKind_40 : decode cX11_isOfKind 40 = .ok (.aload_n 0, 1) := by decide +kernel
theorem dX11_isOfKind_41 : decode cX11_isOfKind 41 = .ok (.instanceof 276, 3) := by decide +kernel
theorem dX11_isOfKind_44 : decode cX11_isOfKind 44 = .ok (.ireturn, 1) := by decide +kernel
theorem dX11_isOfKind_45 : decode cX11_isOfKind 45 = .ok (.aload_n 0, 1) := by decide +kernel
theorem dX11_isOfKind_46 : decode cX11_isOfKind 46 = .ok (.instanceof 281, 3) := by decide +kernel
theorem dX11_isOfKind_49 : decode cX11_isOfKind 49 = .ok (.ireturn, 1) := by decide +kernel
theorem dX11_isOfKind_50 : decode cX11_isOfKind 50 = .ok (.aload_n 0, 1) := by decide +kernel
theorem dX11_isOfKind_51 : decode cX11_isOfKind 51 = .ok (.instanceof 284, 3) := by decide +kernel
theorem dX11_isOfKind_54 : decode cX11_isOfKind 54 = .ok (.ireturn, 1) := by decide +kernel
theorem dX11_isOfKind_55 : decode cX11_isOfKind 55 = .ok (.aload_n 0, 1) := by decide +kernel
theorem dX11_isOfKind_56 : decode cX11_isOfKind 56 = .ok (.instanceof 287, 3) := by decide +kernel
theorem dX11_isOfKind_59 : decode cX11_isOfKind 59 = .ok (.ireturn, 1) := by decide +kernel
theorem dX11_isOfKind_60 : decode cX11_isOfKind 60 = .ok (.aload_n 0, 1) := by decide +kernel
theorem dX11_isOfKind_61 : decode cX11_isOfKind 61 = .ok (.instanceof 290, 3) := by decide +kernel
theorem dX11_isOfKind_64 : decode cX11_isOfKind 64 = .ok (.ireturn, 1) := by decide +kernel
theorem dX11_isOfKind_65 : decode cX11_isOfKind 65 = .ok (.aload_n 0, 1) := by decide +kernel
theorem dX11_isOfKind_66 : decode cX11_isOfKind 66 = .ok (.instanceof 172, 3) := by decide +kernel
theorem dX11_isOfKind_69 : decode cX11_isOfKind 69 = .ok (.ireturn, 1) := by decide +kernel
theorem dX11_isOfKind_70 : decode cX11_isOfKind 70 = .ok (.iconst 1, 1) := by decide +kernel
theorem dX11_isOfKind_71 : decode cX11_isOfKind 71 = .ok (.ireturn, 1) := by decide +kernel
theorem dX11_whomNow_0 : decode cX11_whomNow 0 = .ok (.aload_n 0, 1) := by decide +kernel
theorem dX11_whomNow_1 : decode cX11_whomNow 1 = .ok (.getfield 30, 3) := by decide +kernel
theorem dX11_whomNow_4 : decode cX11_whomNow 4 = .ok (.aload_n 1, 1) := by decide +kernel
theorem dX11_whomNow_5 : decode cX11_whomNow 5 = .ok (.invokevirtual 184, 3) := by decide +kernel
theorem dX11_whomNow_8 : decode cX11_whomNow 8 = .ok (.invokevirtual 189, 3) := by decide +kernel
theorem dX11_whomNow_11 : decode cX11_whomNow 11 = .ok (.aload_n 1, 1) := by decide +kernel
theorem dX11_whomNow_12 : decode cX11_whomNow 12 = .ok (.aload_n 0, 1) := by decide +kernel
theorem dX11_whomNow_13 : decode cX11_whomNow 13 = .ok (.getfield 30, 3) := by decide +kernel
theorem dX11_whomNow_16 : decode cX11_whomNow 16 = .ok (.aload_n 0, 1) := by decide +kernel
theorem dX11_whomNow_17 : decode cX11_whomNow 17 = .ok (.getfield 43, 3) := by decide +kernel
theorem dX11_whomNow_20 : decode cX11_whomNow 20 = .ok (.aload_n 0, 1) := by decide +kernel
theorem dX11_whomNow_21 : decode cX11_whomNow 21 = .ok (.getfield 14, 3) := by decide +kernel
theorem dX11_whomNow_24 : decode cX11_whomNow 24 = .ok (.getfield 114, 3) := by decide +kernel
theorem dX11_whomNow_27 : decode cX11_whomNow 27 = .ok (.invokevirtual 295, 3) := by decide +kernel
theorem dX11_whomNow_30 : decode cX11_whomNow 30 = .ok (.ireturn, 1) := by decide +kernel
