theorem dX12_back_0 : decode cX12_back 0 = .ok (.iload_n 1, 1) := by decide +kernel
theorem dX12_back_1 : decode cX12_back 1 = .ok (.i2l, 1) := by decide +kernel
theorem dX12_back_2 : decode cX12_back 2 = .ok (.lconst 0, 1) := by decide +kernel
theorem dX12_back_3 : decode cX12_back 3 = .ok (.ldc2_w 96, 3) := by decide +kernel
theorem dX12_back_6 : decode cX12_back 6 = .ok (.invokestatic 98, 3) := by decide +kernel
theorem dX12_back_9 : decode cX12_back 9 = .ok (.ifCond .ne 6, 3) := by decide +kernel
theorem dX12_back_12 : decode cX12_back 12 = .ok (.bipush (-2), 2) := by decide +kernel
theorem dX12_back_14 : decode cX12_back 14 = .ok (.ireturn, 1) := by decide +kernel
theorem dX12_back_15 : decode cX12_back 15 = .ok (.aload_n 0, 1) := by decide +kernel
theorem dX12_back_16 : decode cX12_back 16 = .ok (.getfield 20, 3) := by decide +kernel
theorem dX12_back_19 : decode cX12_back 19 = .ok (.iload_n 1, 1) := by decide +kernel
theorem dX12_back_20 : decode cX12_back 20 = .ok (.baload, 1) := by decide +kernel
theorem dX12_back_21 : decode cX12_back 21 = .ok (.ifCond .ne 6, 3) := by decide +kernel
theorem dX12_back_24 : decode cX12_back 24 = .ok (.bipush (-6), 2) := by decide +kernel
theorem dX12_back_26 : decode cX12_back 26 = .ok (.ireturn, 1) := by decide +kernel
theorem dX12_count_0 : decode cX12_count 0 = .ok (.iconst 0, 1) := by decide +kernel
theorem dX12_count_1 : decode cX12_count 1 = .ok (.istore_n 2, 1) := by decide +kernel
theorem dX12_count_2 : decode cX12_count 2 = .ok (.iload_n 1, 1) := by decide +kernel
theorem dX12_count_3 : decode cX12_count 3 = .ok (.tableswitch 197 0 11 #[61, 68, 75, 82, 90, 98, 105, 110, 117, 124, 132, 164], 61) := by decide +kernel
theorem dX12_count_64 : decode cX12_count 64 = .ok (.aload_n 0, 1) := by decide +kernel
theorem dX12_count_65 : decode cX12_count 65 = .ok (.getfield 13, 3) := by decide +kernel
theorem dX12_count_68 : decode cX12_count 68 = .ok (.iconst 1, 1) := by decide +kernel
theorem dX12_count_69 : decode cX12_count 69 = .ok (.iaload, 1) := by decide +kernel
theorem dX12_count_70 : decode cX12_count 70 = .ok (.ireturn, 1) := by decide +kernel
theorem dX12_count_71 : decode cX12_count 71 = .ok (.aload_n 0, 1) := by decide +kernel
theorem dX12_count_72 : decode cX12_count 72 = .ok (.getfield 13, 3) := by decide +kernel
theorem dX12_count_75 : decode cX12_count 75 = .ok (.iconst 4, 1) := by decide +kernel
theorem dX12_count_76 : decode cX12_count 76 = .ok (.iaload, 1) := by decide +kernel
theorem dX12_count_77 : decode cX12_count 77 = .ok (.ireturn, 1) := by decide +kernel
theorem dX12_count_78 : decode cX12_count 78 = .ok (.aload_n 0, 1) := by decide +kernel
theorem dX12_count_79 : decode cX12_count 79 = .ok (.getfield 13, 3) := by decide +kernel
theorem dX12_count_82 : decode cX12_count 82 = .ok (.iconst 5, 1) := by decide +kernel
theorem dX12_count_83 : decode cX12_count 83 = .ok (.iaload, 1) := by decide +kernel
theorem dX12_count_84 : decode cX12_count 84 = .ok (.ireturn, 1) := by decide +kernel
theorem dX12_count_85 : decode cX12_count 85 = .ok (.aload_n 0, 1) := by decide +kernel
theorem dX12_count_86 : decode cX12_count 86 = .ok (.getfield 13, 3) := by decide +kernel
theorem dX12_count_89 : decode cX12_count 89 = .ok (.bipush 6, 2) := by decide +kernel
theorem dX12_count_91 : decode cX12_count 91 = .ok (.iaload, 1) := by decide +kernel
theorem dX12_count_92 : decode cX12_count 92 = .ok (.ireturn, 1) := by decide +kernel
theorem dX12_count_93 : decode cX12_count 93 = .ok (.aload_n 0, 1) := by decide +kernel
theorem dX12_count_94 : decode cX12_count 94 = .ok (.getfield 13, 3) := by decide +kernel
theorem dX12_count_97 : decode cX12_count 97 = .ok (.bipush 7, 2) := by decide +kernel
theorem dX12_count_99 : decode cX12_count 99 = .ok (.iaload, 1) := by decide +kernel
theorem dX12_count_100 : decode cX12_count 100 = .ok (.ireturn, 1) := by decide +kernel
theorem dX12_count_101 : decode cX12_count 101 = .ok (.aload_n 0, 1) := by decide +kernel
theorem dX12_count_102 : decode cX12_count 102 = .ok (.getfield 13, 3) := by decide +kernel
theorem dX12_count_105 : decode cX12_count 105 = .ok (.iconst 0, 1) := by decide +kernel
theorem dX12_count_106 : decode cX12_count 106 = .ok (.iaload, 1) := by decide +kernel
theorem dX12_count_107 : decode cX12_count 107 = .ok (.ireturn, 1) := by decide +kernel
theorem dX12_count_108 : decode cX12_count 108 = .ok (.aload_n 0, 1) := by decide +kernel
theorem dX12_count_109 : decode cX12_count 109 = .ok (.getfield 102, 3) := by decide +kernel
theorem dX12_count_112 : decode cX12_count 112 = .ok (.ireturn, 1) := by decide +kernel
theorem dX12_count_113 : decode cX12_count 113 = .ok (.aload_n 0, 1) := by decide +kernel
theorem dX12_count_114 : decode cX12_count 114 = .ok (.getfield 13, 3) := by decide +kernel
theorem dX12_count_117 : decode cX12_count 117 = .ok (.iconst 2, 1) := by decide +kernel
theorem dX12_count_118 : decode cX12_count 118 = .ok (.iaload, 1) := by decide +kernel
theorem dX12_count_119 : decode cX12_count 119 = .ok (.ireturn, 1) := by decide +kernel
theorem dX12_count_120 : decode cX12_count 120 = .ok (.aload_n 0, 1) := by decide +kernel
theorem dX12_count_121 : decode cX12_count 121 = .ok (.getfield 13, 3) := by decide +kernel
theorem dX12_count_124 : decode cX12_count 124 = .ok (.iconst 3, 1) := by decide +kernel
theorem dX12_count_125 : decode cX12_count 125 = .ok (.iaload, 1) := by decide +kernel
theorem dX12_count_126 : decode cX12_count 126 = .ok (.ireturn, 1) := by decide +kernel
theorem dX12_count_127 : decode cX12_count 127 = .ok (.aload_n 0, 1) := by decide +kernel
theorem dX12_count_128 : decode cX12_count 128 = .ok (.getfield 13, 3) := by decide +kernel
theorem dX12_count_131 : decode cX12_count 131 = .ok (.bipush 19, 2) := by decide +kernel
theorem dX12_count_133 : decode cX12_count 133 = .ok (.iaload, 1) := by decide +kernel
theorem dX12_count_134 : decode cX12_count 134 = .ok (.ireturn, 1) := by decide +kernel
theorem dX12_count_135 : decode cX12_count 135 = .ok (.iconst 0, 1) := by decide +kernel
theorem dX12_count_136 : decode cX12_count 136 = .ok (.istore_n 3, 1) := by decide +kernel
theorem dX12_count_137 : decode cX12_count 137 = .ok (.iload_n 3, 1) := by decide +kernel
theorem dX12_count_138 : decode cX12_count 138 = .ok (.aload_n 0, 1) := by decide +kernel
theorem dX12_count_139 : decode cX12_count 139 = .ok (.getfield 13, 3) := by decide +kernel
theorem dX12_count_142 : decode cX12_count 142 = .ok (.iconst 5, 1) := by decide +kernel
theorem dX12_count_143 : decode cX12_count 143 = .ok (.iaload, 1) := by decide +kernel
theorem dX12_count_144 : decode cX12_count 144 = .ok (.if_icmp .ge 21, 3) := by decide +kernel
theorem dX12_count_165 : decode cX12_count 165 = .ok (.iload_n 2, 1) := by decide +kernel
theorem dX12_count_166 : decode cX12_count 166 = .ok (.ireturn, 1) := by decide +kernel
theorem dX12_count_167 : decode cX12_count 167 = .ok (.iconst 0, 1) := by decide +kernel
theorem dX12_count_168 : decode cX12_count 168 = .ok (.istore_n 3, 1) := by decide +kernel
theorem dX12_count_169 : decode cX12_count 169 = .ok (.iload_n 3, 1) := by decide +kernel
theorem dX12_count_170 : decode cX12_count 170 = .ok (.iconst 4, 1) := by decide +kernel
theorem dX12_count_171 : decode cX12_count 171 = .ok (.if_icmp .ge 27, 3) := by decide +kernel
theorem dX12_count_174 : decode cX12_count 174 = .ok (.iload_n 2, 1) := by decide +kernel
theorem dX12_count_175 : decode cX12_count 175 = .ok (.aload_n 0, 1) := by decide +kernel
theorem dX12_count_176 : decode cX12_count 176 = .ok (.getfield 79, 3) := by decide +kernel
theorem dX12_count_179 : decode cX12_count 179 = .ok (.iload_n 3, 1) := by decide +kernel
theorem dX12_count_180 : decode cX12_count 180 = .ok (.iaload, 1) := by decide +kernel
theorem dX12_count_181 : decode cX12_count 181 = .ok (.iconst (-1), 1) := by decide +kernel
theorem dX12_count_182 : decode cX12_count 182 = .ok (.if_icmp .ne 7, 3) := by decide +kernel
theorem dX12_count_185 : decode cX12_count 185 = .ok (.iconst 0, 1) := by decide +kernel
theorem dX12_count_186 : decode cX12_count 186 = .ok (.goto 4, 3) := by decide +kernel
theorem dX12_count_190 : decode cX12_count 190 = .ok (.iadd, 1) := by decide +kernel
theorem dX12_count_191 : decode cX12_count 191 = .ok (.istore_n 2, 1) := by decide +kernel
theorem dX12_count_192 : decode cX12_count 192 = .ok (.iinc 3 1, 3) := by decide +kernel
theorem dX12_count_195 : decode cX12_count 195 = .ok (.goto (-26), 3) := by decide +kernel
theorem dX12_count_198 : decode cX12_count 198 = .ok (.iload_n 2, 1) := by decide +kernel
theorem dX12_count_199 : decode cX12_count 199 = .ok (.ireturn, 1) := by decide +kernel
theorem dX12_count_200 : decode cX12_count 200 = .ok (.iconst (-1), 1) := by decide +kernel
theorem dX12_count_201 : decode cX12_count 201 = .ok (.ireturn, 1) := by decide +kernel
theorem dX12_drum_0 : decode cX12_drum 0 = .ok (.aload_n 0, 1) := by decide +kernel
theorem dX12_drum_1 : decode cX12_drum 1 = .ok (.invokevirtual 236, 3) := by decide +kernel
theorem dX12_drum_4 : decode cX12_drum 4 = .ok (.aload_n 0, 1) := by decide +kernel
theorem dX12_drum_5 : decode cX12_drum 5 = .ok (.getfield 34, 3) := by decide +kernel
theorem dX12_drum_8 : decode cX12_drum 8 = .ok (.invokestatic 92, 3) := by decide +kernel
theorem dX12_drum_11 : decode cX12_drum 11 = .ok (.aload_n 0, 1) := by decide +kernel
theorem dX12_drum_12 : decode cX12_drum 12 = .ok (.invokevirtual 145, 3) := by decide +kernel
theorem dX12_drum_15 : decode cX12_drum 15 = .ok (.ifCond .eq 48, 3) := by decide +kernel
theorem dX12_drum_18 : decode cX12_drum 18 = .ok (.aload_n 0, 1) := by decide +kernel
theorem dX12_drum_19 : decode cX12_drum 19 = .ok (.getfield 118, 3) := by decide +kernel
theorem dX12_drum_22 : decode cX12_drum 22 = .ok (.ifCond .eq 41, 3) := by decide +kernel
theorem dX12_drum_63 : decode cX12_drum 63 = .ok (.aload_n 0, 1) := by decide +kernel
theorem dX12_drum_64 : decode cX12_drum 64 = .ok (.invokevirtual 145, 3) := by decide +kernel
theorem dX12_drum_67 : decode cX12_drum 67 = .ok (.ifCond .ne 6, 3) := by decide +kernel
theorem dX12_drum_73 : decode cX12_drum 73 = .ok (.iconst 0, 1) := by decide +kernel
theorem dX12_drum_74 : decode cX12_drum 74 = .ok (.istore_n 1, 1) := by decide +kernel
theorem dX12_drum_75 : decode cX12_drum 75 = .ok (.iload_n 1, 1) := by decide +kernel
theorem dX12_drum_76 : decode cX12_drum 76 = .ok (.sipush 544, 3) := by decide +kernel
theorem dX12_drum_79 : decode cX12_drum 79 = .ok (.if_icmp .ge 21, 3) := by decide +kernel
theorem dX12_drum_82 : decode cX12_drum 82 = .ok (.aload_n 0, 1) := by decide +kernel
theorem dX12_drum_83 : decode cX12_drum 83 = .ok (.getfield 13, 3) := by decide +kernel
theorem dX12_drum_86 : decode cX12_drum 86 = .ok (.iload_n 1, 1) := by decide +kernel
theorem dX12_drum_87 : decode cX12_drum 87 = .ok (.aload_n 0, 1) := by decide +kernel
theorem dX12_drum_88 : decode cX12_drum 88 = .ok (.getfield 34, 3) := by decide +kernel
theorem dX12_drum_91 : decode cX12_drum 91 = .ok (.iload_n 1, 1) := by decide +kernel
theorem dX12_drum_92 : decode cX12_drum 92 = .ok (.iaload, 1) := by decide +kernel
theorem dX12_drum_93 : decode cX12_drum 93 = .ok (.iastore, 1) := by decide +kernel
theorem dX12_drum_94 : decode cX12_drum 94 = .ok (.iinc 1 1, 3) := by decide +kernel
theorem dX12_drum_97 : decode cX12_drum 97 = .ok (.goto (-22), 3) := by decide +kernel
theorem dX12_drum_100 : decode cX12_drum 100 = .ok (.aload_n 0, 1) := by decide +kernel
theorem dX12_drum_101 : decode cX12_drum 101 = .ok (.invokevirtual 248, 3) := by decide +kernel
theorem dX12_drum_104 : decode cX12_drum 104 = .ok (.ifCond .eq 7, 3) := by decide +kernel
theorem dX12_drum_111 : decode cX12_drum 111 = .ok (.aload_n 0, 1) := by decide +kernel
theorem dX12_drum_112 : decode cX12_drum 112 = .ok (.getfield 13, 3) := by decide +kernel
theorem dX12_drum_115 : decode cX12_drum 115 = .ok (.iconst 0, 1) := by decide +kernel
theorem dX12_drum_116 : decode cX12_drum 116 = .ok (.iaload, 1) := by decide +kernel
theorem dX12_drum_117 : decode cX12_drum 117 = .ok (.ireturn, 1) := by decide +kernel
theorem dX12_end_0 : decode cX12_end 0 = .ok (.iload_n 1, 1) := by decide +kernel
theorem dX12_end_1 : decode cX12_end 1 = .ok (.i2l, 1) := by decide +kernel
theorem dX12_end_2 : decode cX12_end 2 = .ok (.lconst 0, 1) := by decide +kernel
theorem dX12_end_3 : decode cX12_end 3 = .ok (.aload_n 0, 1) := by decide +kernel
theorem dX12_end_4 : decode cX12_end 4 = .ok (.getfield 102, 3) := by decide +kernel
theorem dX12_end_7 : decode cX12_end 7 = .ok (.i2l, 1) := by decide +kernel
theorem dX12_end_8 : decode cX12_end 8 = .ok (.invokestatic 98, 3) := by decide +kernel
theorem dX12_end_11 : decode cX12_end 11 = .ok (.ifCond .ne 5, 3) := by decide +kernel
theorem dX12_end_14 : decode cX12_end 14 = .ok (.iconst (-1), 1) := by decide +kernel
theorem dX12_end_15 : decode cX12_end 15 = .ok (.ireturn, 1) := by decide +kernel
theorem dX12_end_16 : decode cX12_end 16 = .ok (.aload_n 0, 1) := by decide +kernel
theorem dX12_end_17 : decode cX12_end 17 = .ok (.iload_n 1, 1) := by decide +kernel
theorem dX12_end_18 : decode cX12_end 18 = .ok (.putfield 102, 3) := by decide +kernel
theorem dX12_end_21 : decode cX12_end 21 = .ok (.iload_n 1, 1) := by decide +kernel
theorem dX12_end_22 : decode cX12_end 22 = .ok (.ireturn, 1) := by decide +kernel
theorem dX12_fault_0 : decode cX12_fault 0 = .ok (.iload_n 1, 1) := by decide +kernel
theorem dX12_fault_1 : decode cX12_fault 1 = .ok (.ifCond .ne 10, 3) := by decide +kernel
theorem dX12_fault_4 : decode cX12_fault 4 = .ok (.aload_n 0, 1) := by decide +kernel
theorem dX12_fault_5 : decode cX12_fault 5 = .ok (.getfield 139, 3) := by decide +kernel
theorem dX12_fault_8 : decode cX12_fault 8 = .ok (.goto 16, 3) := by decide +kernel
theorem dX12_fault_11 : decode cX12_fault 11 = .ok (.iload_n 1, 1) := by decide +kernel
theorem dX12_fault_12 : decode cX12_fault 12 = .ok (.iconst 1, 1) := by decide +kernel
theorem dX12_fault_13 : decode cX12_fault 13 = .ok (.if_icmp .ne 10, 3) := by decide +kernel
theorem dX12_fault_16 : decode cX12_fault 16 = .ok (.aload_n 0, 1) := by decide +kernel
theorem dX12_fault_17 : decode cX12_fault 17 = .ok (.getfield 31, 3) := by decide +kernel
theorem dX12_fault_20 : decode cX12_fault 20 = .ok (.goto 4, 3) := by decide +kernel
theorem dX12_fault_23 : decode cX12_fault 23 = .ok (.iconst (-1), 1) := by decide +kernel
theorem dX12_fault_24 : decode cX12_fault 24 = .ok (.ireturn, 1) := by decide +kernel
theorem dX12_feed_0 : decode cX12_feed 0 = .ok (.aload_n 0, 1) := by decide +kernel
theorem dX12_feed_1 : decode cX12_feed 1 = .ok (.getfield 102, 3) := by decide +kernel
theorem dX12_feed_4 : decode cX12_feed 4 = .ok (.bipush 20, 2) := by decide +kernel
theorem dX12_feed_6 : decode cX12_feed 6 = .ok (.iadd, 1) := by decide +kernel
theorem dX12_feed_7 : decode cX12_feed 7 = .ok (.sipush 1600, 3) := by decide +kernel
theorem dX12_feed_10 : decode cX12_feed 10 = .ok (.if_icmp .le 5, 3) := by decide +kernel
theorem dX12_feed_15 : decode cX12_feed 15 = .ok (.aload_n 0, 1) := by decide +kernel
theorem dX12_feed_16 : decode cX12_feed 16 = .ok (.getfield 28, 3) := by decide +kernel
theorem dX12_feed_19 : decode cX12_feed 19 = .ok (.iconst 0, 1) := by decide +kernel
theorem dX12_feed_20 : decode cX12_feed 20 = .ok (.iload_n 1, 1) := by decide +kernel
theorem dX12_feed_21 : decode cX12_feed 21 = .ok (.iastore, 1) := by decide +kernel
theorem dX12_feed_22 : decode cX12_feed 22 = .ok (.aload_n 0, 1) := by decide +kernel
theorem dX12_feed_23 : decode cX12_feed 23 = .ok (.getfield 28, 3) := by decide +kernel
theorem dX12_feed_26 : decode cX12_feed 26 = .ok (.iconst 1, 1) := by decide +kernel
theorem dX12_feed_27 : decode cX12_feed 27 = .ok (.iload_n 2, 1) := by decide +kernel
theorem dX12_feed_28 : decode cX12_feed 28 = .ok (.iastore, 1) := by decide +kernel
theorem dX12_feed_29 : decode cX12_feed 29 = .ok (.aload_n 0, 1) := by decide +kernel
theorem dX12_feed_30 : decode cX12_feed 30 = .ok (.getfield 28, 3) := by decide +kernel
theorem dX12_feed_33 : decode cX12_feed 33 = .ok (.iconst 2, 1) := by decide +kernel
theorem dX12_feed_34 : decode cX12_feed 34 = .ok (.iload_n 3, 1) := by decide +kernel
theorem dX12_feed_35 : decode cX12_feed 35 = .ok (.iastore, 1) := by decide +kernel
theorem dX12_feed_36 : decode cX12_feed 36 = .ok (.aload_n 0, 1) := by decide +kernel
theorem dX12_feed_37 : decode cX12_feed 37 = .ok (.getfield 28, 3) := by decide +kernel
theorem dX12_feed_40 : decode cX12_feed 40 = .ok (.iconst 3, 1) := by decide +kernel
theorem dX12_feed_41 : decode cX12_feed 41 = .ok (.iload 4, 2) := by decide +kernel
theorem dX12_feed_43 : decode cX12_feed 43 = .ok (.iastore, 1) := by decide +kernel
theorem dX12_feed_44 : decode cX12_feed 44 = .ok (.aload_n 0, 1) := by decide +kernel
theorem dX12_feed_45 : decode cX12_feed 45 = .ok (.getfield 28, 3) := by decide +kernel
theorem dX12_feed_48 : decode cX12_feed 48 = .ok (.iconst 4, 1) := by decide +kernel
theorem dX12_feed_49 : decode cX12_feed 49 = .ok (.iload 5, 2) := by decide +kernel
theorem dX12_feed_51 : decode cX12_feed 51 = .ok (.iastore, 1) := by decide +kernel
theorem dX12_feed_52 : decode cX12_feed 52 = .ok (.iconst 0, 1) := by decide +kernel
theorem dX12_feed_53 : decode cX12_feed 53 = .ok (.istore 6, 2) := by decide +kernel
theorem dX12_feed_55 : decode cX12_feed 55 = .ok (.iload 6, 2) := by decide +kernel
theorem dX12_feed_57 : decode cX12_feed 57 = .ok (.bipush 20, 2) := by decide +kernel
theorem dX12_feed_59 : decode cX12_feed 59 = .ok (.if_icmp .ge 42, 3) := by decide +kernel
theorem dX12_feed_62 : decode cX12_feed 62 = .ok (.aload_n 0, 1) := by decide +kernel
theorem dX12_feed_63 : decode cX12_feed 63 = .ok (.getfield 24, 3) := by decide +kernel
theorem dX12_feed_66 : decode cX12_feed 66 = .ok (.aload_n 0, 1) := by decide +kernel
theorem dX12_feed_67 : decode cX12_feed 67 = .ok (.getfield 102, 3) := by decide +kernel
theorem dX12_feed_70 : decode cX12_feed 70 = .ok (.iload 6, 2) := by decide +kernel
theorem dX12_feed_72 : decode cX12_feed 72 = .ok (.iadd, 1) := by decide +kernel
theorem dX12_feed_73 : decode cX12_feed 73 = .ok (.aload_n 0, 1) := by decide +kernel
theorem dX12_feed_74 : decode cX12_feed 74 = .ok (.getfield 28, 3) := by decide +kernel
theorem dX12_feed_77 : decode cX12_feed 77 = .ok (.iload 6, 2) := by decide +kernel
theorem dX12_feed_79 : decode cX12_feed 79 = .ok (.iconst 4, 1) := by decide +kernel
theorem dX12_feed_80 : decode cX12_feed 80 = .ok (.idiv, 1) := by decide +kernel
theorem dX12_feed_81 : decode cX12_feed 81 = .ok (.iaload, 1) := by decide +kernel
theorem dX12_feed_82 : decode cX12_feed 82 = .ok (.bipush 24, 2) := by decide +kernel
theorem dX12_feed_84 : decode cX12_feed 84 = .ok (.bipush 8, 2) := by decide +kernel
theorem dX12_feed_86 : decode cX12_feed 86 = .ok (.iload 6, 2) := by decide +kernel
theorem dX12_feed_88 : decode cX12_feed 88 = .ok (.iconst 4, 1) := by decide +kernel
theorem dX12_feed_89 : decode cX12_feed 89 = .ok (.irem, 1) := by decide +kernel
theorem dX12_feed_90 : decode cX12_feed 90 = .ok (.imul, 1) := by decide +kernel
theorem dX12_feed_91 : decode cX12_feed 91 = .ok (.isub, 1) := by decide +kernel
theorem dX12_feed_92 : decode cX12_feed 92 = .ok (.ishr, 1) := by decide +kernel
theorem dX12_feed_93 : decode cX12_feed 93 = .ok (.i2b, 1) := by decide +kernel
theorem dX12_feed_94 : decode cX12_feed 94 = .ok (.bastore, 1) := by decide +kernel
theorem dX12_feed_95 : decode cX12_feed 95 = .ok (.iinc 6 1, 3) := by decide +kernel
theorem dX12_feed_98 : decode cX12_feed 98 = .ok (.goto (-43), 3) := by decide +kernel
theorem dX12_feed_101 : decode cX12_feed 101 = .ok (.aload_n 0, 1) := by decide +kernel
theorem dX12_feed_102 : decode cX12_feed 102 = .ok (.dup, 1) := by decide +kernel
theorem dX12_feed_103 : decode cX12_feed 103 = .ok (.getfield 102, 3) := by decide +kernel
theorem dX12_feed_106 : decode cX12_feed 106 = .ok (.bipush 20, 2) := by decide +kernel
theorem dX12_feed_108 : decode cX12_feed 108 = .ok (.iadd, 1) := by decide +kernel
theorem dX12_feed_109 : decode cX12_feed 109 = .ok (.putfield 102, 3) := by decide +kernel
theorem dX12_feed_112 : decode cX12_feed 112 = .ok (.aload_n 0, 1) := by decide +kernel
theorem dX12_feed_113 : decode cX12_feed 113 = .ok (.getfield 102, 3) := by decide +kernel
theorem dX12_feed_116 : decode cX12_feed 116 = .ok (.ireturn, 1) := by decide +kernel
theorem dX12_keep_0 : decode cX12_keep 0 = .ok (.iload_n 1, 1) := by decide +kernel
theorem dX12_keep_1 : decode cX12_keep 1 = .ok (.i2l, 1) := by decide +kernel
theorem dX12_keep_2 : decode cX12_keep 2 = .ok (.lconst 0, 1) := by decide +kernel
theorem dX12_keep_3 : decode cX12_keep 3 = .ok (.ldc2_w 96, 3) := by decide +kernel
theorem dX12_keep_6 : decode cX12_keep 6 = .ok (.invokestatic 98, 3) := by decide +kernel
theorem dX12_keep_9 : decode cX12_keep 9 = .ok (.ifCond .ne 6, 3) := by decide +kernel
theorem dX12_keep_12 : decode cX12_keep 12 = .ok (.bipush (-2), 2) := by decide +kernel
theorem dX12_keep_14 : decode cX12_keep 14 = .ok (.ireturn, 1) := by decide +kernel
theorem dX12_keep_15 : decode cX12_keep 15 = .ok (.iconst 0, 1) := by decide +kernel
theorem dX12_keep_16 : decode cX12_keep 16 = .ok (.istore_n 2, 1) := by decide +kernel
theorem dX12_keep_17 : decode cX12_keep 17 = .ok (.iload_n 2, 1) := by decide +kernel
theorem dX12_keep_18 : decode cX12_keep 18 = .ok (.sipush 544, 3) := by decide +kernel
theorem dX12_keep_21 : decode cX12_keep 21 = .ok (.if_icmp .ge 27, 3) := by decide +kernel
theorem dX12_keep_24 : decode cX12_keep 24 = .ok (.aload_n 0, 1) := by decide +kernel
theorem dX12_keep_25 : decode cX12_keep 25 = .ok (.getfield 17, 3) := by decide +kernel
theorem dX12_keep_28 : decode cX12_keep 28 = .ok (.sipush 544, 3) := by decide +kernel
theorem dX12_keep_31 : decode cX12_keep 31 = .ok (.iload_n 1, 1) := by decide +kernel
theorem dX12_keep_32 : decode cX12_keep 32 = .ok (.imul, 1) := by decide +kernel
theorem dX12_keep_33 : decode cX12_keep 33 = .ok (.iload_n 2, 1) := by decide +kernel
theorem dX12_keep_34 : decode cX12_keep 34 = .ok (.iadd, 1) := by decide +kernel
theorem dX12_keep_35 : decode cX12_keep 35 = .ok (.aload_n 0, 1) := by decide +kernel
theorem dX12_keep_36 : decode cX12_keep 36 = .ok (.getfield 13, 3) := by decide +kernel
theorem dX12_keep_39 : decode cX12_keep 39 = .ok (.iload_n 2, 1) := by decide +kernel
theorem dX12_keep_40 : decode cX12_keep 40 = .ok (.iaload, 1) := by decide +kernel
theorem dX12_keep_41 : decode cX12_keep 41 = .ok (.iastore, 1) := by decide +kernel
theorem dX12_keep_42 : decode cX12_keep 42 = .ok (.iinc 2 1, 3) := by decide +kernel
theorem dX12_keep_45 : decode cX12_keep 45 = .ok (.goto (-28), 3) := by decide +kernel
theorem dX12_keep_48 : decode cX12_keep 48 = .ok (.aload_n 0, 1) := by decide +kernel
theorem dX12_keep_49 : decode cX12_keep 49 = .ok (.getfield 20, 3) := by decide +kernel
theorem dX12_keep_52 : decode cX12_keep 52 = .ok (.iload_n 1, 1) := by decide +kernel
theorem dX12_keep_53 : decode cX12_keep 53 = .ok (.iconst 1, 1) := by decide +kernel
theorem dX12_keep_54 : decode cX12_keep 54 = .ok (.bastore, 1) := by decide +kernel
theorem dX12_keep_55 : decode cX12_keep 55 = .ok (.iconst 0, 1) := by decide +kernel
theorem dX12_keep_56 : decode cX12_keep 56 = .ok (.ireturn, 1) := by decide +kernel
theorem dX12_paste_0 : decode cX12_paste 0 = .ok (.iload_n 1, 1) := by decide +kernel
theorem dX12_paste_1 : decode cX12_paste 1 = .ok (.invokestatic 414, 3) := by decide +kernel
theorem dX12_paste_4 : decode cX12_paste 4 = .ok (.ifCond .eq 10, 3) := by decide +kernel
theorem dX12_paste_7 : decode cX12_paste 7 = .ok (.iload_n 3, 1) := by decide +kernel
theorem dX12_paste_8 : decode cX12_paste 8 = .ok (.invokestatic 414, 3) := by decide +kernel
theorem dX12_paste_11 : decode cX12_paste 11 = .ok (.ifCond .ne 6, 3) := by decide +kernel
theorem dX12_paste_14 : decode cX12_paste 14 = .ok (.bipush (-2), 2) := by decide +kernel
theorem dX12_paste_16 : decode cX12_paste 16 = .ok (.ireturn, 1) := by decide +kernel
theorem dX12_paste_17 : decode cX12_paste 17 = .ok (.aload_n 0, 1) := by decide +kernel
theorem dX12_paste_18 : decode cX12_paste 18 = .ok (.getfield 79, 3) := by decide +kernel
theorem dX12_paste_21 : decode cX12_paste 21 = .ok (.iload_n 1, 1) := by decide +kernel
theorem dX12_paste_22 : decode cX12_paste 22 = .ok (.iaload, 1) := by decide +kernel
theorem dX12_paste_23 : decode cX12_paste 23 = .ok (.iconst (-1), 1) := by decide +kernel
theorem dX12_paste_24 : decode cX12_paste 24 = .ok (.if_icmp .eq 13, 3) := by decide +kernel
theorem dX12_paste_37 : decode cX12_paste 37 = .ok (.bipush (-6), 2) := by decide +kernel
theorem dX12_paste_39 : decode cX12_paste 39 = .ok (.ireturn, 1) := by decide +kernel
theorem dX12_row_0 : decode cX12_row 0 = .ok (.iload_n 1, 1) := by decide +kernel
theorem dX12_row_1 : decode cX12_row 1 = .ok (.invokestatic 414, 3) := by decide +kernel
theorem dX12_row_4 : decode cX12_row 4 = .ok (.ifCond .eq 21, 3) := by decide +kernel
theorem dX12_row_7 : decode cX12_row 7 = .ok (.iload_n 2, 1) := by decide +kernel
theorem dX12_row_8 : decode cX12_row 8 = .ok (.i2l, 1) := by decide +kernel
theorem dX12_row_9 : decode cX12_row 9 = .ok (.lconst 0, 1) := by decide +kernel
theorem dX12_row_10 : decode cX12_row 10 = .ok (.ldc2_w 464, 3) := by decide +kernel
theorem dX12_row_13 : decode cX12_row 13 = .ok (.invokestatic 98, 3) := by decide +kernel
theorem dX12_row_16 : decode cX12_row 16 = .ok (.ifCond .eq 9, 3) := by decide +kernel
theorem dX12_row_19 : decode cX12_row 19 = .ok (.iload_n 3, 1) := by decide +kernel
theorem dX12_row_20 : decode cX12_row 20 = .ok (.bipush 60, 2) := by decide +kernel
theorem dX12_row_22 : decode cX12_row 22 = .ok (.if_icmp .le 6, 3) := by decide +kernel
theorem dX12_row_25 : decode cX12_row 25 = .ok (.bipush (-2), 2) := by decide +kernel
theorem dX12_row_27 : decode cX12_row 27 = .ok (.ireturn, 1) := by decide +kernel
theorem dX12_row_28 : decode cX12_row 28 = .ok (.iload_n 3, 1) := by decide +kernel
theorem dX12_row_29 : decode cX12_row 29 = .ok (.ifCond .ge 6, 3) := by decide +kernel
theorem dX12_row_32 : decode cX12_row 32 = .ok (.bipush (-3), 2) := by decide +kernel
theorem dX12_row_34 : decode cX12_row 34 = .ok (.ireturn, 1) := by decide +kernel
theorem dX12_row_35 : decode cX12_row 35 = .ok (.aload_n 0, 1) := by decide +kernel
theorem dX12_row_36 : decode cX12_row 36 = .ok (.getfield 79, 3) := by decide +kernel
theorem dX12_row_39 : decode cX12_row 39 = .ok (.iload_n 1, 1) := by decide +kernel
theorem dX12_row_40 : decode cX12_row 40 = .ok (.iload_n 3, 1) := by decide +kernel
theorem dX12_row_41 : decode cX12_row 41 = .ok (.iastore, 1) := by decide +kernel
theorem dX12_row_42 : decode cX12_row 42 = .ok (.aload_n 0, 1) := by decide +kernel
theorem dX12_row_43 : decode cX12_row 43 = .ok (.getfield 82, 3) := by decide +kernel
theorem dX12_row_46 : decode cX12_row 46 = .ok (.iload_n 1, 1) := by decide +kernel
theorem dX12_row_47 : decode cX12_row 47 = .ok (.iload_n 2, 1) := by decide +kernel
theorem dX12_row_48 : decode cX12_row 48 = .ok (.iastore, 1) := by decide +kernel
theorem dX12_row_49 : decode cX12_row 49 = .ok (.iconst 0, 1) := by decide +kernel
theorem dX12_row_50 : decode cX12_row 50 = .ok (.istore 4, 2) := by decide +kernel
theorem dX12_row_52 : decode cX12_row 52 = .ok (.iload 4, 2) := by decide +kernel
theorem dX12_row_54 : decode cX12_row 54 = .ok (.bipush 60, 2) := by decide +kernel
theorem dX12_row_56 : decode cX12_row 56 = .ok (.if_icmp .ge 22, 3) := by decide +kernel
theorem dX12_row_59 : decode cX12_row 59 = .ok (.aload_n 0, 1) := by decide +kernel
theorem dX12_row_60 : decode cX12_row 60 = .ok (.getfield 85, 3) := by decide +kernel
theorem dX12_row_63 : decode cX12_row 63 = .ok (.bipush 60, 2) := by decide +kernel
theorem dX12_row_65 : decode cX12_row 65 = .ok (.iload_n 1, 1) := by decide +kernel
theorem dX12_row_66 : decode cX12_row 66 = .ok (.imul, 1) := by decide +kernel
theorem dX12_row_67 : decode cX12_row 67 = .ok (.iload 4, 2) := by decide +kernel
theorem dX12_row_69 : decode cX12_row 69 = .ok (.iadd, 1) := by decide +kernel
theorem dX12_row_70 : decode cX12_row 70 = .ok (.lconst 0, 1) := by decide +kernel
theorem dX12_row_71 : decode cX12_row 71 = .ok (.lastore, 1) := by decide +kernel
theorem dX12_row_72 : decode cX12_row 72 = .ok (.iinc 4 1, 3) := by decide +kernel
theorem dX12_row_75 : decode cX12_row 75 = .ok (.goto (-23), 3) := by decide +kernel
theorem dX12_row_78 : decode cX12_row 78 = .ok (.iconst 0, 1) := by decide +kernel
theorem dX12_row_79 : decode cX12_row 79 = .ok (.ireturn, 1) := by decide +kernel
theorem dX12_stands_0 : decode cX12_stands 0 = .ok (.iload_n 1, 1) := by decide +kernel
theorem dX12_stands_1 : decode cX12_stands 1 = .ok (.tableswitch 103 0 5 #[39, 47, 55, 63, 71, 95], 39) := by decide +kernel
theorem dX12_stands_40 : decode cX12_stands 40 = .ok (.aload_n 0, 1) := by decide +kernel
theorem dX12_stands_41 : decode cX12_stands 41 = .ok (.getfield 13, 3) := by decide +kernel
theorem dX12_stands_44 : decode cX12_stands 44 = .ok (.bipush 11, 2) := by decide +kernel
theorem dX12_stands_46 : decode cX12_stands 46 = .ok (.iaload, 1) := by decide +kernel
theorem dX12_stands_47 : decode cX12_stands 47 = .ok (.ireturn, 1) := by decide +kernel
theorem dX12_stands_48 : decode cX12_stands 48 = .ok (.aload_n 0, 1) := by decide +kernel
theorem dX12_stands_49 : decode cX12_stands 49 = .ok (.getfield 13, 3) := by decide +kernel
theorem dX12_stands_52 : decode cX12_stands 52 = .ok (.bipush 14, 2) := by decide +kernel
theorem dX12_stands_54 : decode cX12_stands 54 = .ok (.iaload, 1) := by decide +kernel
theorem dX12_stands_55 : decode cX12_stands 55 = .ok (.ireturn, 1) := by decide +kernel
theorem dX12_stands_56 : decode cX12_stands 56 = .ok (.aload_n 0, 1) := by decide +kernel
theorem dX12_stands_57 : decode cX12_stands 57 = .ok (.getfield 13, 3) := by decide +kernel
theorem dX12_stands_60 : decode cX12_stands 60 = .ok (.bipush 15, 2) := by decide +kernel
theorem dX12_stands_62 : decode cX12_stands 62 = .ok (.iaload, 1) := by decide +kernel
theorem dX12_stands_63 : decode cX12_stands 63 = .ok (.ireturn, 1) := by decide +kernel
theorem dX12_stands_64 : decode cX12_stands 64 = .ok (.aload_n 0, 1) := by decide +kernel
theorem dX12_stands_65 : decode cX12_stands 65 = .ok (.getfield 13, 3) := by decide +kernel
theorem dX12_stands_68 : decode cX12_stands 68 = .ok (.bipush 13, 2) := by decide +kernel
theorem dX12_stands_70 : decode cX12_stands 70 = .ok (.iaload, 1) := by decide +kernel
theorem dX12_stands_71 : decode cX12_stands 71 = .ok (.ireturn, 1) := by decide +kernel
theorem dX12_stands_72 : decode cX12_stands 72 = .ok (.aload_n 0, 1) := by decide +kernel
theorem dX12_stands_73 : decode cX12_stands 73 = .ok (.invokevirtual 248, 3) := by decide +kernel
theorem dX12_stands_76 : decode cX12_stands 76 = .ok (.ifCond .eq 18, 3) := by decide +kernel
theorem dX12_stands_94 : decode cX12_stands 94 = .ok (.iconst 0, 1) := by decide +kernel
theorem dX12_stands_95 : decode cX12_stands 95 = .ok (.ireturn, 1) := by decide +kernel
theorem dX12_stands_96 : decode cX12_stands 96 = .ok (.aload_n 0, 1) := by decide +kernel
theorem dX12_stands_97 : decode cX12_stands 97 = .ok (.getfield 13, 3) := by decide +kernel
theorem dX12_stands_100 : decode cX12_stands 100 = .ok (.bipush 16, 2) := by decide +kernel
theorem dX12_stands_102 : decode cX12_stands 102 = .ok (.iaload, 1) := by decide +kernel
theorem dX12_stands_103 : decode cX12_stands 103 = .ok (.ireturn, 1) := by decide +kernel
theorem dX12_stands_104 : decode cX12_stands 104 = .ok (.iconst (-1), 1) := by decide +kernel
theorem dX12_stands_105 : decode cX12_stands 105 = .ok (.ireturn, 1) := by decide +kernel
theorem dX12_write_0 : decode cX12_write 0 = .ok (.iload_n 1, 1) := by decide +kernel
theorem dX12_write_1 : decode cX12_write 1 = .ok (.invokestatic 414, 3) := by decide +kernel
theorem dX12_write_4 : decode cX12_write 4 = .ok (.ifCond .ne 6, 3) := by decide +kernel
theorem dX12_write_7 : decode cX12_write 7 = .ok (.bipush (-2), 2) := by decide +kernel
theorem dX12_write_9 : decode cX12_write 9 = .ok (.ireturn, 1) := by decide +kernel
theorem dX12_write_10 : decode cX12_write 10 = .ok (.aload_n 0, 1) := by decide +kernel
theorem dX12_write_11 : decode cX12_write 11 = .ok (.getfield 79, 3) := by decide +kernel
theorem dX12_write_14 : decode cX12_write 14 = .ok (.iload_n 1, 1) := by decide +kernel
theorem dX12_write_15 : decode cX12_write 15 = .ok (.iaload, 1) := by decide +kernel
theorem dX12_write_16 : decode cX12_write 16 = .ok (.iconst (-1), 1) := by decide +kernel
theorem dX12_write_17 : decode cX12_write 17 = .ok (.if_icmp .ne 6, 3) := by decide +kernel
theorem dX12_write_20 : decode cX12_write 20 = .ok (.bipush (-6), 2) := by decide +kernel
theorem dX12_write_22 : decode cX12_write 22 = .ok (.ireturn, 1) := by decide +kernel
set_option maxHeartbeats 4000000 in
set_option maxRecDepth 100000 in
theorem c_X12_end (l : Launch) (dC : Nat → ClassId) (dI : Nat → Nat → Nat) (cI cZ cB cJ cM : ClassId) (h0 : Nat) (u : Nat → Nat) (p0 : Int32) (sz : Nat) : Met l yX12_end (kw yX12_end cX12_end 2 (some .int)) ({ frames := 1, cells := 0, slots := 0, locals := 25 }) (va_Pc [.ref h0, .int p0] (kPre dC dI [(cI, .int), (cZ, .boolean), (cB, .byte), (cJ, .long), (cM, .object RX2)] [(h0, .inr (12, [.int 0, .ref (u 1), .ref (u 2), .ref (u 3), .ref (u 4), .int 0, .ref (u 6), .int 0, .int 0, .int 0, .int 0, .int 0, .int 0, .int (-1), .ref (u 14), .ref (u 15), .ref (u 16), .ref (u 17), .ref (u 18), .ref (u 19), .ref (u 20), .int 0, .ref (u 22), .int 0, .ref (u 24), .ref (u 25), .int 0, .ref (u 27), .ref (u 28), .ref (u 29), .ref (u 30), .int 0, .int 0, .int 0, .int 0, .int 0, .ref (u 36), .long 0, .ref (u 38), .ref (u 39), .ref (u 40), .ref (u 41)]))] sz)) (va_Qi (fun (r : Int32) (_ : Unit) => Sp_end p0 r) (fun _ _ => True) (va_A [(h0, .inr (12, [.int 0, .ref (u 1), .ref (u 2), .ref (u 3), .ref (u 4), .int 0, .ref (u 6), .int 0, .int 0, .int 0, .int 0, .int 0, .int 0, .int (-1), .ref (u 14), .ref (u 15), .ref (u 16), .ref (u 17), .ref (u 18), .ref (u 19), .ref (u 20), .int 0, .ref (u 22), .int 0, .ref (u 24), .ref (u 25), .int 0, .ref (u 27), .ref (u 28), .ref (u 29), .ref (u 30), .int 0, .int 0, .int 0, .int 0, .int 0, .ref (u 36), .long 0, .ref (u 38), .ref (u 39), .ref (u 40), .ref (u 41)]))] sz)) 0 0 (va_A [(h0, .inr (12, [.int 0, .ref (u 1), .ref (u 2), .ref (u 3), .ref (u 4), .int 0, .ref (u 6), .int 0, .int 0, .int 0, .int 0, .int 0, .int 0, .int (-1), .ref (u 14), .ref (u 15), .ref (u 16), .ref (u 17), .ref (u 18), .ref (u 19), .ref (u 20), .int 0, .ref (u 22), .int 0, .ref (u 24), .ref (u 25), .int 0, .ref (u 27), .ref (u 28), .ref (u 29), .ref (u 30), .int 0, .int 0, .int 0, .int 0, .int 0, .ref (u 36), .long 0, .ref (u 38), .ref (u 39), .ref (u 40), .ref (u 41)]))] sz) := by
  refine kEnter (by decide) (Nat.le_of_ble_eq_true rfl) ?_
  intro p e s m below meth c ls hx hb hr hml hown hlocks hin hwd hsz hP hK hD hl
  subst hsz
  generalize hAe : va_A [(h0, .inr (12, [.int 0, .ref (u 1), .ref (u 2), .ref (u 3), .ref (u 4), .int 0, .ref (u 6), .int 0, .int 0, .int 0, .int 0, .int 0, .int 0, .int (-1), .ref (u 14), .ref (u 15), .ref (u 16), .ref (u 17), .ref (u 18), .ref (u 19), .ref (u 20), .int 0, .ref (u 22), .int 0, .ref (u 24), .ref (u 25), .int 0, .ref (u 27), .ref (u 28), .ref (u 29), .ref (u 30), .int 0, .int 0, .int 0, .int 0, .int 0, .ref (u 36), .long 0, .ref (u 38), .ref (u 39), .ref (u 40), .ref (u 41)]))] s.heap.size = A at hD ⊢
  have hA : ∀ q : Nat, s.heap.size ≤ q → A q := fun q h => by rw [← hAe]; exact Or.inr h
  have hS : va_S A s.heap s.heap [] := va_S.rf
  have hl : lv_has ls 2 [(0, .ref h0), (1, .int p0)] := hl
  refine lv_iload_n hx hb dX12_end_0 rfl (lv_at hl 1 rfl) ?_
  refine lv_i2l hx hb dX12_end_1 rfl ?_
  refine lv_lconst (v := 0) hx hb dX12_end_2 (by decide) ?_
  refine lv_aload_n hx hb dX12_end_3 rfl (lv_at hl 0 rfl) ?_
  refine va_get (D := (dC, dI)) (ci := 12) (v := .int 0) (C := RX12) (T := TX12) (N := 42) hx hb hwd inlX12 hown hK hP 0 rfl rfl 5 (by decide) (hwd _ kr9_1) (fun _ h9 => h9) rfl dX12_end_4 ?_
  refine lv_i2l (v := 0) hx hb dX12_end_7 (by decide) ?_
  have hPc := hP.sub (ws' := []) [] rfl
  have hDc := hD.sub (ws' := []) [] (by decide) rfl
  have hFc := va_free (wc := []) hD hS hA [] rfl
  refine va_calli (va_runS (As := [.long p0.toInt64, .long 0, .long 0]) (rest := []) ⟨hx, hb, hml, hown, hwd⟩ (c_X12_in l dC dI cI cZ cB cJ cM p0.toInt64 0 0 s.heap.size) (cwS 3 hwd (gS kr9_10 kr9_11 kr1_5 kr9_12) rfl rfl rfl (by decide +kernel) ⟨Nat.le_of_ble_eq_true rfl, Nat.le_of_ble_eq_true rfl⟩) (kPreS hPc hK hDc) rfl rfl hl.1 rfl (lv_room (Nat.le_of_ble_eq_true rfl)) dX12_end_8 ⟨Nat.le_of_ble_eq_true rfl, Nat.le_of_ble_eq_true rfl⟩) hS (fun q _ h => hFc q h) hFc (fun r1 u2 t H1 locs ht9 hvm hw hB hz1 hk1 hS => ?_)
  obtain ⟨hP1, hD1⟩ := hB
  rw [ht9] at hP1
  obtain ⟨hP, hD⟩ := va_join (wr := [(h0, .inr (12, [.int 0, .ref (u 1), .ref (u 2), .ref (u 3), .ref (u 4), .int 0, .ref (u 6), .int 0, .int 0, .int 0, .int 0, .int 0, .int 0, .int (-1), .ref (u 14), .ref (u 15), .ref (u 16), .ref (u 17), .ref (u 18), .ref (u 19), .ref (u 20), .int 0, .ref (u 22), .int 0, .ref (u 24), .ref (u 25), .int 0, .ref (u 27), .ref (u 28), .ref (u 29), .ref (u 30), .int 0, .int 0, .int 0, .int 0, .int 0, .ref (u 36), .long 0, .ref (u 38), .ref (u 39), .ref (u 40), .ref (u 41)]))]) (w1 := []) hP hD [] [0] rfl rfl (by decide) (by decide) hk1 hFc hP1 hD1
  generalize H1 = H at hP hS ⊢
  have hP : va_P (dC, dI) vwCl [(h0, .inr (12, [.int 0, .ref (u 1), .ref (u 2), .ref (u 3), .ref (u 4), .int 0, .ref (u 6), .int 0, .int 0, .int 0, .int 0, .int 0, .int 0, .int (-1), .ref (u 14), .ref (u 15), .ref (u 16), .ref (u 17), .ref (u 18), .ref (u 19), .ref (u 20), .int 0, .ref (u 22), .int 0, .ref (u 24), .ref (u 25), .int 0, .ref (u 27), .ref (u 28), .ref (u 29), .ref (u 30), .int 0, .int 0, .int 0, .int 0, .int 0, .ref (u 36), .long 0, .ref (u 38), .ref (u 39), .ref (u 40), .ref (u 41)]))] H := hP
  have hD : va_D A [(h0, .inr (12, [.int 0, .ref (u 1), .ref (u 2), .ref (u 3), .ref (u 4), .int 0, .ref (u 6), .int 0, .int 0, .int 0, .int 0, .int 0, .int 0, .int (-1), .ref (u 14), .ref (u 15), .ref (u 16), .ref (u 17), .ref (u 18), .ref (u 19), .ref (u 20), .int 0, .ref (u 22), .int 0, .ref (u 24), .ref (u 25), .int 0, .ref (u 27), .ref (u 28), .ref (u 29), .ref (u 30), .int 0, .int 0, .int 0, .int 0, .int 0, .ref (u 36), .long 0, .ref (u 38), .ref (u 39), .ref (u 40), .ref (u 41)]))] := hD
  rcases in_or (p := p0) (lo := 0) (hi := 0) 0 0 (by decide) (by decide) with ⟨e9, c3⟩ | ⟨e9, c3, c4⟩
  · rw [e9] at hw
    subst hw
    refine lv_if_ne (tgt := 16) hx hb dX12_end_11 (by decide) (fun c5 => absurd c5 (by decide)) (fun c5 => ?_)
    refine lv_iconst (v := (-1)) hx hb dX12_end_14 (by decide) ?_
    exact W.iret (v := (-1)) hx hb hr (fun t ht hW => ⟨⟨(-1), (), rfl, (by simp only [Sp_end, and_true, true_and, or_true, true_or, and_false, false_and, or_false, false_or, not_true_eq_false, not_false_eq_true, ne_eq, ki_lt, ki_le, ki_eq, kz_m8, kz_m7, kz_m6, kz_m4, kz_m3, kz_m2, kz_m1, kz_0, kz_1, kz_2, kz_3, kz_4, kz_5, kz_6, kz_7, kz_8, kz_9, kz_10, kz_11, kz_20, kz_60] at c3 ⊢ <;> omega), trivial⟩, hS.F ht⟩) hS.2.2 dX12_end_15
  · rw [e9] at hw
    subst hw
    refine lv_if_ne (tgt := 16) hx hb dX12_end_11 (by decide) (fun c6 => ?_) (fun c6 => absurd c6 (by decide))
    refine lv_aload_n hx hb dX12_end_16 rfl (lv_at hl 0 rfl) ?_
    refine lv_iload_n hx hb dX12_end_17 rfl (lv_at hl 1 rfl) ?_
    refine va_put (D := (dC, dI)) (ci := 12) (v := .int p0) (ty := .int) (C := RX12) (T := TX12) (N := 42) hx hb hwd inlX12 tyX12 tyX12_ok nmX12 hown hK hP hD hS 0 rfl rfl 5 (by decide) (hwd _ kr9_1) (fun _ h9 => h9) rfl (by decide +kernel) rfl rfl (Nat.le_of_ble_eq_true rfl) dX12_end_18 (fun H locs hP hD hS => ?_)
    have hP : va_P (dC, dI) vwCl [(h0, .inr (12, [.int 0, .ref (u 1), .ref (u 2), .ref (u 3), .ref (u 4), .int p0, .ref (u 6), .int 0, .int 0, .int 0, .int 0, .int 0, .int 0, .int (-1), .ref (u 14), .ref (u 15), .ref (u 16), .ref (u 17), .ref (u 18), .ref (u 19), .ref (u 20), .int 0, .ref (u 22), .int 0, .ref (u 24), .ref (u 25), .int 0, .ref (u 27), .ref (u 28), .ref (u 29), .ref (u 30), .int 0, .int 0, .int 0, .int 0, .int 0, .ref (u 36), .long 0, .ref (u 38), .ref (u 39), .ref (u 40), .ref (u 41)]))] H := hP
    have hD : va_D A [(h0, .inr (12, [.int 0, .ref (u 1), .ref (u 2), .ref (u 3), .ref (u 4), .int p0, .ref (u 6), .int 0, .int 0, .int 0, .int 0, .int 0, .int 0, .int (-1), .ref (u 14), .ref (u 15), .ref (u 16), .ref (u 17), .ref (u 18), .ref (u 19), .ref (u 20), .int 0, .ref (u 22), .int 0, .ref (u 24), .ref (u 25), .int 0, .ref (u 27), .ref (u 28), .ref (u 29), .ref (u 30), .int 0, .int 0, .int 0, .int 0, .int 0, .ref (u 36), .long 0, .ref (u 38), .ref (u 39), .ref (u 40), .ref (u 41)]))] := hD
    refine lv_iload_n hx hb dX12_end_21 rfl (lv_at hl 1 rfl) ?_
    exact W.iret (v := p0) hx hb hr (fun t ht hW => ⟨⟨p0, (), rfl, (by simp only [Sp_end, and_true, true_and, or_true, true_or, and_false, false_and, or_false, false_or, not_true_eq_false, not_false_eq_true, ne_eq, ki_lt, ki_le, ki_eq, kz_m8, kz_m7, kz_m6, kz_m4, kz_m3, kz_m2, kz_m1, kz_0, kz_1, kz_2, kz_3, kz_4, kz_5, kz_6, kz_7, kz_8, kz_9, kz_10, kz_11, kz_20, kz_60] at c3 c4 ⊢ <;> omega), trivial⟩, hS.F ht⟩) hS.2.2 dX12_end_22
set_option maxHeartbeats 4000000 in
set_option maxRecDepth 100000 in
theorem c_X12_fault (l : Launch) (dC : Nat → ClassId) (dI : Nat → Nat → Nat) (cI cZ cB cJ cM : ClassId) (h0 : Nat) (u : Nat → Nat) (p0 : Int32) (sz : Nat) : Met l yX12_fault (kw yX12_fault cX12_fault 2 (some .int)) ({ frames := 0, cells := 0, slots := 0, locals := 0 }) (va_Pc [.ref h0, .int p0] (kPre dC dI [(cI, .int), (cZ, .boolean), (cB, .byte), (cJ, .long), (cM, .object RX2)] [(h0, .inr (12, [.int 0, .ref (u 1), .ref (u 2), .ref (u 3), .ref (u 4), .int 0, .ref (u 6), .int 0, .int 0, .int 0, .int 0, .int 0, .int 0, .int (-1), .ref (u 14), .ref (u 15), .ref (u 16), .ref (u 17), .ref (u 18), .ref (u 19), .ref (u 20), .int 0, .ref (u 22), .int 0, .ref (u 24), .ref (u 25), .int 0, .ref (u 27), .ref (u 28), .ref (u 29), .ref (u 30), .int 0, .int 0, .int 0, .int 0, .int 0, .ref (u 36), .long 0, .ref (u 38), .ref (u 39), .ref (u 40), .ref (u 41)]))] sz)) (va_Qi (fun (r : Int32) (_ : Unit) => Sp_fault p0 r) (fun _ _ => True) (va_A [(h0, .inr (12, [.int 0, .ref (u 1), .ref (u 2), .ref (u 3), .ref (u 4), .int 0, .ref (u 6), .int 0, .int 0, .int 0, .int 0, .int 0, .int 0, .int (-1), .ref (u 14), .ref (u 15), .ref (u 16), .ref (u 17), .ref (u 18), .ref (u 19), .ref (u 20), .int 0, .ref (u 22), .int 0, .ref (u 24), .ref (u 25), .int 0, .ref (u 27), .ref (u 28), .ref (u 29), .ref (u 30), .int 0, .int 0, .int 0, .int 0, .int 0, .ref (u 36), .long 0, .ref (u 38), .ref (u 39), .ref (u 40), .ref (u 41)]))] sz)) 0 0 (va_A [(h0, .inr (12, [.int 0, .ref (u 1), .ref (u 2), .ref (u 3), .ref (u 4), .int 0, .ref (u 6), .int 0, .int 0, .int 0, .int 0, .int 0, .int 0, .int (-1), .ref (u 14), .ref (u 15), .ref (u 16), .ref (u 17), .ref (u 18), .ref (u 19), .ref (u 20), .int 0, .ref (u 22), .int 0, .ref (u 24), .ref (u 25), .int 0, .ref (u 27), .ref (u 28), .ref (u 29), .ref (u 30), .int 0, .int 0, .int 0, .int 0, .int 0, .ref (u 36), .long 0, .ref (u 38), .ref (u 39), .ref (u 40), .ref (u 41)]))] sz) := by
  refine kEnter (by decide) (Nat.le_of_ble_eq_true rfl) ?_
  intro p e s m below meth c ls hx hb hr hml hown hlocks hin hwd hsz hP hK hD hl
  subst hsz
  generalize hAe : va_A [(h0, .inr (12, [.int 0, .ref (u 1), .ref (u 2), .ref (u 3), .ref (u 4), .int 0, .ref (u 6), .int 0, .int 0, .int 0, .int 0, .int 0, .int 0, .int (-1), .ref (u 14), .ref (u 15), .ref (u 16), .ref (u 17), .ref (u 18), .ref (u 19), .ref (u 20), .int 0, .ref (u 22), .int 0, .ref (u 24), .ref (u 25), .int 0, .ref (u 27), .ref (u 28), .ref (u 29), .ref (u 30), .int 0, .int 0, .int 0, .int 0, .int 0, .ref (u 36), .long 0, .ref (u 38), .ref (u 39), .ref (u 40), .ref (u 41)]))] s.heap.size = A at hD ⊢
  have hA : ∀ q : Nat, s.heap.size ≤ q → A q := fun q h => by rw [← hAe]; exact Or.inr h
  have hS : va_S A s.heap s.heap [] := va_S.rf
  have hl : lv_has ls 2 [(0, .ref h0), (1, .int p0)] := hl
  refine lv_iload_n hx hb dX12_fault_0 rfl (lv_at hl 1 rfl) ?_
  refine lv_if_ne (tgt := 11) hx hb dX12_fault_1 (by decide) (fun c1 => ?_) (fun c1 => ?_)
  · refine lv_iload_n hx hb dX12_fault_11 rfl (lv_at hl 1 rfl) ?_
    refine lv_iconst (v := 1) hx hb dX12_fault_12 (by decide) ?_
    refine lv_icmp_ne (tgt := 23) hx hb dX12_fault_13 (by decide) (fun c2 => ?_) (fun c2 => ?_)
    · refine lv_iconst (v := (-1)) hx hb dX12_fault_23 (by decide) ?_
      exact W.iret (v := (-1)) hx hb hr (fun t ht hW => ⟨⟨(-1), (), rfl, (by simp only [Sp_fault, and_true, true_and, or_true, true_or, and_false, false_and, or_false, false_or, not_true_eq_false, not_false_eq_true, ne_eq, ki_lt, ki_le, ki_eq, kz_m8, kz_m7, kz_m6, kz_m4, kz_m3, kz_m2, kz_m1, kz_0, kz_1, kz_2, kz_3, kz_4, kz_5, kz_6, kz_7, kz_8, kz_9, kz_10, kz_11, kz_20, kz_60] at c1 c2 ⊢ <;> omega), trivial⟩, hS.F ht⟩) hS.2.2 dX12_fault_24
    · refine lv_aload_n hx hb dX12_fault_16 rfl (lv_at hl 0 rfl) ?_
      refine va_get (D := (dC, dI)) (ci := 12) (v := .int (-1)) (C := RX12) (T := TX12) (N := 42) hx hb hwd inlX12 hown hK hP 0 rfl rfl 13 (by decide) (hwd _ kr7_8) (fun _ h9 => h9) rfl dX12_fault_17 ?_
      refine lv_goto (tgt := 24) hx hb dX12_fault_20 (by decide) ?_
      exact W.iret (v := (-1)) hx hb hr (fun t ht hW => ⟨⟨(-1), (), rfl, (by simp only [Sp_fault, and_true, true_and, or_true, true_or, and_false, false_and, or_false, false_or, not_true_eq_false, not_false_eq_true, ne_eq, ki_lt, ki_le, ki_eq, kz_m8, kz_m7, kz_m6, kz_m4, kz_m3, kz_m2, kz_m1, kz_0, kz_1, kz_2, kz_3, kz_4, kz_5, kz_6, kz_7, kz_8, kz_9, kz_10, kz_11, kz_20, kz_60] at c1 c2 ⊢ <;> omega), trivial⟩, hS.F ht⟩) hS.2.2 dX12_fault_24
  · refine lv_aload_n hx hb dX12_fault_4 rfl (lv_at hl 0 rfl) ?_
    refine va_get (D := (dC, dI)) (ci := 12) (v := .int 0) (C := RX12) (T := TX12) (N := 42) hx hb hwd inlX12 hown hK hP 0 rfl rfl 12 (by decide) (hwd _ kr13_22) (fun _ h9 => h9) rfl dX12_fault_5 ?_
    refine lv_goto (tgt := 24) hx hb dX12_fault_8 (by decide) ?_
    exact W.iret (v := 0) hx hb hr (fun t ht hW => ⟨⟨0, (), rfl, (by simp only [Sp_fault, and_true, true_and, or_true, true_or, and_false, false_and, or_false, false_or, not_true_eq_false, not_false_eq_true, ne_eq, ki_lt, ki_le, ki_eq, kz_m8, kz_m7, kz_m6, kz_m4, kz_m3, kz_m2, kz_m1, kz_0, kz_1, kz_2, kz_3, kz_4, kz_5, kz_6, kz_7, kz_8, kz_9, kz_10, kz_11, kz_20, kz_60] at c1 ⊢ <;> omega), trivial⟩, hS.F ht⟩) hS.2.2 dX12_fault_24
set_option maxHeartbeats 4000000 in
set_option maxRecDepth 100000 in
theorem c_X12_stands (l : Launch) (dC : Nat → ClassId) (dI : Nat → Nat → Nat) (cI cZ cB cJ cM : ClassId) (h0 : Nat) (u : Nat → Nat) (p0 : Int32) (sz : Nat) : Met l yX12_stands (kw yX12_stands cX12_stands 2 (some .int)) ({ frames := 1, cells := 0, slots := 0, locals := 20 }) (va_Pc [.ref h0, .int p0] (kPre dC dI [(cI, .int), (cZ, .boolean), (cB, .byte), (cJ, .long), (cM, .object RX2)] [(h0, .inr (12, [.int 0, .ref (u 1), .ref (u 2), .ref (u 3), .ref (u 4), .int 0, .ref (u 6), .int 0, .int 0, .int 0, .int 0, .int 0, .int 0, .int (-1), .ref (u 14), .ref (u 15), .ref (u 16), .ref (u 17), .ref (u 18), .ref (u 19), .ref (u 20), .int 0, .ref (u 22), .int 0, .ref (u 24), .ref (u 25), .int 0, .ref (u 27), .ref (u 28), .ref (u 29), .ref (u 30), .int 0, .int 0, .int 0, .int 0, .int 0, .ref (u 36), .long 0, .ref (u 38), .ref (u 39), .ref (u 40), .ref (u 41)])), (u 1, .inl (cI, 544, .inl (upd (upd (upd (fun _ => 0) 8 1) 9 1) 17 (-1))))] sz)) (va_Qi (fun (r : Int32) (_ : Unit) => Sp_stands p0 r) (fun _ _ => True) (va_A [(h0, .inr (12, [.int 0, .ref (u 1), .ref (u 2), .ref (u 3), .ref (u 4), .int 0, .ref (u 6), .int 0, .int 0, .int 0, .int 0, .int 0, .int 0, .int (-1), .ref (u 14), .ref (u 15), .ref (u 16), .ref (u 17), .ref (u 18), .ref (u 19), .ref (u 20), .int 0, .ref (u 22), .int 0, .ref (u 24), .ref (u 25), .int 0, .ref (u 27), .ref (u 28), .ref (u 29), .ref (u 30), .int 0, .int 0, .int 0, .int 0, .int 0, .ref (u 36), .long 0, .ref (u 38), .ref (u 39), .ref (u 40), .ref (u 41)])), (u 1, .inl (cI, 544, .inl (upd (upd (upd (fun _ => 0) 8 1) 9 1) 17 (-1))))] sz)) 0 0 (va_A [(h0, .inr (12, [.int 0, .ref (u 1), .ref (u 2), .ref (u 3), .ref (u 4), .int 0, .ref (u 6), .int 0, .int 0, .int 0, .int 0, .int 0, .int 0, .int (-1), .ref (u 14), .ref (u 15), .ref (u 16), .ref (u 17), .ref (u 18), .ref (u 19), .ref (u 20), .int 0, .ref (u 22), .int 0, .ref (u 24), .ref (u 25), .int 0, .ref (u 27), .ref (u 28), .ref (u 29), .ref (u 30), .int 0, .int 0, .int 0, .int 0, .int 0, .ref (u 36), .long 0, .ref (u 38), .ref (u 39), .ref (u 40), .ref (u 41)])), (u 1, .inl (cI, 544, .inl (upd (upd (upd (fun _ => 0) 8 1) 9 1) 17 (-1))))] sz) := by
  refine kEnter (by decide) (Nat.le_of_ble_eq_true rfl) ?_
  intro p e s m below meth c ls hx hb hr hml hown hlocks hin hwd hsz hP hK hD hl
  subst hsz
  generalize hAe : va_A [(h0, .inr (12, [.int 0, .ref (u 1), .ref (u 2), .ref (u 3), .ref (u 4), .int 0, .ref (u 6), .int 0, .int 0, .int 0, .int 0, .int 0, .int 0, .int (-1), .ref (u 14), .ref (u 15), .ref (u 16), .ref (u 17), .ref (u 18), .ref (u 19), .ref (u 20), .int 0, .ref (u 22), .int 0, .ref (u 24), .ref (u 25), .int 0, .ref (u 27), .ref (u 28), .ref (u 29), .ref (u 30), .int 0, .int 0, .int 0, .int 0, .int 0, .ref (u 36), .long 0, .ref (u 38), .ref (u 39), .ref (u 40), .ref (u 41)])), (u 1, .inl (cI, 544, .inl (upd (upd (upd (fun _ => 0) 8 1) 9 1) 17 (-1))))] s.heap.size = A at hD ⊢
  have hA : ∀ q : Nat, s.heap.size ≤ q → A q := fun q h => by rw [← hAe]; exact Or.inr h
  have hS : va_S A s.heap s.heap [] := va_S.rf
  have hl : lv_has ls 2 [(0, .ref h0), (1, .int p0)] := hl
  refine lv_iload_n hx hb dX12_stands_0 rfl (lv_at hl 1 rfl) ?_
  by_cases c1 : p0.toInt < 0 ∨ 5 < p0.toInt
  · refine lv_tableOut (tgt := 104) hx hb dX12_stands_1 c1 (by decide) ?_
    refine lv_iconst (v := (-1)) hx hb dX12_stands_104 (by decide) ?_
    exact W.iret (v := (-1)) hx hb hr (fun t ht hW => ⟨⟨(-1), (), rfl, (by simp only [Sp_stands, and_true, true_and, or_true, true_or, and_false, false_and, or_false, false_or, not_true_eq_false, not_false_eq_true, ne_eq, ki_lt, ki_le, ki_eq, kz_m8, kz_m7, kz_m6, kz_m4, kz_m3, kz_m2, kz_m1, kz_0, kz_1, kz_2, kz_3, kz_4, kz_5, kz_6, kz_7, kz_8, kz_9, kz_10, kz_11, kz_20, kz_60] at c1 ⊢ <;> omega), trivial⟩, hS.F ht⟩) hS.2.2 dX12_stands_105
  · have c0 : p0 = 0 ∨ p0 = 1 ∨ p0 = 2 ∨ p0 = 3 ∨ p0 = 4 ∨ p0 = 5 := sw_5 (fun h => c1 (Or.inl h)) (fun h => c1 (Or.inr h))
    rcases c0 with rfl | rfl | rfl | rfl | rfl | rfl
    · refine lv_tableIn (off := 39) (tgt := 40) hx hb dX12_stands_1 (by decide) (by decide) (by decide) (by decide) ?_
      refine lv_aload_n hx hb dX12_stands_40 rfl (lv_at hl 0 rfl) ?_
      refine va_get (D := (dC, dI)) (ci := 12) (v := .ref (u 1)) (C := RX12) (T := TX12) (N := 42) hx hb hwd inlX12 hown hK hP 0 rfl rfl 1 (by decide) (hwd _ kr7_3) (fun _ h9 => h9) rfl dX12_stands_41 ?_
      refine lv_bipush (v := 11) hx hb dX12_stands_44 (by decide) ?_
      refine va_iald hx hb hK hP 1 0 rfl rfl (vin (by decide)) dX12_stands_46 ?_
      refine lv_topi (nm_r (e' := (0)) (by decide +kernel) ?_)
      exact W.iret (v := 0) hx hb hr (fun t ht hW => ⟨⟨0, (), rfl, (by simp only [Sp_stands, and_true, true_and, or_true, true_or, and_false, false_and, or_false, false_or, not_true_eq_false, not_false_eq_true, ne_eq, ki_lt, ki_le, ki_eq, kz_m8, kz_m7, kz_m6, kz_m4, kz_m3, kz_m2, kz_m1, kz_0, kz_1, kz_2, kz_3, kz_4, kz_5, kz_6, kz_7, kz_8, kz_9, kz_10, kz_11, kz_20, kz_60] <;> omega), trivial⟩, hS.F ht⟩) hS.2.2 dX12_stands_47
    · refine lv_tableIn (off := 47) (tgt := 48) hx hb dX12_stands_1 (by decide) (by decide) (by decide) (by decide) ?_
      refine lv_aload_n hx hb dX12_stands_48 rfl (lv_at hl 0 rfl) ?_
      refine va_get (D := (dC, dI)) (ci := 12) (v := .ref (u 1)) (C := RX12) (T := TX12) (N := 42) hx hb hwd inlX12 hown hK hP 0 rfl rfl 1 (by decide) (hwd _ kr7_3) (fun _ h9 => h9) rfl dX12_stands_49 ?_
      refine lv_bipush (v := 14) hx hb dX12_stands_52 (by decide) ?_
      refine va_iald hx hb hK hP 1 0 rfl rfl (vin (by decide)) dX12_stands_54 ?_
      refine lv_topi (nm_r (e' := (0)) (by decide +kernel) ?_)
      exact W.iret (v := 0) hx hb hr (fun t ht hW => ⟨⟨0, (), rfl, (by simp only [Sp_stands, and_true, true_and, or_true, true_or, and_false, false_and, or_false, false_or, not_true_eq_false, not_false_eq_true, ne_eq, ki_lt, ki_le, ki_eq, kz_m8, kz_m7, kz_m6, kz_m4, kz_m3, kz_m2, kz_m1, kz_0, kz_1, kz_2, kz_3, kz_4, kz_5, kz_6, kz_7, kz_8, kz_9, kz_10, kz_11, kz_20, kz_60] <;> omega), trivial⟩, hS.F ht⟩) hS.2.2 dX12_stands_55
    · refine lv_tableIn (off := 55) (tgt := 56) hx hb dX12_stands_1 (by decide) (by decide) (by decide) (by decide) ?_
      refine lv_aload_n hx hb dX12_stands_56 rfl (lv_at hl 0 rfl) ?_
      refine va_get (D := (dC, dI)) (ci := 12) (v := .ref (u 1)) (C := RX12) (T := TX12) (N := 42) hx hb hwd inlX12 hown hK hP 0 rfl rfl 1 (by decide) (hwd _ kr7_3) (fun _ h9 => h9) rfl dX12_stands_57 ?_
      refine lv_bipush (v := 15) hx hb dX12_stands_60 (by decide) ?_
      refine va_iald hx hb hK hP 1 0 rfl rfl (vin (by decide)) dX12_stands_62 ?_
      refine lv_topi (nm_r (e' := (0)) (by decide +kernel) ?_)
      exact W.iret (v := 0) hx hb hr (fun t ht hW => ⟨⟨0, (), rfl, (by simp only [Sp_stands, and_true, true_and, or_true, true_or, and_false, false_and, or_false, false_or, not_true_eq_false, not_false_eq_true, ne_eq, ki_lt, ki_le, ki_eq, kz_m8, kz_m7, kz_m6, kz_m4, kz_m3, kz_m2, kz_m1, kz_0, kz_1, kz_2, kz_3, kz_4, kz_5, kz_6, kz_7, kz_8, kz_9, kz_10, kz_11, kz_20, kz_60] <;> omega), trivial⟩, hS.F ht⟩) hS.2.2 dX12_stands_63
    · refine lv_tableIn (off := 63) (tgt := 64) hx hb dX12_stands_1 (by decide) (by decide) (by decide) (by decide) ?_
      refine lv_aload_n hx hb dX12_stands_64 rfl (lv_at hl 0 rfl) ?_
      refine va_get (D := (dC, dI)) (ci := 12) (v := .ref (u 1)) (C := RX12) (T := TX12) (N := 42) hx hb hwd inlX12 hown hK hP 0 rfl rfl 1 (by decide) (hwd _ kr7_3) (fun _ h9 => h9) rfl dX12_stands_65 ?_
      refine lv_bipush (v := 13) hx hb dX12_stands_68 (by decide) ?_
      refine va_iald hx hb hK hP 1 0 rfl rfl (vin (by decide)) dX12_stands_70 ?_
      refine lv_topi (nm_r (e' := (0)) (by decide +kernel) ?_)
      exact W.iret (v := 0) hx hb hr (fun t ht hW => ⟨⟨0, (), rfl, (by simp only [Sp_stands, and_true, true_and, or_true, true_or, and_false, false_and, or_false, false_or, not_true_eq_false, not_false_eq_true, ne_eq, ki_lt, ki_le, ki_eq, kz_m8, kz_m7, kz_m6, kz_m4, kz_m3, kz_m2, kz_m1, kz_0, kz_1, kz_2, kz_3, kz_4, kz_5, kz_6, kz_7, kz_8, kz_9, kz_10, kz_11, kz_20, kz_60] <;> omega), trivial⟩, hS.F ht⟩) hS.2.2 dX12_stands_71
    · refine lv_tableIn (off := 71) (tgt := 72) hx hb dX12_stands_1 (by decide) (by decide) (by decide) (by decide) ?_
      refine lv_aload_n hx hb dX12_stands_72 rfl (lv_at hl 0 rfl) ?_
      have hPc := hP.sub (ws' := [(h0, .inr (12, [.int 0, .ref (u 1), .ref (u 2), .ref (u 3), .ref (u 4), .int 0, .ref (u 6), .int 0, .int 0, .int 0, .int 0, .int 0, .int 0, .int (-1), .ref (u 14), .ref (u 15), .ref (u 16), .ref (u 17), .ref (u 18), .ref (u 19), .ref (u 20), .int 0, .ref (u 22), .int 0, .ref (u 24), .ref (u 25), .int 0, .ref (u 27), .ref (u 28), .ref (u 29), .ref (u 30), .int 0, .int 0, .int 0, .int 0, .int 0, .ref (u 36), .long 0, .ref (u 38), .ref (u 39), .ref (u 40), .ref (u 41)])), (u 1, .inl (cI, 544, .inl (upd (upd (upd (fun _ => 0) 8 1) 9 1) 17 (-1))))]) [0, 1] rfl
      have hDc := hD.sub (ws' := [(h0, .inr (12, [.int 0, .ref (u 1), .ref (u 2), .ref (u 3), .ref (u 4), .int 0, .ref (u 6), .int 0, .int 0, .int 0, .int 0, .int 0, .int 0, .int (-1), .ref (u 14), .ref (u 15), .ref (u 16), .ref (u 17), .ref (u 18), .ref (u 19), .ref (u 20), .int 0, .ref (u 22), .int 0, .ref (u 24), .ref (u 25), .int 0, .ref (u 27), .ref (u 28), .ref (u 29), .ref (u 30), .int 0, .int 0, .int 0, .int 0, .int 0, .ref (u 36), .long 0, .ref (u 38), .ref (u 39), .ref (u 40), .ref (u 41)])), (u 1, .inl (cI, 544, .inl (upd (upd (upd (fun _ => 0) 8 1) 9 1) 17 (-1))))]) [0, 1] (by decide) rfl
      have hFc := va_free (wc := [(h0, .inr (12, [.int 0, .ref (u 1), .ref (u 2), .ref (u 3), .ref (u 4), .int 0, .ref (u 6), .int 0, .int 0, .int 0, .int 0, .int 0, .int 0, .int (-1), .ref (u 14), .ref (u 15), .ref (u 16), .ref (u 17), .ref (u 18), .ref (u 19), .ref (u 20), .int 0, .ref (u 22), .int 0, .ref (u 24), .ref (u 25), .int 0, .ref (u 27), .ref (u 28), .ref (u 29), .ref (u 30), .int 0, .int 0, .int 0, .int 0, .int 0, .ref (u 36), .long 0, .ref (u 38), .ref (u 39), .ref (u 40), .ref (u 41)])), (u 1, .inl (cI, 544, .inl (upd (upd (upd (fun _ => 0) 8 1) 9 1) 17 (-1))))]) hD hS hA [0, 1] rfl
      refine va_calli (va_runV (As := []) (rest := []) ⟨hx, hb, hml, hown, hwd⟩ (c_X12_isDrum l dC dI cI cZ cB cJ cM h0 u s.heap.size) (cwV 0 hwd (gV kr14_12 kr14_13 kr14_14 kr1_5 kr14_15) rfl rfl rfl (by decide +kernel) ⟨Nat.le_of_ble_eq_true rfl, Nat.le_of_ble_eq_true rfl⟩) (kPreV hPc hK hDc (ci := 12) (q0 := 0) rfl rfl) rfl rfl hl.1 rfl (lv_room (Nat.le_of_ble_eq_true rfl)) dX12_stands_73 ⟨Nat.le_of_ble_eq_true rfl, Nat.le_of_ble_eq_true rfl⟩) hS (fun q _ h => hFc q h) hFc (fun r2 u3 t H1 locs ht9 hvm hw hB hz1 hk1 hS => ?_)
      obtain ⟨hP1, hD1⟩ := hB
      rw [ht9] at hP1
      obtain ⟨hP, hD⟩ := va_join (wr := []) (w1 := [(h0, .inr (12, [.int 0, .ref (u 1), .ref (u 2), .ref (u 3), .ref (u 4), .int 0, .ref (u 6), .int 0, .int 0, .int 0, .int 0, .int 0, .int 0, .int (-1), .ref (u 14), .ref (u 15), .ref (u 16), .ref (u 17), .ref (u 18), .ref (u 19), .ref (u 20), .int 0, .ref (u 22), .int 0, .ref (u 24), .ref (u 25), .int 0, .ref (u 27), .ref (u 28), .ref (u 29), .ref (u 30), .int 0, .int 0, .int 0, .int 0, .int 0, .ref (u 36), .long 0, .ref (u 38), .ref (u 39), .ref (u 40), .ref (u 41)])), (u 1, .inl (cI, 544, .inl (upd (upd (upd (fun _ => 0) 8 1) 9 1) 17 (-1))))]) hP hD [0, 1] [] rfl rfl (by decide) (by decide) hk1 hFc hP1 hD1
      generalize H1 = H at hP hS ⊢
      have hP : va_P (dC, dI) vwCl [(h0, .inr (12, [.int 0, .ref (u 1), .ref (u 2), .ref (u 3), .ref (u 4), .int 0, .ref (u 6), .int 0, .int 0, .int 0, .int 0, .int 0, .int 0, .int (-1), .ref (u 14), .ref (u 15), .ref (u 16), .ref (u 17), .ref (u 18), .ref (u 19), .ref (u 20), .int 0, .ref (u 22), .int 0, .ref (u 24), .ref (u 25), .int 0, .ref (u 27), .ref (u 28), .ref (u 29), .ref (u 30), .int 0, .int 0, .int 0, .int 0, .int 0, .ref (u 36), .long 0, .ref (u 38), .ref (u 39), .ref (u 40), .ref (u 41)])), (u 1, .inl (cI, 544, .inl (upd (upd (upd (fun _ => 0) 8 1) 9 1) 17 (-1))))] H := hP
      have hD : va_D A [(h0, .inr (12, [.int 0, .ref (u 1), .ref (u 2), .ref (u 3), .ref (u 4), .int 0, .ref (u 6), .int 0, .int 0, .int 0, .int 0, .int 0, .int 0, .int (-1), .ref (u 14), .ref (u 15), .ref (u 16), .ref (u 17), .ref (u 18), .ref (u 19), .ref (u 20), .int 0, .ref (u 22), .int 0, .ref (u 24), .ref (u 25), .int 0, .ref (u 27), .ref (u 28), .ref (u 29), .ref (u 30), .int 0, .int 0, .int 0, .int 0, .int 0, .ref (u 36), .long 0, .ref (u 38), .ref (u 39), .ref (u 40), .ref (u 41)])), (u 1, .inl (cI, 544, .inl (upd (upd (upd (fun _ => 0) 8 1) 9 1) 17 (-1))))] := hD
      subst hw
      refine lv_if_eq (tgt := 94) hx hb dX12_stands_76 (by decide) (fun c4 => ?_) (fun c4 => absurd c4 (by decide))
      refine lv_iconst (v := 0) hx hb dX12_stands_94 (by decide) ?_
      exact W.iret (v := 0) hx hb hr (fun t ht hW => ⟨⟨0, (), rfl, (by simp only [Sp_stands, and_true, true_and, or_true, true_or, and_false, false_and, or_false, false_or, not_true_eq_false, not_false_eq_true, ne_eq, ki_lt, ki_le, ki_eq, kz_m8, kz_m7, kz_m6, kz_m4, kz_m3, kz_m2, kz_m1, kz_0, kz_1, kz_2, kz_3, kz_4, kz_5, kz_6, kz_7, kz_8, kz_9, kz_10, kz_11, kz_20, kz_60] <;> omega), trivial⟩, hS.F ht⟩) hS.2.2 dX12_stands_95
    · refine lv_tableIn (off := 95) (tgt := 96) hx hb dX12_stands_1 (by decide) (by decide) (by decide) (by decide) ?_
      refine lv_aload_n hx hb dX12_stands_96 rfl (lv_at hl 0 rfl) ?_
      refine va_get (D := (dC, dI)) (ci := 12) (v := .ref (u 1)) (C := RX12) (T := TX12) (N := 42) hx hb hwd inlX12 hown hK hP 0 rfl rfl 1 (by decide) (hwd _ kr7_3) (fun _ h9 => h9) rfl dX12_stands_97 ?_
      refine lv_bipush (v := 16) hx hb dX12_stands_100 (by decide) ?_
      refine va_iald hx hb hK hP 1 0 rfl rfl (vin (by decide)) dX12_stands_102 ?_
      refine lv_topi (nm_r (e' := (0)) (by decide +kernel) ?_)
      exact W.iret (v := 0) hx hb hr (fun t ht hW => ⟨⟨0, (), rfl, (by simp only [Sp_stands, and_true, true_and, or_true, true_or, and_false, false_and, or_false, false_or, not_true_eq_false, not_false_eq_true, ne_eq, ki_lt, ki_le, ki_eq, kz_m8, kz_m7, kz_m6, kz_m4, kz_m3, kz_m2, kz_m1, kz_0, kz_1, kz_2, kz_3, kz_4, kz_5, kz_6, kz_7, kz_8, kz_9, kz_10, kz_11, kz_20, kz_60] <;> omega), trivial⟩, hS.F ht⟩) hS.2.2 dX12_stands_103
set_option maxHeartbeats 4000000 in
set_option maxRecDepth 100000 in
theorem c_X12_count (l : Launch) (dC : Nat → ClassId) (dI : Nat → Nat → Nat) (cI cZ cB cJ cM : ClassId) (h0 : Nat) (u : Nat → Nat) (p0 : Int32) (sz : Nat) : Met l yX12_count (kw yX12_count cX12_count 4 (some .int)) ({ frames := 0, cells := 0, slots := 0, locals := 0 }) (va_Pc [.ref h0, .int p0] (kPre dC dI [(cI, .int), (cZ, .boolean), (cB, .byte), (cJ, .long), (cM, .object RX2)] [(h0, .inr (12, [.int 0, .ref (u 1), .ref (u 2), .ref (u 3), .ref (u 4), .int 0, .ref (u 6), .int 0, .int 0, .int 0, .int 0, .int 0, .int 0, .int (-1), .ref (u 14), .ref (u 15), .ref (u 16), .ref (u 17), .ref (u 18), .ref (u 19), .ref (u 20), .int 0, .ref (u 22), .int 0, .ref (u 24), .ref (u 25), .int 0, .ref (u 27), .ref (u 28), .ref (u 29), .ref (u 30), .int 0, .int 0, .int 0, .int 0, .int 0, .ref (u 36), .long 0, .ref (u 38), .ref (u 39), .ref (u 40), .ref (u 41)])), (u 1, .inl (cI, 544, .inl (upd (upd (upd (fun _ => 0) 8 1) 9 1) 17 (-1)))), (u 38, .inl (cI, 4, .inl (upd (upd (upd (upd (fun _ => 0) 0 (-1)) 1 (-1)) 2 (-1)) 3 (-1))))] sz)) (va_Qi (fun (r : Int32) (_ : Unit) => Sp_count p0 r) (fun _ _ => True) (va_A [(h0, .inr (12, [.int 0, .ref (u 1), .ref (u 2), .ref (u 3), .ref (u 4), .int 0, .ref (u 6), .int 0, .int 0, .int 0, .int 0, .int 0, .int 0, .int (-1), .ref (u 14), .ref (u 15), .ref (u 16), .ref (u 17), .ref (u 18), .ref (u 19), .ref (u 20), .int 0, .ref (u 22), .int 0, .ref (u 24), .ref (u 25), .int 0, .ref (u 27), .ref (u 28), .ref (u 29), .ref (u 30), .int 0, .int 0, .int 0, .int 0, .int 0, .ref (u 36), .long 0, .ref (u 38), .ref (u 39), .ref (u 40), .ref (u 41)])), (u 1, .inl (cI, 544, .inl (upd (upd (upd (fun _ => 0) 8 1) 9 1) 17 (-1)))), (u 38, .inl (cI, 4, .inl (upd (upd (upd (upd (fun _ => 0) 0 (-1)) 1 (-1)) 2 (-1)) 3 (-1))))] sz)) 0 0 (va_A [(h0, .inr (12, [.int 0, .ref (u 1), .ref (u 2), .ref (u 3), .ref (u 4), .int 0, .ref (u 6), .int 0, .int 0, .int 0, .int 0, .int 0, .int 0, .int (-1), .ref (u 14), .ref (u 15), .ref (u 16), .ref (u 17), .ref (u 18), .ref (u 19), .ref (u 20), .int 0, .ref (u 22), .int 0, .ref (u 24), .ref (u 25), .int 0, .ref (u 27), .ref (u 28), .ref (u 29), .ref (u 30), .int 0, .int 0, .int 0, .int 0, .int 0, .ref (u 36), .long 0, .ref (u 38), .ref (u 39), .ref (u 40), .ref (u 41)])), (u 1, .inl (cI, 544, .inl (upd (upd (upd (fun _ => 0) 8 1) 9 1) 17 (-1)))), (u 38, .inl (cI, 4, .inl (upd (upd (upd (upd (fun _ => 0) 0 (-1)) 1 (-1)) 2 (-1)) 3 (-1))))] sz) := by
  refine kEnter (by decide) (Nat.le_of_ble_eq_true rfl) ?_
  intro p e s m below meth c ls hx hb hr hml hown hlocks hin hwd hsz hP hK hD hl
  subst hsz
  generalize hAe : va_A [(h0, .inr (12, [.int 0, .ref (u 1), .ref (u 2), .ref (u 3), .ref (u 4), .int 0, .ref (u 6), .int 0, .int 0, .int 0, .int 0, .int 0, .int 0, .int (-1), .ref (u 14), .ref (u 15), .ref (u 16), .ref (u 17), .ref (u 18), .ref (u 19), .ref (u 20), .int 0, .ref (u 22), .int 0, .ref (u 24), .ref (u 25), .int 0, .ref (u 27), .ref (u 28), .ref (u 29), .ref (u 30), .int 0, .int 0, .int 0, .int 0, .int 0, .ref (u 36), .long 0, .ref (u 38), .ref (u 39), .ref (u 40), .ref (u 41)])), (u 1, .inl (cI, 544, .inl (upd (upd (upd (fun _ => 0) 8 1) 9 1) 17 (-1)))), (u 38, .inl (cI, 4, .inl (upd (upd (upd (upd (fun _ => 0) 0 (-1)) 1 (-1)) 2 (-1)) 3 (-1))))] s.heap.size = A at hD ⊢
  have hA : ∀ q : Nat, s.heap.size ≤ q → A q := fun q h => by rw [← hAe]; exact Or.inr h
  have hS : va_S A s.heap s.heap [] := va_S.rf
  have hl : lv_has ls 4 [(0, .ref h0), (1, .int p0)] := hl
  refine lv_iconst (v := 0) hx hb dX12_count_0 (by decide) ?_
  refine lv_istore_n (lv' := [(2, .int 0), (0, .ref h0), (1, .int p0)]) hx hb dX12_count_1 rfl hl (by decide) rfl (fun ls hl => ?_)
  refine lv_iload_n hx hb dX12_count_2 rfl (lv_at hl 2 rfl) ?_
  by_cases c1 : p0.toInt < 0 ∨ 11 < p0.toInt
  · refine lv_tableOut (tgt := 200) hx hb dX12_count_3 c1 (by decide) ?_
    refine lv_iconst (v := (-1)) hx hb dX12_count_200 (by decide) ?_
    exact W.iret (v := (-1)) hx hb hr (fun t ht hW => ⟨⟨(-1), (), rfl, (by simp only [Sp_count, and_true, true_and, or_true, true_or, and_false, false_and, or_false, false_or, not_true_eq_false, not_false_eq_true, ne_eq, ki_lt, ki_le, ki_eq, kz_m8, kz_m7, kz_m6, kz_m4, kz_m3, kz_m2, kz_m1, kz_0, kz_1, kz_2, kz_3, kz_4, kz_5, kz_6, kz_7, kz_8, kz_9, kz_10, kz_11, kz_20, kz_60] at c1 ⊢ <;> omega), trivial⟩, hS.F ht⟩) hS.2.2 dX12_count_201
  · have c0 : p0 = 0 ∨ p0 = 1 ∨ p0 = 2 ∨ p0 = 3 ∨ p0 = 4 ∨ p0 = 5 ∨ p0 = 6 ∨ p0 = 7 ∨ p0 = 8 ∨ p0 = 9 ∨ p0 = 10 ∨ p0 = 11 := sw_11 (fun h => c1 (Or.inl h)) (fun h => c1 (Or.inr h))
    rcases c0 with rfl | rfl | rfl | rfl | rfl | rfl | rfl | rfl | rfl | rfl | rfl | rfl
    · refine lv_tableIn (off := 61) (tgt := 64) hx hb dX12_count_3 (by decide) (by decide) (by decide) (by decide) ?_
      refine lv_aload_n hx hb dX12_count_64 rfl (lv_at hl 1 rfl) ?_
      refine va_get (D := (dC, dI)) (ci := 12) (v := .ref (u 1)) (C := RX12) (T := TX12) (N := 42) hx hb hwd inlX12 hown hK hP 0 rfl rfl 1 (by decide) (hwd _ kr7_3) (fun _ h9 => h9) rfl dX12_count_65 ?_
      refine lv_iconst (v := 1) hx hb dX12_count_68 (by decide) ?_
      refine va_iald hx hb hK hP 1 0 rfl rfl (vin (by decide)) dX12_count_69 ?_
      refine lv_topi (nm_r (e' := (0)) (by decide +kernel) ?_)
      exact W.iret (v := 0) hx hb hr (fun t ht hW => ⟨⟨0, (), rfl, (by simp only [Sp_count, and_true, true_and, or_true, true_or, and_false, false_and, or_false, false_or, not_true_eq_false, not_false_eq_true, ne_eq, ki_lt, ki_le, ki_eq, kz_m8, kz_m7, kz_m6, kz_m4, kz_m3, kz_m2, kz_m1, kz_0, kz_1, kz_2, kz_3, kz_4, kz_5, kz_6, kz_7, kz_8, kz_9, kz_10, kz_11, kz_20, kz_60] <;> omega), trivial⟩, hS.F ht⟩) hS.2.2 dX12_count_70
    · refine lv_tableIn (off := 68) (tgt := 71) hx hb dX12_count_3 (by decide) (by decide) (by decide) (by decide) ?_
      refine lv_aload_n hx hb dX12_count_71 rfl (lv_at hl 1 rfl) ?_
      refine va_get (D := (dC, dI)) (ci := 12) (v := .ref (u 1)) (C := RX12) (T := TX12) (N := 42) hx hb hwd inlX12 hown hK hP 0 rfl rfl 1 (by decide) (hwd _ kr7_3) (fun _ h9 => h9) rfl dX12_count_72 ?_
      refine lv_iconst (v := 4) hx hb dX12_count_75 (by decide) ?_
      refine va_iald hx hb hK hP 1 0 rfl rfl (vin (by decide)) dX12_count_76 ?_
      refine lv_topi (nm_r (e' := (0)) (by decide +kernel) ?_)
      exact W.iret (v := 0) hx hb hr (fun t ht hW => ⟨⟨0, (), rfl, (by simp only [Sp_count, and_true, true_and, or_true, true_or, and_false, false_and, or_false, false_or, not_true_eq_false, not_false_eq_true, ne_eq, ki_lt, ki_le, ki_eq, kz_m8, kz_m7, kz_m6, kz_m4, kz_m3, kz_m2, kz_m1, kz_0, kz_1, kz_2, kz_3, kz_4, kz_5, kz_6, kz_7, kz_8, kz_9, kz_10, kz_11, kz_20, kz_60] <;> omega), trivial⟩, hS.F ht⟩) hS.2.2 dX12_count_77
    · refine lv_tableIn (off := 75) (tgt := 78) hx hb dX12_count_3 (by decide) (by decide) (by decide) (by decide) ?_
      refine lv_aload_n hx hb dX12_count_78 rfl (lv_at hl 1 rfl) ?_
      refine va_get (D := (dC, dI)) (ci := 12) (v := .ref (u 1)) (C := RX12) (T := TX12) (N := 42) hx hb hwd inlX12 hown hK hP 0 rfl rfl 1 (by decide) (hwd _ kr7_3) (fun _ h9 => h9) rfl dX12_count_79 ?_
      refine lv_iconst (v := 5) hx hb dX12_count_82 (by decide) ?_
      refine va_iald hx hb hK hP 1 0 rfl rfl (vin (by decide)) dX12_count_83 ?_
      refine lv_topi (nm_r (e' := (0)) (by decide +kernel) ?_)
      exact W.iret (v := 0) hx hb hr (fun t ht hW => ⟨⟨0, (), rfl, (by simp only [Sp_count, and_true, true_and, or_true, true_or, and_false, false_and, or_false, false_or, not_true_eq_false, not_false_eq_true, ne_eq, ki_lt, ki_le, ki_eq, kz_m8, kz_m7, kz_m6, kz_m4, kz_m3, kz_m2, kz_m1, kz_0, kz_1, kz_2, kz_3, kz_4, kz_5, kz_6, kz_7, kz_8, kz_9, kz_10, kz_11, kz_20, kz_60] <;> omega), trivial⟩, hS.F ht⟩) hS.2.2 dX12_count_84
    · refine lv_tableIn (off := 82) (tgt := 85) hx hb dX12_count_3 (by decide) (by decide) (by decide) (by decide) ?_
      refine lv_aload_n hx hb dX12_count_85 rfl (lv_at hl 1 rfl) ?_
      refine va_get (D := (dC, dI)) (ci := 12) (v := .ref (u 1)) (C := RX12) (T := TX12) (N := 42) hx hb hwd inlX12 hown hK hP 0 rfl rfl 1 (by decide) (hwd _ kr7_3) (fun _ h9 => h9) rfl dX12_count_86 ?_
      refine lv_bipush (v := 6) hx hb dX12_count_89 (by decide) ?_
      refine va_iald hx hb hK hP 1 0 rfl rfl (vin (by decide)) dX12_count_91 ?_
      refine lv_topi (nm_r (e' := (0)) (by decide +kernel) ?_)
      exact W.iret (v := 0) hx hb hr (fun t ht hW => ⟨⟨0, (), rfl, (by simp only [Sp_count, and_true, true_and, or_true, true_or, and_false, false_and, or_false, false_or, not_true_eq_false, not_false_eq_true, ne_eq, ki_lt, ki_le, ki_eq, kz_m8, kz_m7, kz_m6, kz_m4, kz_m3, kz_m2, kz_m1, kz_0, kz_1, kz_2, kz_3, kz_4, kz_5, kz_6, kz_7, kz_8, kz_9, kz_10, kz_11, kz_20, kz_60] <;> omega), trivial⟩, hS.F ht⟩) hS.2.2 dX12_count_92
    · refine lv_tableIn (off := 90) (tgt := 93) hx hb dX12_count_3 (by decide) (by decide) (by decide) (by decide) ?_
      refine lv_aload_n hx hb dX12_count_93 rfl (lv_at hl 1 rfl) ?_
      refine va_get (D := (dC, dI)) (ci := 12) (v := .ref (u 1)) (C := RX12) (T := TX12) (N := 42) hx hb hwd inlX12 hown hK hP 0 rfl rfl 1 (by decide) (hwd _ kr7_3) (fun _ h9 => h9) rfl dX12_count_94 ?_
      refine lv_bipush (v := 7) hx hb dX12_count_97 (by decide) ?_
      refine va_iald hx hb hK hP 1 0 rfl rfl (vin (by decide)) dX12_count_99 ?_
      refine lv_topi (nm_r (e' := (0)) (by decide +kernel) ?_)
      exact W.iret (v := 0) hx hb hr (fun t ht hW => ⟨⟨0, (), rfl, (by simp only [Sp_count, and_true, true_and, or_true, true_or, and_false, false_and, or_false, false_or, not_true_eq_false, not_false_eq_true, ne_eq, ki_lt, ki_le, ki_eq, kz_m8, kz_m7, kz_m6, kz_m4, kz_m3, kz_m2, kz_m1, kz_0, kz_1, kz_2, kz_3, kz_4, kz_5, kz_6, kz_7, kz_8, kz_9, kz_10, kz_11, kz_20, kz_60] <;> omega), trivial⟩, hS.F ht⟩) hS.2.2 dX12_count_100
    · refine lv_tableIn (off := 98) (tgt := 101) hx hb dX12_count_3 (by decide) (by decide) (by decide) (by decide) ?_
      refine lv_aload_n hx hb dX12_count_101 rfl (lv_at hl 1 rfl) ?_
      refine va_get (D := (dC, dI)) (ci := 12) (v := .ref (u 1)) (C := RX12) (T := TX12) (N := 42) hx hb hwd inlX12 hown hK hP 0 rfl rfl 1 (by decide) (hwd _ kr7_3) (fun _ h9 => h9) rfl dX12_count_102 ?_
      refine lv_iconst (v := 0) hx hb dX12_count_105 (by decide) ?_
      refine va_iald hx hb hK hP 1 0 rfl rfl (vin (by decide)) dX12_count_106 ?_
      refine lv_topi (nm_r (e' := (0)) (by decide +kernel) ?_)
      exact W.iret (v := 0) hx hb hr (fun t ht hW => ⟨⟨0, (), rfl, (by simp only [Sp_count, and_true, true_and, or_true, true_or, and_false, false_and, or_false, false_or, not_true_eq_false, not_false_eq_true, ne_eq, ki_lt, ki_le, ki_eq, kz_m8, kz_m7, kz_m6, kz_m4, kz_m3, kz_m2, kz_m1, kz_0, kz_1, kz_2, kz_3, kz_4, kz_5, kz_6, kz_7, kz_8, kz_9, kz_10, kz_11, kz_20, kz_60] <;> omega), trivial⟩, hS.F ht⟩) hS.2.2 dX12_count_107
    · refine lv_tableIn (off := 105) (tgt := 108) hx hb dX12_count_3 (by decide) (by decide) (by decide) (by decide) ?_
      refine lv_aload_n hx hb dX12_count_108 rfl (lv_at hl 1 rfl) ?_
      refine va_get (D := (dC, dI)) (ci := 12) (v := .int 0) (C := RX12) (T := TX12) (N := 42) hx hb hwd inlX12 hown hK hP 0 rfl rfl 5 (by decide) (hwd _ kr9_1) (fun _ h9 => h9) rfl dX12_count_109 ?_
      exact W.iret (v := 0) hx hb hr (fun t ht hW => ⟨⟨0, (), rfl, (by simp only [Sp_count, and_true, true_and, or_true, true_or, and_false, false_and, or_false, false_or, not_true_eq_false, not_false_eq_true, ne_eq, ki_lt, ki_le, ki_eq, kz_m8, kz_m7, kz_m6, kz_m4, kz_m3, kz_m2, kz_m1, kz_0, kz_1, kz_2, kz_3, kz_4, kz_5, kz_6, kz_7, kz_8, kz_9, kz_10, kz_11, kz_20, kz_60] <;> omega), trivial⟩, hS.F ht⟩) hS.2.2 dX12_count_112
    · refine lv_tableIn (off := 110) (tgt := 113) hx hb dX12_count_3 (by decide) (by decide) (by decide) (by decide) ?_
      refine lv_aload_n hx hb dX12_count_113 rfl (lv_at hl 1 rfl) ?_
      refine va_get (D := (dC, dI)) (ci := 12) (v := .ref (u 1)) (C := RX12) (T := TX12) (N := 42) hx hb hwd inlX12 hown hK hP 0 rfl rfl 1 (by decide) (hwd _ kr7_3) (fun _ h9 => h9) rfl dX12_count_114 ?_
      refine lv_iconst (v := 2) hx hb dX12_count_117 (by decide) ?_
      refine va_iald hx hb hK hP 1 0 rfl rfl (vin (by decide)) dX12_count_118 ?_
      refine lv_topi (nm_r (e' := (0)) (by decide +kernel) ?_)
      exact W.iret (v := 0) hx hb hr (fun t ht hW => ⟨⟨0, (), rfl, (by simp only [Sp_count, and_true, true_and, or_true, true_or, and_false, false_and, or_false, false_or, not_true_eq_false, not_false_eq_true, ne_eq, ki_lt, ki_le, ki_eq, kz_m8, kz_m7, kz_m6, kz_m4, kz_m3, kz_m2, kz_m1, kz_0, kz_1, kz_2, kz_3, kz_4, kz_5, kz_6, kz_7, kz_8, kz_9, kz_10, kz_11, kz_20, kz_60] <;> omega), trivial⟩, hS.F ht⟩) hS.2.2 dX12_count_119
    · refine lv_tableIn (off := 117) (tgt := 120) hx hb dX12_count_3 (by decide) (by decide) (by decide) (by decide) ?_
      refine lv_aload_n hx hb dX12_count_120 rfl (lv_at hl 1 rfl) ?_
      refine va_get (D := (dC, dI)) (ci := 12) (v := .ref (u 1)) (C := RX12) (T := TX12) (N := 42) hx hb hwd inlX12 hown hK hP 0 rfl rfl 1 (by decide) (hwd _ kr7_3) (fun _ h9 => h9) rfl dX12_count_121 ?_
      refine lv_iconst (v := 3) hx hb dX12_count_124 (by decide) ?_
      refine va_iald hx hb hK hP 1 0 rfl rfl (vin (by decide)) dX12_count_125 ?_
      refine lv_topi (nm_r (e' := (0)) (by decide +kernel) ?_)
      exact W.iret (v := 0) hx hb hr (fun t ht hW => ⟨⟨0, (), rfl, (by simp only [Sp_count, and_true, true_and, or_true, true_or, and_false, false_and, or_false, false_or, not_true_eq_false, not_false_eq_true, ne_eq, ki_lt, ki_le, ki_eq, kz_m8, kz_m7, kz_m6, kz_m4, kz_m3, kz_m2, kz_m1, kz_0, kz_1, kz_2, kz_3, kz_4, kz_5, kz_6, kz_7, kz_8, kz_9, kz_10, kz_11, kz_20, kz_60] <;> omega), trivial⟩, hS.F ht⟩) hS.2.2 dX12_count_126
    · refine lv_tableIn (off := 124) (tgt := 127) hx hb dX12_count_3 (by decide) (by decide) (by decide) (by decide) ?_
      refine lv_aload_n hx hb dX12_count_127 rfl (lv_at hl 1 rfl) ?_
      refine va_get (D := (dC, dI)) (ci := 12) (v := .ref (u 1)) (C := RX12) (T := TX12) (N := 42) hx hb hwd inlX12 hown hK hP 0 rfl rfl 1 (by decide) (hwd _ kr7_3) (fun _ h9 => h9) rfl dX12_count_128 ?_
      refine lv_bipush (v := 19) hx hb dX12_count_131 (by decide) ?_
      refine va_iald hx hb hK hP 1 0 rfl rfl (vin (by decide)) dX12_count_133 ?_
      refine lv_topi (nm_r (e' := (0)) (by decide +kernel) ?_)
      exact W.iret (v := 0) hx hb hr (fun t ht hW => ⟨⟨0, (), rfl, (by simp only [Sp_count, and_true, true_and, or_true, true_or, and_false, false_and, or_false, false_or, not_true_eq_false, not_false_eq_true, ne_eq, ki_lt, ki_le, ki_eq, kz_m8, kz_m7, kz_m6, kz_m4, kz_m3, kz_m2, kz_m1, kz_0, kz_1, kz_2, kz_3, kz_4, kz_5, kz_6, kz_7, kz_8, kz_9, kz_10, kz_11, kz_20, kz_60] <;> omega), trivial⟩, hS.F ht⟩) hS.2.2 dX12_count_134
    · refine lv_tableIn (off := 132) (tgt := 135) hx hb dX12_count_3 (by decide) (by decide) (by decide) (by decide) ?_
      refine lv_iconst (v := 0) hx hb dX12_count_135 (by decide) ?_
      refine lv_istore_n (lv' := [(3, .int 0), (2, .int 0), (0, .ref h0), (1, .int 10)]) hx hb dX12_count_136 rfl hl (by decide) rfl (fun ls hl => ?_)
      refine lv_iload_n hx hb dX12_count_137 rfl (lv_at hl 0 rfl) ?_
      refine lv_aload_n hx hb dX12_count_138 rfl (lv_at hl 2 rfl) ?_
      refine va_get (D := (dC, dI)) (ci := 12) (v := .ref (u 1)) (C := RX12) (T := TX12) (N := 42) hx hb hwd inlX12 hown hK hP 0 rfl rfl 1 (by decide) (hwd _ kr7_3) (fun _ h9 => h9) rfl dX12_count_139 ?_
      refine lv_iconst (v := 5) hx hb dX12_count_142 (by decide) ?_
      refine va_iald hx hb hK hP 1 0 rfl rfl (vin (by decide)) dX12_count_143 ?_
      refine lv_topi (nm_r (e' := (0)) (by decide +kernel) ?_)
      refine lv_icmp_ge (tgt := 165) hx hb dX12_count_144 (by decide) (fun c2 => ?_) (fun c2 => absurd c2 (by decide))
      refine lv_iload_n hx hb dX12_count_165 rfl (lv_at hl 1 rfl) ?_
      exact W.iret (v := 0) hx hb hr (fun t ht hW => ⟨⟨0, (), rfl, (by simp only [Sp_count, and_true, true_and, or_true, true_or, and_false, false_and, or_false, false_or, not_true_eq_false, not_false_eq_true, ne_eq, ki_lt, ki_le, ki_eq, kz_m8, kz_m7, kz_m6, kz_m4, kz_m3, kz_m2, kz_m1, kz_0, kz_1, kz_2, kz_3, kz_4, kz_5, kz_6, kz_7, kz_8, kz_9, kz_10, kz_11, kz_20, kz_60] <;> omega), trivial⟩, hS.F ht⟩) hS.2.2 dX12_count_166
    · refine lv_tableIn (off := 164) (tgt := 167) hx hb dX12_count_3 (by decide) (by decide) (by decide) (by decide) ?_
      refine lv_iconst (v := 0) hx hb dX12_count_167 (by decide) ?_
      refine lv_istore_n (lv' := [(3, .int 0), (2, .int 0), (0, .ref h0), (1, .int 11)]) hx hb dX12_count_168 rfl hl (by decide) rfl (fun ls hl => ?_)
      refine lv_iload_n hx hb dX12_count_169 rfl (lv_at hl 0 rfl) ?_
      refine lv_iconst (v := 4) hx hb dX12_count_170 (by decide) ?_
      refine lv_icmp_ge (tgt := 198) hx hb dX12_count_171 (by decide) (fun c3 => absurd c3 (by decide)) (fun c3 => ?_)
      refine lv_iload_n hx hb dX12_count_174 rfl (lv_at hl 1 rfl) ?_
      refine lv_aload_n hx hb dX12_count_175 rfl (lv_at hl 2 rfl) ?_
      refine va_get (D := (dC, dI)) (ci := 12) (v := .ref (u 38)) (C := RX12) (T := TX12) (N := 42) hx hb hwd inlX12 hown hK hP 0 rfl rfl 38 (by decide) (hwd _ kr8_0) (fun _ h9 => h9) rfl dX12_count_176 ?_
      refine lv_iload_n hx hb dX12_count_179 rfl (lv_at hl 0 rfl) ?_
      refine va_iald hx hb hK hP 2 0 rfl rfl (vin (by decide)) dX12_count_180 ?_
      refine lv_topi (nm_r (e' := ((-1))) (by decide +kernel) ?_)
      refine lv_iconst (v := (-1)) hx hb dX12_count_181 (by decide) ?_
      refine lv_icmp_ne (tgt := 189) hx hb dX12_count_182 (by decide) (fun c4 => absurd c4 (by decide)) (fun c4 => ?_)
      refine lv_iconst (v := 0) hx hb dX12_count_185 (by decide) ?_
      refine lv_goto (tgt := 190) hx hb dX12_count_186 (by decide) ?_
      refine lv_iadd hx hb dX12_count_190 ?_
      refine lv_topi (nm_r (e' := (0)) (by decide +kernel) ?_)
      refine lv_istore_n (lv' := [(2, .int 0), (3, .int 0), (0, .ref h0), (1, .int 11)]) hx hb dX12_count_191 rfl hl (by decide) rfl (fun ls hl => ?_)
      refine lv_iinc (v := 1) (lv' := [(3, .int 1), (2, .int 0), (0, .ref h0), (1, .int 11)]) hx hb dX12_count_192 hl (k := 1) rfl (by decide) (by decide) rfl (fun ls hl => ?_)
      refine lv_goto (tgt := 169) hx hb dX12_count_195 (by decide) ?_
      refine lv_iload_n hx hb dX12_count_169 rfl (lv_at hl 0 rfl) ?_
      refine lv_iconst (v := 4) hx hb dX12_count_170 (by decide) ?_
      refine lv_icmp_ge (tgt := 198) hx hb dX12_count_171 (by decide) (fun c5 => absurd c5 (by decide)) (fun c5 => ?_)
      refine lv_iload_n hx hb dX12_count_174 rfl (lv_at hl 1 rfl) ?_
      refine lv_aload_n hx hb dX12_count_175 rfl (lv_at hl 2 rfl) ?_
      refine va_get (D := (dC, dI)) (ci := 12) (v := .ref (u 38)) (C := RX12) (T := TX12) (N := 42) hx hb hwd inlX12 hown hK hP 0 rfl rfl 38 (by decide) (hwd _ kr8_0) (fun _ h9 => h9) rfl dX12_count_176 ?_
      refine lv_iload_n hx hb dX12_count_179 rfl (lv_at hl 0 rfl) ?_
      refine va_iald hx hb hK hP 2 0 rfl rfl (vin (by decide)) dX12_count_180 ?_
      refine lv_topi (nm_r (e' := ((-1))) (by decide +kernel) ?_)
      refine lv_iconst (v := (-1)) hx hb dX12_count_181 (by decide) ?_
      refine lv_icmp_ne (tgt := 189) hx hb dX12_count_182 (by decide) (fun c6 => absurd c6 (by decide)) (fun c6 => ?_)
      refine lv_iconst (v := 0) hx hb dX12_count_185 (by decide) ?_
      refine lv_goto (tgt := 190) hx hb dX12_count_186 (by decide) ?_
      refine lv_iadd hx hb dX12_count_190 ?_
      refine lv_topi (nm_r (e' := (0)) (by decide +kernel) ?_)
      refine lv_istore_n (lv' := [(2, .int 0), (3, .int 1), (0, .ref h0), (1, .int 11)]) hx hb dX12_count_191 rfl hl (by decide) rfl (fun ls hl => ?_)
      refine lv_iinc (v := 2) (lv' := [(3, .int 2), (2, .int 0), (0, .ref h0), (1, .int 11)]) hx hb dX12_count_192 hl (k := 1) rfl (by decide) (by decide) rfl (fun ls hl => ?_)
      refine lv_goto (tgt := 169) hx hb dX12_count_195 (by decide) ?_
      refine lv_iload_n hx hb dX12_count_169 rfl (lv_at hl 0 rfl) ?_
      refine lv_iconst (v := 4) hx hb dX12_count_170 (by decide) ?_
      refine lv_icmp_ge (tgt := 198) hx hb dX12_count_171 (by decide) (fun c7 => absurd c7 (by decide)) (fun c7 => ?_)
      refine lv_iload_n hx hb dX12_count_174 rfl (lv_at hl 1 rfl) ?_
      refine lv_aload_n hx hb dX12_count_175 rfl (lv_at hl 2 rfl) ?_
      refine va_get (D := (dC, dI)) (ci := 12) (v := .ref (u 38)) (C := RX12) (T := TX12) (N := 42) hx hb hwd inlX12 hown hK hP 0 rfl rfl 38 (by decide) (hwd _ kr8_0) (fun _ h9 => h9) rfl dX12_count_176 ?_
      refine lv_iload_n hx hb dX12_count_179 rfl (lv_at hl 0 rfl) ?_
      refine va_iald hx hb hK hP 2 0 rfl rfl (vin (by decide)) dX12_count_180 ?_
      refine lv_topi (nm_r (e' := ((-1))) (by decide +kernel) ?_)
      refine lv_iconst (v := (-1)) hx hb dX12_count_181 (by decide) ?_
      refine lv_icmp_ne (tgt := 189) hx hb dX12_count_182 (by decide) (fun c8 => absurd c8 (by decide)) (fun c8 => ?_)
      refine lv_iconst (v := 0) hx hb dX12_count_185 (by decide) ?_
      refine lv_goto (tgt := 190) hx hb dX12_count_186 (by decide) ?_
      refine lv_iadd hx hb dX12_count_190 ?_
      refine lv_topi (nm_r (e' := (0)) (by decide +kernel) ?_)
      refine lv_istore_n (lv' := [(2, .int 0), (3, .int 2), (0, .ref h0), (1, .int 11)]) hx hb dX12_count_191 rfl hl (by decide) rfl (fun ls hl => ?_)
      refine lv_iinc (v := 3) (lv' := [(3, .int 3), (2, .int 0), (0, .ref h0), (1, .int 11)]) hx hb dX12_count_192 hl (k := 1) rfl (by decide) (by decide) rfl (fun ls hl => ?_)
      refine lv_goto (tgt := 169) hx hb dX12_count_195 (by decide) ?_
      refine lv_iload_n hx hb dX12_count_169 rfl (lv_at hl 0 rfl) ?_
      refine lv_iconst (v := 4) hx hb dX12_count_170 (by decide) ?_
      refine lv_icmp_ge (tgt := 198) hx hb dX12_count_171 (by decide) (fun c9 => absurd c9 (by decide)) (fun c9 => ?_)
      refine lv_iload_n hx hb dX12_count_174 rfl (lv_at hl 1 rfl) ?_
      refine lv_aload_n hx hb dX12_count_175 rfl (lv_at hl 2 rfl) ?_
      refine va_get (D := (dC, dI)) (ci := 12) (v := .ref (u 38)) (C := RX12) (T := TX12) (N := 42) hx hb hwd inlX12 hown hK hP 0 rfl rfl 38 (by decide) (hwd _ kr8_0) (fun _ h9 => h9) rfl dX12_count_176 ?_
      refine lv_iload_n hx hb dX12_count_179 rfl (lv_at hl 0 rfl) ?_
      refine va_iald hx hb hK hP 2 0 rfl rfl (vin (by decide)) dX12_count_180 ?_
      refine lv_topi (nm_r (e' := ((-1))) (by decide +kernel) ?_)
      refine lv_iconst (v := (-1)) hx hb dX12_count_181 (by decide) ?_
      refine lv_icmp_ne (tgt := 189) hx hb dX12_count_182 (by decide) (fun c10 => absurd c10 (by decide)) (fun c10 => ?_)
      refine lv_iconst (v := 0) hx hb dX12_count_185 (by decide) ?_
      refine lv_goto (tgt := 190) hx hb dX12_count_186 (by decide) ?_
      refine lv_iadd hx hb dX12_count_190 ?_
      refine lv_topi (nm_r (e' := (0)) (by decide +kernel) ?_)
      refine lv_istore_n (lv' := [(2, .int 0), (3, .int 3), (0, .ref h0), (1, .int 11)]) hx hb dX12_count_191 rfl hl (by decide) rfl (fun ls hl => ?_)
      refine lv_iinc (v := 4) (lv' := [(3, .int 4), (2, .int 0), (0, .ref h0), (1, .int 11)]) hx hb dX12_count_192 hl (k := 1) rfl (by decide) (by decide) rfl (fun ls hl => ?_)
      refine lv_goto (tgt := 169) hx hb dX12_count_195 (by decide) ?_
      refine lv_iload_n hx hb dX12_count_169 rfl (lv_at hl 0 rfl) ?_
      refine lv_iconst (v := 4) hx hb dX12_count_170 (by decide) ?_
      refine lv_icmp_ge (tgt := 198) hx hb dX12_count_171 (by decide) (fun c11 => ?_) (fun c11 => absurd c11 (by decide))
      refine lv_iload_n hx hb dX12_count_198 rfl (lv_at hl 1 rfl) ?_
      exact W.iret (v := 0) hx hb hr (fun t ht hW => ⟨⟨0, (), rfl, (by simp only [Sp_count, and_true, true_and, or_true, true_or, and_false, false_and, or_false, false_or, not_true_eq_false, not_false_eq_true, ne_eq, ki_lt, ki_le, ki_eq, kz_m8, kz_m7, kz_m6, kz_m4, kz_m3, kz_m2, kz_m1, kz_0, kz_1, kz_2, kz_3, kz_4, kz_5, kz_6, kz_7, kz_8, kz_9, kz_10, kz_11, kz_20, kz_60] <;> omega), trivial⟩, hS.F ht⟩) hS.2.2 dX12_count_199
set_option maxHeartbeats 4000000 in
set_option maxRecDepth 100000 in
theorem c_X12_back (l : Launch) (dC : Nat → ClassId) (dI : Nat → Nat → Nat) (cI cZ cB cJ cM : ClassId) (h0 : Nat) (u : Nat → Nat) (p0 : Int32) (sz : Nat) : Met l yX12_back (kw yX12_back cX12_back 3 (some .int)) ({ frames := 1, cells := 0, slots := 0, locals := 25 }) (va_Pc [.ref h0, .int p0] (kPre dC dI [(cI, .int), (cZ, .boolean), (cB, .byte), (cJ, .long), (cM, .object RX2)] [(h0, .inr (12, [.int 0, .ref (u 1), .ref (u 2), .ref (u 3), .ref (u 4), .int 0, .ref (u 6), .int 0, .int 0, .int 0, .int 0, .int 0, .int 0, .int (-1), .ref (u 14), .ref (u 15), .ref (u 16), .ref (u 17), .ref (u 18), .ref (u 19), .ref (u 20), .int 0, .ref (u 22), .int 0, .ref (u 24), .ref (u 25), .int 0, .ref (u 27), .ref (u 28), .ref (u 29), .ref (u 30), .int 0, .int 0, .int 0, .int 0, .int 0, .ref (u 36), .long 0, .ref (u 38), .ref (u 39), .ref (u 40), .ref (u 41)])), (u 3, .inl (cZ, 3, .inl (fun _ => 0)))] sz)) (va_Qi (fun (r : Int32) (_ : Unit) => Sp_back p0 r) (fun _ _ => True) (va_A [(h0, .inr (12, [.int 0, .ref (u 1), .ref (u 2), .ref (u 3), .ref (u 4), .int 0, .ref (u 6), .int 0, .int 0, .int 0, .int 0, .int 0, .int 0, .int (-1), .ref (u 14), .ref (u 15), .ref (u 16), .ref (u 17), .ref (u 18), .ref (u 19), .ref (u 20), .int 0, .ref (u 22), .int 0, .ref (u 24), .ref (u 25), .int 0, .ref (u 27), .ref (u 28), .ref (u 29), .ref (u 30), .int 0, .int 0, .int 0, .int 0, .int 0, .ref (u 36), .long 0, .ref (u 38), .ref (u 39), .ref (u 40), .ref (u 41)])), (u 3, .inl (cZ, 3, .inl (fun _ => 0)))] sz)) 0 0 (va_A [(h0, .inr (12, [.int 0, .ref (u 1), .ref (u 2), .ref (u 3), .ref (u 4), .int 0, .ref (u 6), .int 0, .int 0, .int 0, .int 0, .int 0, .int 0, .int (-1), .ref (u 14), .ref (u 15), .ref (u 16), .ref (u 17), .ref (u 18), .ref (u 19), .ref (u 20), .int 0, .ref (u 22), .int 0, .ref (u 24), .ref (u 25), .int 0, .ref (u 27), .ref (u 28), .ref (u 29), .ref (u 30), .int 0, .int 0, .int 0, .int 0, .int 0, .ref (u 36), .long 0, .ref (u 38), .ref (u 39), .ref (u 40), .ref (u 41)])), (u 3, .inl (cZ, 3, .inl (fun _ => 0)))] sz) := by
  refine kEnter (by decide) (Nat.le_of_ble_eq_true rfl) ?_
  intro p e s m below meth c ls hx hb hr hml hown hlocks hin hwd hsz hP hK hD hl
  subst hsz
  generalize hAe : va_A [(h0, .inr (12, [.int 0, .ref (u 1), .ref (u 2), .ref (u 3), .ref (u 4), .int 0, .ref (u 6), .int 0, .int 0, .int 0, .int 0, .int 0, .int 0, .int (-1), .ref (u 14), .ref (u 15), .ref (u 16), .ref (u 17), .ref (u 18), .ref (u 19), .ref (u 20), .int 0, .ref (u 22), .int 0, .ref (u 24), .ref (u 25), .int 0, .ref (u 27), .ref (u 28), .ref (u 29), .ref (u 30), .int 0, .int 0, .int 0, .int 0, .int 0, .ref (u 36), .long 0, .ref (u 38), .ref (u 39), .ref (u 40), .ref (u 41)])), (u 3, .inl (cZ, 3, .inl (fun _ => 0)))] s.heap.size = A at hD ⊢
  have hA : ∀ q : Nat, s.heap.size ≤ q → A q := fun q h => by rw [← hAe]; exact Or.inr h
  have hS : va_S A s.heap s.heap [] := va_S.rf
  have hl : lv_has ls 3 [(0, .ref h0), (1, .int p0)] := hl
  refine lv_iload_n hx hb dX12_back_0 rfl (lv_at hl 1 rfl) ?_
  refine lv_i2l hx hb dX12_back_1 rfl ?_
  refine lv_lconst (v := 0) hx hb dX12_back_2 (by decide) ?_
  refine lv_ldc2 (v := 2) hx hb hown (hwd _ kr25_6) dX12_back_3 ?_
  have hPc := hP.sub (ws' := []) [] rfl
  have hDc := hD.sub (ws' := []) [] (by decide) rfl
  have hFc := va_free (wc := []) hD hS hA [] rfl
  refine va_calli (va_runS (As := [.long p0.toInt64, .long 0, .long 2]) (rest := []) ⟨hx, hb, hml, hown, hwd⟩ (c_X12_in l dC dI cI cZ cB cJ cM p0.toInt64 0 2 s.heap.size) (cwS 3 hwd (gS kr9_10 kr9_11 kr1_5 kr9_12) rfl rfl rfl (by decide +kernel) ⟨Nat.le_of_ble_eq_true rfl, Nat.le_of_ble_eq_true rfl⟩) (kPreS hPc hK hDc) rfl rfl hl.1 rfl (lv_room (Nat.le_of_ble_eq_true rfl)) dX12_back_6 ⟨Nat.le_of_ble_eq_true rfl, Nat.le_of_ble_eq_true rfl⟩) hS (fun q _ h => hFc q h) hFc (fun r1 u2 t H1 locs ht9 hvm hw hB hz1 hk1 hS => ?_)
  obtain ⟨hP1, hD1⟩ := hB
  rw [ht9] at hP1
  obtain ⟨hP, hD⟩ := va_join (wr := [(h0, .inr (12, [.int 0, .ref (u 1), .ref (u 2), .ref (u 3), .ref (u 4), .int 0, .ref (u 6), .int 0, .int 0, .int 0, .int 0, .int 0, .int 0, .int (-1), .ref (u 14), .ref (u 15), .ref (u 16), .ref (u 17), .ref (u 18), .ref (u 19), .ref (u 20), .int 0, .ref (u 22), .int 0, .ref (u 24), .ref (u 25), .int 0, .ref (u 27), .ref (u 28), .ref (u 29), .ref (u 30), .int 0, .int 0, .int 0, .int 0, .int 0, .ref (u 36), .long 0, .ref (u 38), .ref (u 39), .ref (u 40), .ref (u 41)])), (u 3, .inl (cZ, 3, .inl (fun _ => 0)))]) (w1 := []) hP hD [] [0, 1] rfl rfl (by decide) (by decide) hk1 hFc hP1 hD1
  generalize H1 = H at hP hS ⊢
  have hP : va_P (dC, dI) vwCl [(h0, .inr (12, [.int 0, .ref (u 1), .ref (u 2), .ref (u 3), .ref (u 4), .int 0, .ref (u 6), .int 0, .int 0, .int 0, .int 0, .int 0, .int 0, .int (-1), .ref (u 14), .ref (u 15), .ref (u 16), .ref (u 17), .ref (u 18), .ref (u 19), .ref (u 20), .int 0, .ref (u 22), .int 0, .ref (u 24), .ref (u 25), .int 0, .ref (u 27), .ref (u 28), .ref (u 29), .ref (u 30), .int 0, .int 0, .int 0, .int 0, .int 0, .ref (u 36), .long 0, .ref (u 38), .ref (u 39), .ref (u 40), .ref (u 41)])), (u 3, .inl (cZ, 3, .inl (fun _ => 0)))] H := hP
  have hD : va_D A [(h0, .inr (12, [.int 0, .ref (u 1), .ref (u 2), .ref (u 3), .ref (u 4), .int 0, .ref (u 6), .int 0, .int 0, .int 0, .int 0, .int 0, .int 0, .int (-1), .ref (u 14), .ref (u 15), .ref (u 16), .ref (u 17), .ref (u 18), .ref (u 19), .ref (u 20), .int 0, .ref (u 22), .int 0, .ref (u 24), .ref (u 25), .int 0, .ref (u 27), .ref (u 28), .ref (u 29), .ref (u 30), .int 0, .int 0, .int 0, .int 0, .int 0, .ref (u 36), .long 0, .ref (u 38), .ref (u 39), .ref (u 40), .ref (u 41)])), (u 3, .inl (cZ, 3, .inl (fun _ => 0)))] := hD
  rcases in_or (p := p0) (lo := 0) (hi := 2) 0 2 (by decide) (by decide) with ⟨e9, c3⟩ | ⟨e9, c3, c4⟩
  · rw [e9] at hw
    subst hw
    refine lv_if_ne (tgt := 15) hx hb dX12_back_9 (by decide) (fun c5 => absurd c5 (by decide)) (fun c5 => ?_)
    refine lv_bipush (v := (-2)) hx hb dX12_back_12 (by decide) ?_
    exact W.iret (v := (-2)) hx hb hr (fun t ht hW => ⟨⟨(-2), (), rfl, (by simp only [Sp_back, and_true, true_and, or_true, true_or, and_false, false_and, or_false, false_or, not_true_eq_false, not_false_eq_true, ne_eq, ki_lt, ki_le, ki_eq, kz_m8, kz_m7, kz_m6, kz_m4, kz_m3, kz_m2, kz_m1, kz_0, kz_1, kz_2, kz_3, kz_4, kz_5, kz_6, kz_7, kz_8, kz_9, kz_10, kz_11, kz_20, kz_60] at c3 ⊢ <;> omega), trivial⟩, hS.F ht⟩) hS.2.2 dX12_back_14
  · rw [e9] at hw
    subst hw
    refine lv_if_ne (tgt := 15) hx hb dX12_back_9 (by decide) (fun c6 => ?_) (fun c6 => absurd c6 (by decide))
    rcases k3le c3 c4 with rfl | rfl | rfl
    · refine lv_aload_n hx hb dX12_back_15 rfl (lv_at hl 0 rfl) ?_
      refine va_get (D := (dC, dI)) (ci := 12) (v := .ref (u 3)) (C := RX12) (T := TX12) (N := 42) hx hb hwd inlX12 hown hK hP 0 rfl rfl 3 (by decide) (hwd _ kr7_5) (fun _ h9 => h9) rfl dX12_back_16 ?_
      refine lv_iload_n hx hb dX12_back_19 rfl (lv_at hl 1 rfl) ?_
      refine va_zald hx hb hK hP 1 1 rfl rfl (vin (by decide)) dX12_back_20 ?_
      refine lv_topi (nm_r (e' := (0)) (by decide +kernel) ?_)
      refine lv_if_ne (tgt := 27) hx hb dX12_back_21 (by decide) (fun c7 => absurd c7 (by decide)) (fun c7 => ?_)
      refine lv_bipush (v := (-6)) hx hb dX12_back_24 (by decide) ?_
      exact W.iret (v := (-6)) hx hb hr (fun t ht hW => ⟨⟨(-6), (), rfl, (by simp only [Sp_back, and_true, true_and, or_true, true_or, and_false, false_and, or_false, false_or, not_true_eq_false, not_false_eq_true, ne_eq, ki_lt, ki_le, ki_eq, kz_m8, kz_m7, kz_m6, kz_m4, kz_m3, kz_m2, kz_m1, kz_0, kz_1, kz_2, kz_3, kz_4, kz_5, kz_6, kz_7, kz_8, kz_9, kz_10, kz_11, kz_20, kz_60] at c3 c4 ⊢ <;> omega), trivial⟩, hS.F ht⟩) hS.2.2 dX12_back_26
    · refine lv_aload_n hx hb dX12_back_15 rfl (lv_at hl 0 rfl) ?_
      refine va_get (D := (dC, dI)) (ci := 12) (v := .ref (u 3)) (C := RX12) (T := TX12) (N := 42) hx hb hwd inlX12 hown hK hP 0 rfl rfl 3 (by decide) (hwd _ kr7_5) (fun _ h9 => h9) rfl dX12_back_16 ?_
      refine lv_iload_n hx hb dX12_back_19 rfl (lv_at hl 1 rfl) ?_
      refine va_zald hx hb hK hP 1 1 rfl rfl (vin (by decide)) dX12_back_20 ?_
      refine lv_topi (nm_r (e' := (0)) (by decide +kernel) ?_)
      refine lv_if_ne (tgt := 27) hx hb dX12_back_21 (by decide) (fun c8 => absurd c8 (by decide)) (fun c8 => ?_)
      refine lv_bipush (v := (-6)) hx hb dX12_back_24 (by decide) ?_
      exact W.iret (v := (-6)) hx hb hr (fun t ht hW => ⟨⟨(-6), (), rfl, (by simp only [Sp_back, and_true, true_and, or_true, true_or, and_false, false_and, or_false, false_or, not_true_eq_false, not_false_eq_true, ne_eq, ki_lt, ki_le, ki_eq, kz_m8, kz_m7, kz_m6, kz_m4, kz_m3, kz_m2, kz_m1, kz_0, kz_1, kz_2, kz_3, kz_4, kz_5, kz_6, kz_7, kz_8, kz_9, kz_10, kz_11, kz_20, kz_60] at c3 c4 ⊢ <;> omega), trivial⟩, hS.F ht⟩) hS.2.2 dX12_back_26
    · refine lv_aload_n hx hb dX12_back_15 rfl (lv_at hl 0 rfl) ?_
      refine va_get (D := (dC, dI)) (ci := 12) (v := .ref (u 3)) (C := RX12) (T := TX12) (N := 42) hx hb hwd inlX12 hown hK hP 0 rfl rfl 3 (by decide) (hwd _ kr7_5) (fun _ h9 => h9) rfl dX12_back_16 ?_
      refine lv_iload_n hx hb dX12_back_19 rfl (lv_at hl 1 rfl) ?_
      refine va_zald hx hb hK hP 1 1 rfl rfl (vin (by decide)) dX12_back_20 ?_
      refine lv_topi (nm_r (e' := (0)) (by decide +kernel) ?_)
      refine lv_if_ne (tgt := 27) hx hb dX12_back_21 (by decide) (fun c9 => absurd c9 (by decide)) (fun c9 => ?_)
      refine lv_bipush (v := (-6)) hx hb dX12_back_24 (by decide) ?_
      exact W.iret (v := (-6)) hx hb hr (fun t ht hW => ⟨⟨(-6), (), rfl, (by simp only [Sp_back, and_true, true_and, or_true, true_or, and_false, false_and, or_false, false_or, not_true_eq_false, not_false_eq_true, ne_eq, ki_lt, ki_le, ki_eq, kz_m8, kz_m7, kz_m6, kz_m4, kz_m3, kz_m2, kz_m1, kz_0, kz_1, kz_2, kz_3, kz_4, kz_5, kz_6, kz_7, kz_8, kz_9, kz_10, kz_11, kz_20, kz_60] at c3 c4 ⊢ <;> omega), trivial⟩, hS.F ht⟩) hS.2.2 dX12_back_26
set_option maxHeartbeats 4000000 in
set_option maxRecDepth 100000 in
theorem lp_c_X12_keep_0 {p : Program} {l : Launch} {e : Env} {R : Room} {s : State} {m : MethodId} {args : Array Value} {below : List Frame} {meth : Method} {c : Code} {A : Nat → Prop} {cells slots : Nat} {Q : State → Prop} {dC : Nat → ClassId} {dI : Nat → Nat → Nat} {cI cZ cB cJ cM : ClassId} {h0 : Nat} {u : Nat → Nat}  (hx : p.tables.exec = Jvm.exec) (hb : c.code = cX12_keep) (hown : s.vm.findClass RX12 = some m.cls) (hwd : ∀ wd ∈ wsL_law, wd.before args s = true) (hK : va_K (dC, dI) vwCl [(cI, .int), (cZ, .boolean), (cB, .byte), (cJ, .long), (cM, .object RX2)] s) (kx : ∀ (H : Heap) (locs : List Loc) (ls : Array Slot) (g : Nat → Int32), va_P (dC, dI) vwCl [(h0, .inr (12, [.int 0, .ref (u 1), .ref (u 2), .ref (u 3), .ref (u 4), .int 0, .ref (u 6), .int 0, .int 0, .int 0, .int 0, .int 0, .int 0, .int (-1), .ref (u 14), .ref (u 15), .ref (u 16), .ref (u 17), .ref (u 18), .ref (u 19), .ref (u 20), .int 0, .ref (u 22), .int 0, .ref (u 24), .ref (u 25), .int 0, .ref (u 27), .ref (u 28), .ref (u 29), .ref (u 30), .int 0, .int 0, .int 0, .int 0, .int 0, .ref (u 36), .long 0, .ref (u 38), .ref (u 39), .ref (u 40), .ref (u 41)])), (u 1, .inl (cI, 544, .inl (upd (upd (upd (fun _ => 0) 8 1) 9 1) 17 (-1)))), (u 2, .inl (cI, 1632, .inl g)), (u 3, .inl (cZ, 3, .inl (fun _ => 0)))] H → va_D A [(h0, .inr (12, [.int 0, .ref (u 1), .ref (u 2), .ref (u 3), .ref (u 4), .int 0, .ref (u 6), .int 0, .int 0, .int 0, .int 0, .int 0, .int 0, .int (-1), .ref (u 14), .ref (u 15), .ref (u 16), .ref (u 17), .ref (u 18), .ref (u 19), .ref (u 20), .int 0, .ref (u 22), .int 0, .ref (u 24), .ref (u 25), .int 0, .ref (u 27), .ref (u 28), .ref (u 29), .ref (u 30), .int 0, .int 0, .int 0, .int 0, .int 0, .ref (u 36), .long 0, .ref (u 38), .ref (u 39), .ref (u 40), .ref (u 41)])), (u 1, .inl (cI, 544, .inl (upd (upd (upd (fun _ => 0) 8 1) 9 1) 17 (-1)))), (u 2, .inl (cI, 1632, .inl g)), (u 3, .inl (cZ, 3, .inl (fun _ => 0)))] → va_S A s.heap H locs → lv_has ls 3 [(0, .ref h0), (1, .int 0), (2, .int (nI 544))] → W p l e R s m args below meth c H locs cells slots Q (F0 m 48 ls [])) : ∀ (d i : Nat), i + d = 544 → ∀ (H : Heap) (locs : List Loc) (ls : Array Slot) (g : Nat → Int32), va_P (dC, dI) vwCl [(h0, .inr (12, [.int 0, .ref (u 1), .ref (u 2), .ref (u 3), .ref (u 4), .int 0, .ref (u 6), .int 0, .int 0, .int 0, .int 0, .int 0, .int 0, .int (-1), .ref (u 14), .ref (u 15), .ref (u 16), .ref (u 17), .ref (u 18), .ref (u 19), .ref (u 20), .int 0, .ref (u 22), .int 0, .ref (u 24), .ref (u 25), .int 0, .ref (u 27), .ref (u 28), .ref (u 29), .ref (u 30), .int 0, .int 0, .int 0, .int 0, .int 0, .ref (u 36), .long 0, .ref (u 38), .ref (u 39), .ref (u 40), .ref (u 41)])), (u 1, .inl (cI, 544, .inl (upd (upd (upd (fun _ => 0) 8 1) 9 1) 17 (-1)))), (u 2, .inl (cI, 1632, .inl g)), (u 3, .inl (cZ, 3, .inl (fun _ => 0)))] H → va_D A [(h0, .inr (12, [.int 0, .ref (u 1), .ref (u 2), .ref (u 3), .ref (u 4), .int 0, .ref (u 6), .int 0, .int 0, .int 0, .int 0, .int 0, .int 0, .int (-1), .ref (u 14), .ref (u 15), .ref (u 16), .ref (u 17), .ref (u 18), .ref (u 19), .ref (u 20), .int 0, .ref (u 22), .int 0, .ref (u 24), .ref (u 25), .int 0, .ref (u 27), .ref (u 28), .ref (u 29), .ref (u 30), .int 0, .int 0, .int 0, .int 0, .int 0, .ref (u 36), .long 0, .ref (u 38), .ref (u 39), .ref (u 40), .ref (u 41)])), (u 1, .inl (cI, 544, .inl (upd (upd (upd (fun _ => 0) 8 1) 9 1) 17 (-1)))), (u 2, .inl (cI, 1632, .inl g)), (u 3, .inl (cZ, 3, .inl (fun _ => 0)))] → va_S A s.heap H locs → lv_has ls 3 [(0, .ref h0), (1, .int 0), (2, .int (nI i))] → W p l e R s m args below meth c H locs cells slots Q (F0 m 17 ls []) := by
  intro d
  induction d with
  | zero =>
    intro i h1 H locs ls g hP hD hS hl
    obtain rfl : i = 544 := by omega
    refine lv_iload_n hx hb dX12_keep_17 rfl (lv_at hl 2 rfl) ?_
    refine lv_sipush (v := 544) hx hb dX12_keep_18 (by decide) ?_
    refine lv_icmp_ge (tgt := 48) hx hb dX12_keep_21 (by decide) (fun c1 => ?_) (fun c1 => absurd c1 (by decide))
    exact kx H locs ls g hP hD hS hl
  | succ d ih =>
    intro i h1 H locs ls g hP hD hS hl
    have hi : i < 544 := by omega
    refine lv_iload_n hx hb dX12_keep_17 rfl (lv_at hl 2 rfl) ?_
    refine lv_sipush (v := 544) hx hb dX12_keep_18 (by decide) ?_
    refine lv_icmp_ge (tgt := 48) hx hb dX12_keep_21 (by decide) (fun c1 => absurd c1 (show ¬ nI 544 ≤ nI i from nI_ge hi (by decide))) (fun c1 => ?_)
    refine lv_aload_n hx hb dX12_keep_24 rfl (lv_at hl 0 rfl) ?_
    refine va_get (D := (dC, dI)) (ci := 12) (v := .ref (u 2)) (C := RX12) (T := TX12) (N := 42) hx hb hwd inlX12 hown hK hP 0 rfl rfl 2 (by decide) (hwd _ kr7_4) (fun _ h9 => h9) rfl dX12_keep_25 ?_
    refine lv_sipush (v := 544) hx hb dX12_keep_28 (by decide) ?_
    refine lv_iload_n hx hb dX12_keep_31 rfl (lv_at hl 1 rfl) ?_
    refine lv_imul hx hb dX12_keep_32 ?_
    refine lv_topi (nm_r (e' := (0)) (by decide +kernel) ?_)
    refine lv_iload_n hx hb dX12_keep_33 rfl (lv_at hl 2 rfl) ?_
    refine lv_iadd hx hb dX12_keep_34 ?_
    refine lv_topi (fun x107 ex107 => ?_)
    refine lv_aload_n hx hb dX12_keep_35 rfl (lv_at hl 0 rfl) ?_
    refine va_get (D := (dC, dI)) (ci := 12) (v := .ref (u 1)) (C := RX12) (T := TX12) (N := 42) hx hb hwd inlX12 hown hK hP 0 rfl rfl 1 (by decide) (hwd _ kr7_3) (fun _ h9 => h9) rfl dX12_keep_36 ?_
    refine lv_iload_n hx hb dX12_keep_39 rfl (lv_at hl 2 rfl) ?_
    refine va_iald hx hb hK hP 1 0 rfl rfl (vp_in_nI hi (by decide)) dX12_keep_40 ?_
    refine lv_topi (fun x108 ex108 => ?_)
    refine va_iast hx hb hK hP hD hS 2 0 rfl rfl (by rw [ex107]; exact (show vp_in (nI 0 + nI i) 1632 from vp_base 0 i 1632 (by omega) (by decide))) dX12_keep_41 (fun H locs hP hD hS => ?_)
    obtain ⟨f109, ef109⟩ : ∃ f, f = upd g x107.toNatClampNeg x108 := ⟨_, rfl⟩
    have hP : va_P (dC, dI) vwCl [(h0, .inr (12, [.int 0, .ref (u 1), .ref (u 2), .ref (u 3), .ref (u 4), .int 0, .ref (u 6), .int 0, .int 0, .int 0, .int 0, .int 0, .int 0, .int (-1), .ref (u 14), .ref (u 15), .ref (u 16), .ref (u 17), .ref (u 18), .ref (u 19), .ref (u 20), .int 0, .ref (u 22), .int 0, .ref (u 24), .ref (u 25), .int 0, .ref (u 27), .ref (u 28), .ref (u 29), .ref (u 30), .int 0, .int 0, .int 0, .int 0, .int 0, .ref (u 36), .long 0, .ref (u 38), .ref (u 39), .ref (u 40), .ref (u 41)])), (u 1, .inl (cI, 544, .inl (upd (upd (upd (fun _ => 0) 8 1) 9 1) 17 (-1)))), (u 2, .inl (cI, 1632, .inl f109)), (u 3, .inl (cZ, 3, .inl (fun _ => 0)))] H := by rw [ef109]; exact hP
    have hD : va_D A [(h0, .inr (12, [.int 0, .ref (u 1), .ref (u 2), .ref (u 3), .ref (u 4), .int 0, .ref (u 6), .int 0, .int 0, .int 0, .int 0, .int 0, .int 0, .int (-1), .ref (u 14), .ref (u 15), .ref (u 16), .ref (u 17), .ref (u 18), .ref (u 19), .ref (u 20), .int 0, .ref (u 22), .int 0, .ref (u 24), .ref (u 25), .int 0, .ref (u 27), .ref (u 28), .ref (u 29), .ref (u 30), .int 0, .int 0, .int 0, .int 0, .int 0, .ref (u 36), .long 0, .ref (u 38), .ref (u 39), .ref (u 40), .ref (u 41)])), (u 1, .inl (cI, 544, .inl (upd (upd (upd (fun _ => 0) 8 1) 9 1) 17 (-1)))), (u 2, .inl (cI, 1632, .inl f109)), (u 3, .inl (cZ, 3, .inl (fun _ => 0)))] := by rw [ef109]; exact hD
    refine lv_iinc (v := nI (i + 1)) (lv' := [(2, .int (nI (i + 1))), (0, .ref h0), (1, .int 0)]) hx hb dX12_keep_42 hl (k := 2) rfl (nI_1 i) (by decide) rfl (fun ls hl => ?_)
    refine lv_goto (tgt := 17) hx hb dX12_keep_45 (by decide) ?_
    exact ih (i + 1) (by omega) H locs ls f109 hP hD hS (lv_sub hl [1, 2, 0] rfl)
set_option maxHeartbeats 4000000 in
set_option maxRecDepth 100000 in
theorem lp_c_X12_keep_1 {p : Program} {l : Launch} {e : Env} {R : Room} {s : State} {m : MethodId} {args : Array Value} {below : List Frame} {meth : Method} {c : Code} {A : Nat → Prop} {cells slots : Nat} {Q : State → Prop} {dC : Nat → ClassId} {dI : Nat → Nat → Nat} {cI cZ cB cJ cM : ClassId} {h0 : Nat} {u : Nat → Nat}  (hx : p.tables.exec = Jvm.exec) (hb : c.code = cX12_keep) (hown : s.vm.findClass RX12 = some m.cls) (hwd : ∀ wd ∈ wsL_law, wd.before args s = true) (hK : va_K (dC, dI) vwCl [(cI, .int), (cZ, .boolean), (cB, .byte), (cJ, .long), (cM, .object RX2)] s) (kx : ∀ (H : Heap) (locs : List Loc) (ls : Array Slot) (g : Nat → Int32), va_P (dC, dI) vwCl [(h0, .inr (12, [.int 0, .ref (u 1), .ref (u 2), .ref (u 3), .ref (u 4), .int 0, .ref (u 6), .int 0, .int 0, .int 0, .int 0, .int 0, .int 0, .int (-1), .ref (u 14), .ref (u 15), .ref (u 16), .ref (u 17), .ref (u 18), .ref (u 19), .ref (u 20), .int 0, .ref (u 22), .int 0, .ref (u 24), .ref (u 25), .int 0, .ref (u 27), .ref (u 28), .ref (u 29), .ref (u 30), .int 0, .int 0, .int 0, .int 0, .int 0, .ref (u 36), .long 0, .ref (u 38), .ref (u 39), .ref (u 40), .ref (u 41)])), (u 1, .inl (cI, 544, .inl (upd (upd (upd (fun _ => 0) 8 1) 9 1) 17 (-1)))), (u 2, .inl (cI, 1632, .inl g)), (u 3, .inl (cZ, 3, .inl (fun _ => 0)))] H → va_D A [(h0, .inr (12, [.int 0, .ref (u 1), .ref (u 2), .ref (u 3), .ref (u 4), .int 0, .ref (u 6), .int 0, .int 0, .int 0, .int 0, .int 0, .int 0, .int (-1), .ref (u 14), .ref (u 15), .ref (u 16), .ref (u 17), .ref (u 18), .ref (u 19), .ref (u 20), .int 0, .ref (u 22), .int 0, .ref (u 24), .ref (u 25), .int 0, .ref (u 27), .ref (u 28), .ref (u 29), .ref (u 30), .int 0, .int 0, .int 0, .int 0, .int 0, .ref (u 36), .long 0, .ref (u 38), .ref (u 39), .ref (u 40), .ref (u 41)])), (u 1, .inl (cI, 544, .inl (upd (upd (upd (fun _ => 0) 8 1) 9 1) 17 (-1)))), (u 2, .inl (cI, 1632, .inl g)), (u 3, .inl (cZ, 3, .inl (fun _ => 0)))] → va_S A s.heap H locs → lv_has ls 3 [(0, .ref h0), (1, .int 1), (2, .int (nI 544))] → W p l e R s m args below meth c H locs cells slots Q (F0 m 48 ls [])) : ∀ (d i : Nat), i + d = 544 → ∀ (H : Heap) (locs : List Loc) (ls : Array Slot) (g : Nat → Int32), va_P (dC, dI) vwCl [(h0, .inr (12, [.int 0, .ref (u 1), .ref (u 2), .ref (u 3), .ref (u 4), .int 0, .ref (u 6), .int 0, .int 0, .int 0, .int 0, .int 0, .int 0, .int (-1), .ref (u 14), .ref (u 15), .ref (u 16), .ref (u 17), .ref (u 18), .ref (u 19), .ref (u 20), .int 0, .ref (u 22), .int 0, .ref (u 24), .ref (u 25), .int 0, .ref (u 27), .ref (u 28), .ref (u 29), .ref (u 30), .int 0, .int 0, .int 0, .int 0, .int 0, .ref (u 36), .long 0, .ref (u 38), .ref (u 39), .ref (u 40), .ref (u 41)])), (u 1, .inl (cI, 544, .inl (upd (upd (upd (fun _ => 0) 8 1) 9 1) 17 (-1)))), (u 2, .inl (cI, 1632, .inl g)), (u 3, .inl (cZ, 3, .inl (fun _ => 0)))] H → va_D A [(h0, .inr (12, [.int 0, .ref (u 1), .ref (u 2), .ref (u 3), .ref (u 4), .int 0, .ref (u 6), .int 0, .int 0, .int 0, .int 0, .int 0, .int 0, .int (-1), .ref (u 14), .ref (u 15), .ref (u 16), .ref (u 17), .ref (u 18), .ref (u 19), .ref (u 20), .int 0, .ref (u 22), .int 0, .ref (u 24), .ref (u 25), .int 0, .ref (u 27), .ref (u 28), .ref (u 29), .ref (u 30), .int 0, .int 0, .int 0, .int 0, .int 0, .ref (u 36), .long 0, .ref (u 38), .ref (u 39), .ref (u 40), .ref (u 41)])), (u 1, .inl (cI, 544, .inl (upd (upd (upd (fun _ => 0) 8 1) 9 1) 17 (-1)))), (u 2, .inl (cI, 1632, .inl g)), (u 3, .inl (cZ, 3, .inl (fun _ => 0)))] → va_S A s.heap H locs → lv_has ls 3 [(0, .ref h0), (1, .int 1), (2, .int (nI i))] → W p l e R s m args below meth c H locs cells slots Q (F0 m 17 ls []) := by
  intro d
  induction d with
  | zero =>
    intro i h1 H locs ls g hP hD hS hl
    obtain rfl : i = 544 := by omega
    refine lv_iload_n hx hb dX12_keep_17 rfl (lv_at hl 2 rfl) ?_
    refine lv_sipush (v := 544) hx hb dX12_keep_18 (by decide) ?_
    refine lv_icmp_ge (tgt := 48) hx hb dX12_keep_21 (by decide) (fun c1 => ?_) (fun c1 => absurd c1 (by decide))
    exact kx H locs ls g hP hD hS hl
  | succ d ih =>
    intro i h1 H locs ls g hP hD hS hl
    have hi : i < 544 := by omega
    refine lv_iload_n hx hb dX12_keep_17 rfl (lv_at hl 2 rfl) ?_
    refine lv_sipush (v := 544) hx hb dX12_keep_18 (by decide) ?_
    refine lv_icmp_ge (tgt := 48) hx hb dX12_keep_21 (by decide) (fun c1 => absurd c1 (show ¬ nI 544 ≤ nI i from nI_ge hi (by decide))) (fun c1 => ?_)
    refine lv_aload_n hx hb dX12_keep_24 rfl (lv_at hl 0 rfl) ?_
    refine va_get (D := (dC, dI)) (ci := 12) (v := .ref (u 2)) (C := RX12) (T := TX12) (N := 42) hx hb hwd inlX12 hown hK hP 0 rfl rfl 2 (by decide) (hwd _ kr7_4) (fun _ h9 => h9) rfl dX12_keep_25 ?_
    refine lv_sipush (v := 544) hx hb dX12_keep_28 (by decide) ?_
    refine lv_iload_n hx hb dX12_keep_31 rfl (lv_at hl 1 rfl) ?_
    refine lv_imul hx hb dX12_keep_32 ?_
    refine lv_topi (nm_r (e' := (544)) (by decide +kernel) ?_)
    refine lv_iload_n hx hb dX12_keep_33 rfl (lv_at hl 2 rfl) ?_
    refine lv_iadd hx hb dX12_keep_34 ?_
    refine lv_topi (fun x107 ex107 => ?_)
    refine lv_aload_n hx hb dX12_keep_35 rfl (lv_at hl 0 rfl) ?_
    refine va_get (D := (dC, dI)) (ci := 12) (v := .ref (u 1)) (C := RX12) (T := TX12) (N := 42) hx hb hwd inlX12 hown hK hP 0 rfl rfl 1 (by decide) (hwd _ kr7_3) (fun _ h9 => h9) rfl dX12_keep_36 ?_
    refine lv_iload_n hx hb dX12_keep_39 rfl (lv_at hl 2 rfl) ?_
    refine va_iald hx hb hK hP 1 0 rfl rfl (vp_in_nI hi (by decide)) dX12_keep_40 ?_
    refine lv_topi (fun x108 ex108 => ?_)
    refine va_iast hx hb hK hP hD hS 2 0 rfl rfl (by rw [ex107]; exact (show vp_in (nI 544 + nI i) 1632 from vp_base 544 i 1632 (by omega) (by decide))) dX12_keep_41 (fun H locs hP hD hS => ?_)
    obtain ⟨f109, ef109⟩ : ∃ f, f = upd g x107.toNatClampNeg x108 := ⟨_, rfl⟩
    have hP : va_P (dC, dI) vwCl [(h0, .inr (12, [.int 0, .ref (u 1), .ref (u 2), .ref (u 3), .ref (u 4), .int 0, .ref (u 6), .int 0, .int 0, .int 0, .int 0, .int 0, .int 0, .int (-1), .ref (u 14), .ref (u 15), .ref (u 16), .ref (u 17), .ref (u 18), .ref (u 19), .ref (u 20), .int 0, .ref (u 22), .int 0, .ref (u 24), .ref (u 25), .int 0, .ref (u 27), .ref (u 28), .ref (u 29), .ref (u 30), .int 0, .int 0, .int 0, .int 0, .int 0, .ref (u 36), .long 0, .ref (u 38), .ref (u 39), .ref (u 40), .ref (u 41)])), (u 1, .inl (cI, 544, .inl (upd (upd (upd (fun _ => 0) 8 1) 9 1) 17 (-1)))), (u 2, .inl (cI, 1632, .inl f109)), (u 3, .inl (cZ, 3, .inl (fun _ => 0)))] H := by rw [ef109]; exact hP
    have hD : va_D A [(h0, .inr (12, [.int 0, .ref (u 1), .ref (u 2), .ref (u 3), .ref (u 4), .int 0, .ref (u 6), .int 0, .int 0, .int 0, .int 0, .int 0, .int 0, .int (-1), .ref (u 14), .ref (u 15), .ref (u 16), .ref (u 17), .ref (u 18), .ref (u 19), .ref (u 20), .int 0, .ref (u 22), .int 0, .ref (u 24), .ref (u 25), .int 0, .ref (u 27), .ref (u 28), .ref (u 29), .ref (u 30), .int 0, .int 0, .int 0, .int 0, .int 0, .ref (u 36), .long 0, .ref (u 38), .ref (u 39), .ref (u 40), .ref (u 41)])), (u 1, .inl (cI, 544, .inl (upd (upd (upd (fun _ => 0) 8 1) 9 1) 17 (-1)))), (u 2, .inl (cI, 1632, .inl f109)), (u 3, .inl (cZ, 3, .inl (fun _ => 0)))] := by rw [ef109]; exact hD
    refine lv_iinc (v := nI (i + 1)) (lv' := [(2, .int (nI (i + 1))), (0, .ref h0), (1, .int 1)]) hx hb dX12_keep_42 hl (k := 2) rfl (nI_1 i) (by decide) rfl (fun ls hl => ?_)
    refine lv_goto (tgt := 17) hx hb dX12_keep_45 (by decide) ?_
    exact ih (i + 1) (by omega) H locs ls f109 hP hD hS (lv_sub hl [1, 2, 0] rfl)
set_option maxHeartbeats 4000000 in
set_option maxRecDepth 100000 in
theorem lp_c_X12_keep_2 {p : Program} {l : Launch} {e : Env} {R : Room} {s : State} {m : MethodId} {args : Array Value} {below : List Frame} {meth : Method} {c : Code} {A : Nat → Prop} {cells slots : Nat} {Q : State → Prop} {dC : Nat → ClassId} {dI : Nat → Nat → Nat} {cI cZ cB cJ cM : ClassId} {h0 : Nat} {u : Nat → Nat}  (hx : p.tables.exec = Jvm.exec) (hb : c.code = cX12_keep) (hown : s.vm.findClass RX12 = some m.cls) (hwd : ∀ wd ∈ wsL_law, wd.before args s = true) (hK : va_K (dC, dI) vwCl [(cI, .int), (cZ, .boolean), (cB, .byte), (cJ, .long), (cM, .object RX2)] s) (kx : ∀ (H : Heap) (locs : List Loc) (ls : Array Slot) (g : Nat → Int32), va_P (dC, dI) vwCl [(h0, .inr (12, [.int 0, .ref (u 1), .ref (u 2), .ref (u 3), .ref (u 4), .int 0, .ref (u 6), .int 0, .int 0, .int 0, .int 0, .int 0, .int 0, .int (-1), .ref (u 14), .ref (u 15), .ref (u 16), .ref (u 17), .ref (u 18), .ref (u 19), .ref (u 20), .int 0, .ref (u 22), .int 0, .ref (u 24), .ref (u 25), .int 0, .ref (u 27), .ref (u 28), .ref (u 29), .ref (u 30), .int 0, .int 0, .int 0, .int 0, .int 0, .ref (u 36), .long 0, .ref (u 38), .ref (u 39), .ref (u 40), .ref (u 41)])), (u 1, .inl (cI, 544, .inl (upd (upd (upd (fun _ => 0) 8 1) 9 1) 17 (-1)))), (u 2, .inl (cI, 1632, .inl g)), (u 3, .inl (cZ, 3, .inl (fun _ => 0)))] H → va_D A [(h0, .inr (12, [.int 0, .ref (u 1), .ref (u 2), .ref (u 3), .ref (u 4), .int 0, .ref (u 6), .int 0, .int 0, .int 0, .int 0, .int 0, .int 0, .int (-1), .ref (u 14), .ref (u 15), .ref (u 16), .ref (u 17), .ref (u 18), .ref (u 19), .ref (u 20), .int 0, .ref (u 22), .int 0, .ref (u 24), .ref (u 25), .int 0, .ref (u 27), .ref (u 28), .ref (u 29), .ref (u 30), .int 0, .int 0, .int 0, .int 0, .int 0, .ref (u 36), .long 0, .ref (u 38), .ref (u 39), .ref (u 40), .ref (u 41)])), (u 1, .inl (cI, 544, .inl (upd (upd (upd (fun _ => 0) 8 1) 9 1) 17 (-1)))), (u 2, .inl (cI, 1632, .inl g)), (u 3, .inl (cZ, 3, .inl (fun _ => 0)))] → va_S A s.heap H locs → lv_has ls 3 [(0, .ref h0), (1, .int 2), (2, .int (nI 544))] → W p l e R s m args below meth c H locs cells slots Q (F0 m 48 ls [])) : ∀ (d i : Nat), i + d = 544 → ∀ (H : Heap) (locs : List Loc) (ls : Array Slot) (g : Nat → Int32), va_P (dC, dI) vwCl [(h0, .inr (12, [.int 0, .ref (u 1), .ref (u 2), .ref (u 3), .ref (u 4), .int 0, .ref (u 6), .int 0, .int 0, .int 0, .int 0, .int 0, .int 0, .int (-1), .ref (u 14), .ref (u 15), .ref (u 16), .ref (u 17), .ref (u 18), .ref (u 19), .ref (u 20), .int 0, .ref (u 22), .int 0, .ref (u 24), .ref (u 25), .int 0, .ref (u 27), .ref (u 28), .ref (u 29), .ref (u 30), .int 0, .int 0, .int 0, .int 0, .int 0, .ref (u 36), .long 0, .ref (u 38), .ref (u 39), .ref (u 40), .ref (u 41)])), (u 1, .inl (cI, 544, .inl (upd (upd (upd (fun _ => 0) 8 1) 9 1) 17 (-1)))), (u 2, .inl (cI, 1632, .inl g)), (u 3, .inl (cZ, 3, .inl (fun _ => 0)))] H → va_D A [(h0, .inr (12, [.int 0, .ref (u 1), .ref (u 2), .ref (u 3), .ref (u 4), .int 0, .ref (u 6), .int 0, .int 0, .int 0, .int 0, .int 0, .int 0, .int (-1), .ref (u 14), .ref (u 15), .ref (u 16), .ref (u 17), .ref (u 18), .ref (u 19), .ref (u 20), .int 0, .ref (u 22), .int 0, .ref (u 24), .ref (u 25), .int 0, .ref (u 27), .ref (u 28), .ref (u 29), .ref (u 30), .int 0, .int 0, .int 0, .int 0, .int 0, .ref (u 36), .long 0, .ref (u 38), .ref (u 39), .ref (u 40), .ref (u 41)])), (u 1, .inl (cI, 544, .inl (upd (upd (upd (fun _ => 0) 8 1) 9 1) 17 (-1)))), (u 2, .inl (cI, 1632, .inl g)), (u 3, .inl (cZ, 3, .inl (fun _ => 0)))] → va_S A s.heap H locs → lv_has ls 3 [(0, .ref h0), (1, .int 2), (2, .int (nI i))] → W p l e R s m args below meth c H locs cells slots Q (F0 m 17 ls []) := by
  intro d
  induction d with
  | zero =>
    intro i h1 H locs ls g hP hD hS hl
    obtain rfl : i = 544 := by omega
    refine lv_iload_n hx hb dX12_keep_17 rfl (lv_at hl 2 rfl) ?_
    refine lv_sipush (v := 544) hx hb dX12_keep_18 (by decide) ?_
    refine lv_icmp_ge (tgt := 48) hx hb dX12_keep_21 (by decide) (fun c1 => ?_) (fun c1 => absurd c1 (by decide))
    exact kx H locs ls g hP hD hS hl
  | succ d ih =>
    intro i h1 H locs ls g hP hD hS hl
    have hi : i < 544 := by omega
    refine lv_iload_n hx hb dX12_keep_17 rfl (lv_at hl 2 rfl) ?_
    refine lv_sipush (v := 544) hx hb dX12_keep_18 (by decide) ?_
    refine lv_icmp_ge (tgt := 48) hx hb dX12_keep_21 (by decide) (fun c1 => absurd c1 (show ¬ nI 544 ≤ nI i from nI_ge hi (by decide))) (fun c1 => ?_)
    refine lv_aload_n hx hb dX12_keep_24 rfl (lv_at hl 0 rfl) ?_
    refine va_get (D := (dC, dI)) (ci := 12) (v := .ref (u 2)) (C := RX12) (T := TX12) (N := 42) hx hb hwd inlX12 hown hK hP 0 rfl rfl 2 (by decide) (hwd _ kr7_4) (fun _ h9 => h9) rfl dX12_keep_25 ?_
    refine lv_sipush (v := 544) hx hb dX12_keep_28 (by decide) ?_
    refine lv_iload_n hx hb dX12_keep_31 rfl (lv_at hl 1 rfl) ?_
    refine lv_imul hx hb dX12_keep_32 ?_
    refine lv_topi (nm_r (e' := (1088)) (by decide +kernel) ?_)
    refine lv_iload_n hx hb dX12_keep_33 rfl (lv_at hl 2 rfl) ?_
    refine lv_iadd hx hb dX12_keep_34 ?_
    refine lv_topi (fun x107 ex107 => ?_)
    refine lv_aload_n hx hb dX12_keep_35 rfl (lv_at hl 0 rfl) ?_
    refine va_get (D := (dC, dI)) (ci := 12) (v := .ref (u 1)) (C := RX12) (T := TX12) (N := 42) hx hb hwd inlX12 hown hK hP 0 rfl rfl 1 (by decide) (hwd _ kr7_3) (fun _ h9 => h9) rfl dX12_keep_36 ?_
    refine lv_iload_n hx hb dX12_keep_39 rfl (lv_at hl 2 rfl) ?_
    refine va_iald hx hb hK hP 1 0 rfl rfl (vp_in_nI hi (by decide)) dX12_keep_40 ?_
    refine lv_topi (fun x108 ex108 => ?_)
    refine va_iast hx hb hK hP hD hS 2 0 rfl rfl (by rw [ex107]; exact (show vp_in (nI 1088 + nI i) 1632 from vp_base 1088 i 1632 (by omega) (by decide))) dX12_keep_41 (fun H locs hP hD hS => ?_)
    obtain ⟨f109, ef109⟩ : ∃ f, f = upd g x107.toNatClampNeg x108 := ⟨_, rfl⟩
    have hP : va_P (dC, dI) vwCl [(h0, .inr (12, [.int 0, .ref (u 1), .ref (u 2), .ref (u 3), .ref (u 4), .int 0, .ref (u 6), .int 0, .int 0, .int 0, .int 0, .int 0, .int 0, .int (-1), .ref (u 14), .ref (u 15), .ref (u 16), .ref (u 17), .ref (u 18), .ref (u 19), .ref (u 20), .int 0, .ref (u 22), .int 0, .ref (u 24), .ref (u 25), .int 0, .ref (u 27), .ref (u 28), .ref (u 29), .ref (u 30), .int 0, .int 0, .int 0, .int 0, .int 0, .ref (u 36), .long 0, .ref (u 38), .ref (u 39), .ref (u 40), .ref (u 41)])), (u 1, .inl (cI, 544, .inl (upd (upd (upd (fun _ => 0) 8 1) 9 1) 17 (-1)))), (u 2, .inl (cI, 1632, .inl f109)), (u 3, .inl (cZ, 3, .inl (fun _ => 0)))] H := by rw [ef109]; exact hP
    have hD : va_D A [(h0, .inr (12, [.int 0, .ref (u 1), .ref (u 2), .ref (u 3), .ref (u 4), .int 0, .ref (u 6), .int 0, .int 0, .int 0, .int 0, .int 0, .int 0, .int (-1), .ref (u 14), .ref (u 15), .ref (u 16), .ref (u 17), .ref (u 18), .ref (u 19), .ref (u 20), .int 0, .ref (u 22), .int 0, .ref (u 24), .ref (u 25), .int 0, .ref (u 27), .ref (u 28), .ref (u 29), .ref (u 30), .int 0, .int 0, .int 0, .int 0, .int 0, .ref (u 36), .long 0, .ref (u 38), .ref (u 39), .ref (u 40), .ref (u 41)])), (u 1, .inl (cI, 544, .inl (upd (upd (upd (fun _ => 0) 8 1) 9 1) 17 (-1)))), (u 2, .inl (cI, 1632, .inl f109)), (u 3, .inl (cZ, 3, .inl (fun _ => 0)))] := by rw [ef109]; exact hD
    refine lv_iinc (v := nI (i + 1)) (lv' := [(2, .int (nI (i + 1))), (0, .ref h0), (1, .int 2)]) hx hb dX12_keep_42 hl (k := 2) rfl (nI_1 i) (by decide) rfl (fun ls hl => ?_)
    refine lv_goto (tgt := 17) hx hb dX12_keep_45 (by decide) ?_
    exact ih (i + 1) (by omega) H locs ls f109 hP hD hS (lv_sub hl [1, 2, 0] rfl)
set_option maxHeartbeats 4000000 in
set_option maxRecDepth 100000 in
theorem c_X12_keep (l : Launch) (dC : Nat → ClassId) (dI : Nat → Nat → Nat) (cI cZ cB cJ cM : ClassId) (h0 : Nat) (u : Nat → Nat) (p0 : Int32) (sz : Nat) : Met l yX12_keep (kw yX12_keep cX12_keep 3 (some .int)) ({ frames := 1, cells := 0, slots := 0, locals := 25 }) (va_Pc [.ref h0, .int p0] (kPre dC dI [(cI, .int), (cZ, .boolean), (cB, .byte), (cJ, .long), (cM, .object RX2)] [(h0, .inr (12, [.int 0, .ref (u 1), .ref (u 2), .ref (u 3), .ref (u 4), .int 0, .ref (u 6), .int 0, .int 0, .int 0, .int 0, .int 0, .int 0, .int (-1), .ref (u 14), .ref (u 15), .ref (u 16), .ref (u 17), .ref (u 18), .ref (u 19), .ref (u 20), .int 0, .ref (u 22), .int 0, .ref (u 24), .ref (u 25), .int 0, .ref (u 27), .ref (u 28), .ref (u 29), .ref (u 30), .int 0, .int 0, .int 0, .int 0, .int 0, .ref (u 36), .long 0, .ref (u 38), .ref (u 39), .ref (u 40), .ref (u 41)])), (u 1, .inl (cI, 544, .inl (upd (upd (upd (fun _ => 0) 8 1) 9 1) 17 (-1)))), (u 2, .inl (cI, 1632, .inl (fun _ => 0))), (u 3, .inl (cZ, 3, .inl (fun _ => 0)))] sz)) (va_Qi (fun (r : Int32) (_ : Unit) => Sp_keep p0 r) (fun _ _ => True) (va_A [(h0, .inr (12, [.int 0, .ref (u 1), .ref (u 2), .ref (u 3), .ref (u 4), .int 0, .ref (u 6), .int 0, .int 0, .int 0, .int 0, .int 0, .int 0, .int (-1), .ref (u 14), .ref (u 15), .ref (u 16), .ref (u 17), .ref (u 18), .ref (u 19), .ref (u 20), .int 0, .ref (u 22), .int 0, .ref (u 24), .ref (u 25), .int 0, .ref (u 27), .ref (u 28), .ref (u 29), .ref (u 30), .int 0, .int 0, .int 0, .int 0, .int 0, .ref (u 36), .long 0, .ref (u 38), .ref (u 39), .ref (u 40), .ref (u 41)])), (u 1, .inl (cI, 544, .inl (upd (upd (upd (fun _ => 0) 8 1) 9 1) 17 (-1)))), (u 2, .inl (cI, 1632, .inl (fun _ => 0))), (u 3, .inl (cZ, 3, .inl (fun _ => 0)))] sz)) 0 0 (va_A [(h0, .inr (12, [.int 0, .ref (u 1), .ref (u 2), .ref (u 3), .ref (u 4), .int 0, .ref (u 6), .int 0, .int 0, .int 0, .int 0, .int 0, .int 0, .int (-1), .ref (u 14), .ref (u 15), .ref (u 16), .ref (u 17), .ref (u 18), .ref (u 19), .ref (u 20), .int 0, .ref (u 22), .int 0, .ref (u 24), .ref (u 25), .int 0, .ref (u 27), .ref (u 28), .ref (u 29), .ref (u 30), .int 0, .int 0, .int 0, .int 0, .int 0, .ref (u 36), .long 0, .ref (u 38), .ref (u 39), .ref (u 40), .ref (u 41)])), (u 1, .inl (cI, 544, .inl (upd (upd (upd (fun _ => 0) 8 1) 9 1) 17 (-1)))), (u 2, .inl (cI, 1632, .inl (fun _ => 0))), (u 3, .inl (cZ, 3, .inl (fun _ => 0)))] sz) := by
  refine kEnter (by decide) (Nat.le_of_ble_eq_true rfl) ?_
  intro p e s m below meth c ls hx hb hr hml hown hlocks hin hwd hsz hP hK hD hl
  subst hsz
  generalize hAe : va_A [(h0, .inr (12, [.int 0, .ref (u 1), .ref (u 2), .ref (u 3), .ref (u 4), .int 0, .ref (u 6), .int 0, .int 0, .int 0, .int 0, .int 0, .int 0, .int (-1), .ref (u 14), .ref (u 15), .ref (u 16), .ref (u 17), .ref (u 18), .ref (u 19), .ref (u 20), .int 0, .ref (u 22), .int 0, .ref (u 24), .ref (u 25), .int 0, .ref (u 27), .ref (u 28), .ref (u 29), .ref (u 30), .int 0, .int 0, .int 0, .int 0, .int 0, .ref (u 36), .long 0, .ref (u 38), .ref (u 39), .ref (u 40), .ref (u 41)])), (u 1, .inl (cI, 544, .inl (upd (upd (upd (fun _ => 0) 8 1) 9 1) 17 (-1)))), (u 2, .inl (cI, 1632, .inl (fun _ => 0))), (u 3, .inl (cZ, 3, .inl (fun _ => 0)))] s.heap.size = A at hD ⊢
  have hA : ∀ q : Nat, s.heap.size ≤ q → A q := fun q h => by rw [← hAe]; exact Or.inr h
  have hS : va_S A s.heap s.heap [] := va_S.rf
  have hl : lv_has ls 3 [(0, .ref h0), (1, .int p0)] := hl
  refine lv_iload_n hx hb dX12_keep_0 rfl (lv_at hl 1 rfl) ?_
  refine lv_i2l hx hb dX12_keep_1 rfl ?_
  refine lv_lconst (v := 0) hx hb dX12_keep_2 (by decide) ?_
  refine lv_ldc2 (v := 2) hx hb hown (hwd _ kr25_6) dX12_keep_3 ?_
  have hPc := hP.sub (ws' := []) [] rfl
  have hDc := hD.sub (ws' := []) [] (by decide) rfl
  have hFc := va_free (wc := []) hD hS hA [] rfl
  refine va_calli (va_runS (As := [.long p0.toInt64, .long 0, .long 2]) (rest := []) ⟨hx, hb, hml, hown, hwd⟩ (c_X12_in l dC dI cI cZ cB cJ cM p0.toInt64 0 2 s.heap.size) (cwS 3 hwd (gS kr9_10 kr9_11 kr1_5 kr9_12) rfl rfl rfl (by decide +kernel) ⟨Nat.le_of_ble_eq_true rfl, Nat.le_of_ble_eq_true rfl⟩) (kPreS hPc hK hDc) rfl rfl hl.1 rfl (lv_room (Nat.le_of_ble_eq_true rfl)) dX12_keep_6 ⟨Nat.le_of_ble_eq_true rfl, Nat.le_of_ble_eq_true rfl⟩) hS (fun q _ h => hFc q h) hFc (fun r1 u2 t H1 locs ht9 hvm hw hB hz1 hk1 hS => ?_)
  obtain ⟨hP1, hD1⟩ := hB
  rw [ht9] at hP1
  obtain ⟨hP, hD⟩ := va_join (wr := [(h0, .inr (12, [.int 0, .ref (u 1), .ref (u 2), .ref (u 3), .ref (u 4), .int 0, .ref (u 6), .int 0, .int 0, .int 0, .int 0, .int 0, .int 0, .int (-1), .ref (u 14), .ref (u 15), .ref (u 16), .ref (u 17), .ref (u 18), .ref (u 19), .ref (u 20), .int 0, .ref (u 22), .int 0, .ref (u 24), .ref (u 25), .int 0, .ref (u 27), .ref (u 28), .ref (u 29), .ref (u 30), .int 0, .int 0, .int 0, .int 0, .int 0, .ref (u 36), .long 0, .ref (u 38), .ref (u 39), .ref (u 40), .ref (u 41)])), (u 1, .inl (cI, 544, .inl (upd (upd (upd (fun _ => 0) 8 1) 9 1) 17 (-1)))), (u 2, .inl (cI, 1632, .inl (fun _ => 0))), (u 3, .inl (cZ, 3, .inl (fun _ => 0)))]) (w1 := []) hP hD [] [0, 1, 2, 3] rfl rfl (by decide) (by decide) hk1 hFc hP1 hD1
  generalize H1 = H at hP hS ⊢
  have hP : va_P (dC, dI) vwCl [(h0, .inr (12, [.int 0, .ref (u 1), .ref (u 2), .ref (u 3), .ref (u 4), .int 0, .ref (u 6), .int 0, .int 0, .int 0, .int 0, .int 0, .int 0, .int (-1), .ref (u 14), .ref (u 15), .ref (u 16), .ref (u 17), .ref (u 18), .ref (u 19), .ref (u 20), .int 0, .ref (u 22), .int 0, .ref (u 24), .ref (u 25), .int 0, .ref (u 27), .ref (u 28), .ref (u 29), .ref (u 30), .int 0, .int 0, .int 0, .int 0, .int 0, .ref (u 36), .long 0, .ref (u 38), .ref (u 39), .ref (u 40), .ref (u 41)])), (u 1, .inl (cI, 544, .inl (upd (upd (upd (fun _ => 0) 8 1) 9 1) 17 (-1)))), (u 2, .inl (cI, 1632, .inl (fun _ => 0))), (u 3, .inl (cZ, 3, .inl (fun _ => 0)))] H := hP
  have hD : va_D A [(h0, .inr (12, [.int 0, .ref (u 1), .ref (u 2), .ref (u 3), .ref (u 4), .int 0, .ref (u 6), .int 0, .int 0, .int 0, .int 0, .int 0, .int 0, .int (-1), .ref (u 14), .ref (u 15), .ref (u 16), .ref (u 17), .ref (u 18), .ref (u 19), .ref (u 20), .int 0, .ref (u 22), .int 0, .ref (u 24), .ref (u 25), .int 0, .ref (u 27), .ref (u 28), .ref (u 29), .ref (u 30), .int 0, .int 0, .int 0, .int 0, .int 0, .ref (u 36), .long 0, .ref (u 38), .ref (u 39), .ref (u 40), .ref (u 41)])), (u 1, .inl (cI, 544, .inl (upd (upd (upd (fun _ => 0) 8 1) 9 1) 17 (-1)))), (u 2, .inl (cI, 1632, .inl (fun _ => 0))), (u 3, .inl (cZ, 3, .inl (fun _ => 0)))] := hD
  rcases in_or (p := p0) (lo := 0) (hi := 2) 0 2 (by decide) (by decide) with ⟨e9, c3⟩ | ⟨e9, c3, c4⟩
  · rw [e9] at hw
    subst hw
    refine lv_if_ne (tgt := 15) hx hb dX12_keep_9 (by decide) (fun c5 => absurd c5 (by decide)) (fun c5 => ?_)
    refine lv_bipush (v := (-2)) hx hb dX12_keep_12 (by decide) ?_
    exact W.iret (v := (-2)) hx hb hr (fun t ht hW => ⟨⟨(-2), (), rfl, (by simp only [Sp_keep, and_true, true_and, or_true, true_or, and_false, false_and, or_false, false_or, not_true_eq_false, not_false_eq_true, ne_eq, ki_lt, ki_le, ki_eq, kz_m8, kz_m7, kz_m6, kz_m4, kz_m3, kz_m2, kz_m1, kz_0, kz_1, kz_2, kz_3, kz_4, kz_5, kz_6, kz_7, kz_8, kz_9, kz_10, kz_11, kz_20, kz_60] at c3 ⊢ <;> omega), trivial⟩, hS.F ht⟩) hS.2.2 dX12_keep_14
  · rw [e9] at hw
    subst hw
    refine lv_if_ne (tgt := 15) hx hb dX12_keep_9 (by decide) (fun c6 => ?_) (fun c6 => absurd c6 (by decide))
    rcases k3le c3 c4 with rfl | rfl | rfl
    · refine lv_iconst (v := 0) hx hb dX12_keep_15 (by decide) ?_
      refine lv_istore_n (lv' := [(2, .int 0), (0, .ref h0), (1, .int 0)]) hx hb dX12_keep_16 rfl hl (by decide) rfl (fun ls hl => ?_)
      have hl0 : lv_has ls 3 [(0, .ref h0), (1, .int 0), (2, .int (nI 0))] := lv_sub hl [1, 2, 0] rfl
      refine lp_c_X12_keep_0 hx hb hown hwd hK (fun H locs ls g hP hD hS hl => ?_) 544 0 (by omega) _ _ ls (fun _ => 0) hP hD hS hl0
      refine lv_aload_n hx hb dX12_keep_48 rfl (lv_at hl 0 rfl) ?_
      refine va_get (D := (dC, dI)) (ci := 12) (v := .ref (u 3)) (C := RX12) (T := TX12) (N := 42) hx hb hwd inlX12 hown hK hP 0 rfl rfl 3 (by decide) (hwd _ kr7_5) (fun _ h9 => h9) rfl dX12_keep_49 ?_
      refine lv_iload_n hx hb dX12_keep_52 rfl (lv_at hl 1 rfl) ?_
      refine lv_iconst (v := 1) hx hb dX12_keep_53 (by decide) ?_
      refine va_zast hx hb hK hP hD hS 3 1 rfl rfl (vin (by decide)) dX12_keep_54 (fun H locs hP hD hS => ?_)
      have hP : va_P (dC, dI) vwCl [(h0, .inr (12, [.int 0, .ref (u 1), .ref (u 2), .ref (u 3), .ref (u 4), .int 0, .ref (u 6), .int 0, .int 0, .int 0, .int 0, .int 0, .int 0, .int (-1), .ref (u 14), .ref (u 15), .ref (u 16), .ref (u 17), .ref (u 18), .ref (u 19), .ref (u 20), .int 0, .ref (u 22), .int 0, .ref (u 24), .ref (u 25), .int 0, .ref (u 27), .ref (u 28), .ref (u 29), .ref (u 30), .int 0, .int 0, .int 0, .int 0, .int 0, .ref (u 36), .long 0, .ref (u 38), .ref (u 39), .ref (u 40), .ref (u 41)])), (u 1, .inl (cI, 544, .inl (upd (upd (upd (fun _ => 0) 8 1) 9 1) 17 (-1)))), (u 2, .inl (cI, 1632, .inl g)), (u 3, .inl (cZ, 3, .inl (upd (fun _ => 0) 0 1)))] H := hP
      have hD : va_D A [(h0, .inr (12, [.int 0, .ref (u 1), .ref (u 2), .ref (u 3), .ref (u 4), .int 0, .ref (u 6), .int 0, .int 0, .int 0, .int 0, .int 0, .int 0, .int (-1), .ref (u 14), .ref (u 15), .ref (u 16), .ref (u 17), .ref (u 18), .ref (u 19), .ref (u 20), .int 0, .ref (u 22), .int 0, .ref (u 24), .ref (u 25), .int 0, .ref (u 27), .ref (u 28), .ref (u 29), .ref (u 30), .int 0, .int 0, .int 0, .int 0, .int 0, .ref (u 36), .long 0, .ref (u 38), .ref (u 39), .ref (u 40), .ref (u 41)])), (u 1, .inl (cI, 544, .inl (upd (upd (upd (fun _ => 0) 8 1) 9 1) 17 (-1)))), (u 2, .inl (cI, 1632, .inl g)), (u 3, .inl (cZ, 3, .inl (upd (fun _ => 0) 0 1)))] := hD
      refine lv_iconst (v := 0) hx hb dX12_keep_55 (by decide) ?_
      exact W.iret (v := 0) hx hb hr (fun t ht hW => ⟨⟨0, (), rfl, (by simp only [Sp_keep, and_true, true_and, or_true, true_or, and_false, false_and, or_false, false_or, not_true_eq_false, not_false_eq_true, ne_eq, ki_lt, ki_le, ki_eq, kz_m8, kz_m7, kz_m6, kz_m4, kz_m3, kz_m2, kz_m1, kz_0, kz_1, kz_2, kz_3, kz_4, kz_5, kz_6, kz_7, kz_8, kz_9, kz_10, kz_11, kz_20, kz_60] at c3 c4 ⊢ <;> omega), trivial⟩, hS.F ht⟩) hS.2.2 dX12_keep_56
    · refine lv_iconst (v := 0) hx hb dX12_keep_15 (by decide) ?_
      refine lv_istore_n (lv' := [(2, .int 0), (0, .ref h0), (1, .int 1)]) hx hb dX12_keep_16 rfl hl (by decide) rfl (fun ls hl => ?_)
      have hl0 : lv_has ls 3 [(0, .ref h0), (1, .int 1), (2, .int (nI 0))] := lv_sub hl [1, 2, 0] rfl
      refine lp_c_X12_keep_1 hx hb hown hwd hK (fun H locs ls g hP hD hS hl => ?_) 544 0 (by omega) _ _ ls (fun _ => 0) hP hD hS hl0
      refine lv_aload_n hx hb dX12_keep_48 rfl (lv_at hl 0 rfl) ?_
      refine va_get (D := (dC, dI)) (ci := 12) (v := .ref (u 3)) (C := RX12) (T := TX12) (N := 42) hx hb hwd inlX12 hown hK hP 0 rfl rfl 3 (by decide) (hwd _ kr7_5) (fun _ h9 => h9) rfl dX12_keep_49 ?_
      refine lv_iload_n hx hb dX12_keep_52 rfl (lv_at hl 1 rfl) ?_
      refine lv_iconst (v := 1) hx hb dX12_keep_53 (by decide) ?_
      refine va_zast hx hb hK hP hD hS 3 1 rfl rfl (vin (by decide)) dX12_keep_54 (fun H locs hP hD hS => ?_)
      have hP : va_P (dC, dI) vwCl [(h0, .inr (12, [.int 0, .ref (u 1), .ref (u 2), .ref (u 3), .ref (u 4), .int 0, .ref (u 6), .int 0, .int 0, .int 0, .int 0, .int 0, .int 0, .int (-1), .ref (u 14), .ref (u 15), .ref (u 16), .ref (u 17), .ref (u 18), .ref (u 19), .ref (u 20), .int 0, .ref (u 22), .int 0, .ref (u 24), .ref (u 25), .int 0, .ref (u 27), .ref (u 28), .ref (u 29), .ref (u 30), .int 0, .int 0, .int 0, .int 0, .int 0, .ref (u 36), .long 0, .ref (u 38), .ref (u 39), .ref (u 40), .ref (u 41)])), (u 1, .inl (cI, 544, .inl (upd (upd (upd (fun _ => 0) 8 1) 9 1) 17 (-1)))), (u 2, .inl (cI, 1632, .inl g)), (u 3, .inl (cZ, 3, .inl (upd (fun _ => 0) 1 1)))] H := hP
      have hD : va_D A [(h0, .inr (12, [.int 0, .ref (u 1), .ref (u 2), .ref (u 3), .ref (u 4), .int 0, .ref (u 6), .int 0, .int 0, .int 0, .int 0, .int 0, .int 0, .int (-1), .ref (u 14), .ref (u 15), .ref (u 16), .ref (u 17), .ref (u 18), .ref (u 19), .ref (u 20), .int 0, .ref (u 22), .int 0, .ref (u 24), .ref (u 25), .int 0, .ref (u 27), .ref (u 28), .ref (u 29), .ref (u 30), .int 0, .int 0, .int 0, .int 0, .int 0, .ref (u 36), .long 0, .ref (u 38), .ref (u 39), .ref (u 40), .ref (u 41)])), (u 1, .inl (cI, 544, .inl (upd (upd (upd (fun _ => 0) 8 1) 9 1) 17 (-1)))), (u 2, .inl (cI, 1632, .inl g)), (u 3, .inl (cZ, 3, .inl (upd (fun _ => 0) 1 1)))] := hD
      refine lv_iconst (v := 0) hx hb dX12_keep_55 (by decide) ?_
      exact W.iret (v := 0) hx hb hr (fun t ht hW => ⟨⟨0, (), rfl, (by simp only [Sp_keep, and_true, true_and, or_true, true_or, and_false, false_and, or_false, false_or, not_true_eq_false, not_false_eq_true, ne_eq, ki_lt, ki_le, ki_eq, kz_m8, kz_m7, kz_m6, kz_m4, kz_m3, kz_m2, kz_m1, kz_0, kz_1, kz_2, kz_3, kz_4, kz_5, kz_6, kz_7, kz_8, kz_9, kz_10, kz_11, kz_20, kz_60] at c3 c4 ⊢ <;> omega), trivial⟩, hS.F ht⟩) hS.2.2 dX12_keep_56
    · refine lv_iconst (v := 0) hx hb dX12_keep_15 (by decide) ?_
      refine lv_istore_n (lv' := [(2, .int 0), (0, .ref h0), (1, .int 2)]) hx hb dX12_keep_16 rfl hl (by decide) rfl (fun ls hl => ?_)
      have hl0 : lv_has ls 3 [(0, .ref h0), (1, .int 2), (2, .int (nI 0))] := lv_sub hl [1, 2, 0] rfl
      refine lp_c_X12_keep_2 hx hb hown hwd hK (fun H locs ls g hP hD hS hl => ?_) 544 0 (by omega) _ _ ls (fun _ => 0) hP hD hS hl0
      refine lv_aload_n hx hb dX12_keep_48 rfl (lv_at hl 0 rfl) ?_
      refine va_get (D := (dC, dI)) (ci := 12) (v := .ref (u 3)) (C := RX12) (T := TX12) (N := 42) hx hb hwd inlX12 hown hK hP 0 rfl rfl 3 (by decide) (hwd _ kr7_5) (fun _ h9 => h9) rfl dX12_keep_49 ?_
      refine lv_iload_n hx hb dX12_keep_52 rfl (lv_at hl 1 rfl) ?_
      refine lv_iconst (v := 1) hx hb dX12_keep_53 (by decide) ?_
      refine va_zast hx hb hK hP hD hS 3 1 rfl rfl (vin (by decide)) dX12_keep_54 (fun H locs hP hD hS => ?_)
      have hP : va_P (dC, dI) vwCl [(h0, .inr (12, [.int 0, .ref (u 1), .ref (u 2), .ref (u 3), .ref (u 4), .int 0, .ref (u 6), .int 0, .int 0, .int 0, .int 0, .int 0, .int 0, .int (-1), .ref (u 14), .ref (u 15), .ref (u 16), .ref (u 17), .ref (u 18), .ref (u 19), .ref (u 20), .int 0, .ref (u 22), .int 0, .ref (u 24), .ref (u 25), .int 0, .ref (u 27), .ref (u 28), .ref (u 29), .ref (u 30), .int 0, .int 0, .int 0, .int 0, .int 0, .ref (u 36), .long 0, .ref (u 38), .ref (u 39), .ref (u 40), .ref (u 41)])), (u 1, .inl (cI, 544, .inl (upd (upd (upd (fun _ => 0) 8 1) 9 1) 17 (-1)))), (u 2, .inl (cI, 1632, .inl g)), (u 3, .inl (cZ, 3, .inl (upd (fun _ => 0) 2 1)))] H := hP
      have hD : va_D A [(h0, .inr (12, [.int 0, .ref (u 1), .ref (u 2), .ref (u 3), .ref (u 4), .int 0, .ref (u 6), .int 0, .int 0, .int 0, .int 0, .int 0, .int 0, .int (-1), .ref (u 14), .ref (u 15), .ref (u 16), .ref (u 17), .ref (u 18), .ref (u 19), .ref (u 20), .int 0, .ref (u 22), .int 0, .ref (u 24), .ref (u 25), .int 0, .ref (u 27), .ref (u 28), .ref (u 29), .ref (u 30), .int 0, .int 0, .int 0, .int 0, .int 0, .ref (u 36), .long 0, .ref (u 38), .ref (u 39), .ref (u 40), .ref (u 41)])), (u 1, .inl (cI, 544, .inl (upd (upd (upd (fun _ => 0) 8 1) 9 1) 17 (-1)))), (u 2, .inl (cI, 1632, .inl g)), (u 3, .inl (cZ, 3, .inl (upd (fun _ => 0) 2 1)))] := hD
      refine lv_iconst (v := 0) hx hb dX12_keep_55 (by decide) ?_
      exact W.iret (v := 0) hx hb hr (fun t ht hW => ⟨⟨0, (), rfl, (by simp only [Sp_keep, and_true, true_and, or_true, true_or, and_false, false_and, or_false, false_or, not_true_eq_false, not_false_eq_true, ne_eq, ki_lt, ki_le, ki_eq, kz_m8, kz_m7, kz_m6, kz_m4, kz_m3, kz_m2, kz_m1, kz_0, kz_1, kz_2, kz_3, kz_4, kz_5, kz_6, kz_7, kz_8, kz_9, kz_10, kz_11, kz_20, kz_60] at c3 c4 ⊢ <;> omega), trivial⟩, hS.F ht⟩) hS.2.2 dX12_keep_56
set_option maxHeartbeats 4000000 in
set_option maxRecDepth 100000 in
theorem lp_c_X12_row_0 {p : Program} {l : Launch} {e : Env} {R : Room} {s : State} {m : MethodId} {args : Array Value} {below : List Frame} {meth : Method} {c : Code} {A : Nat → Prop} {cells slots : Nat} {Q : State → Prop} {dC : Nat → ClassId} {dI : Nat → Nat → Nat} {cI cZ cB cJ cM : ClassId} {h0 : Nat} {u : Nat → Nat} {p1 p2 : Int32}  {f14 : Nat → Int32} {f15 : Nat → Int32} (hx : p.tables.exec = Jvm.exec) (hb : c.code = cX12_row) (hown : s.vm.findClass RX12 = some m.cls) (hwd : ∀ wd ∈ wsL_law, wd.before args s = true) (hK : va_K (dC, dI) vwCl [(cI, .int), (cZ, .boolean), (cB, .byte), (cJ, .long), (cM, .object RX2)] s) (kx : ∀ (H : Heap) (locs : List Loc) (ls : Array Slot) (g : Nat → Int64), va_P (dC, dI) vwCl [(h0, .inr (12, [.int 0, .ref (u 1), .ref (u 2), .ref (u 3), .ref (u 4), .int 0, .ref (u 6), .int 0, .int 0, .int 0, .int 0, .int 0, .int 0, .int (-1), .ref (u 14), .ref (u 15), .ref (u 16), .ref (u 17), .ref (u 18), .ref (u 19), .ref (u 20), .int 0, .ref (u 22), .int 0, .ref (u 24), .ref (u 25), .int 0, .ref (u 27), .ref (u 28), .ref (u 29), .ref (u 30), .int 0, .int 0, .int 0, .int 0, .int 0, .ref (u 36), .long 0, .ref (u 38), .ref (u 39), .ref (u 40), .ref (u 41)])), (u 38, .inl (cI, 4, .inl f14)), (u 39, .inl (cI, 4, .inl f15)), (u 40, .inl (cJ, 240, .inr (.inl g)))] H → va_D A [(h0, .inr (12, [.int 0, .ref (u 1), .ref (u 2), .ref (u 3), .ref (u 4), .int 0, .ref (u 6), .int 0, .int 0, .int 0, .int 0, .int 0, .int 0, .int (-1), .ref (u 14), .ref (u 15), .ref (u 16), .ref (u 17), .ref (u 18), .ref (u 19), .ref (u 20), .int 0, .ref (u 22), .int 0, .ref (u 24), .ref (u 25), .int 0, .ref (u 27), .ref (u 28), .ref (u 29), .ref (u 30), .int 0, .int 0, .int 0, .int 0, .int 0, .ref (u 36), .long 0, .ref (u 38), .ref (u 39), .ref (u 40), .ref (u 41)])), (u 38, .inl (cI, 4, .inl f14)), (u 39, .inl (cI, 4, .inl f15)), (u 40, .inl (cJ, 240, .inr (.inl g)))] → va_S A s.heap H locs → lv_has ls 5 [(0, .ref h0), (1, .int 0), (2, .int p1), (3, .int p2), (4, .int (nI 60))] → W p l e R s m args below meth c H locs cells slots Q (F0 m 78 ls [])) : ∀ (d i : Nat), i + d = 60 → ∀ (H : Heap) (locs : List Loc) (ls : Array Slot) (g : Nat → Int64), va_P (dC, dI) vwCl [(h0, .inr (12, [.int 0, .ref (u 1), .ref (u 2), .ref (u 3), .ref (u 4), .int 0, .ref (u 6), .int 0, .int 0, .int 0, .int 0, .int 0, .int 0, .int (-1), .ref (u 14), .ref (u 15), .ref (u 16), .ref (u 17), .ref (u 18), .ref (u 19), .ref (u 20), .int 0, .ref (u 22), .int 0, .ref (u 24), .ref (u 25), .int 0, .ref (u 27), .ref (u 28), .ref (u 29), .ref (u 30), .int 0, .int 0, .int 0, .int 0, .int 0, .ref (u 36), .long 0, .ref (u 38), .ref (u 39), .ref (u 40), .ref (u 41)])), (u 38, .inl (cI, 4, .inl f14)), (u 39, .inl (cI, 4, .inl f15)), (u 40, .inl (cJ, 240, .inr (.inl g)))] H → va_D A [(h0, .inr (12, [.int 0, .ref (u 1), .ref (u 2), .ref (u 3), .ref (u 4), .int 0, .ref (u 6), .int 0, .int 0, .int 0, .int 0, .int 0, .int 0, .int (-1), .ref (u 14), .ref (u 15), .ref (u 16), .ref (u 17), .ref (u 18), .ref (u 19), .ref (u 20), .int 0, .ref (u 22), .int 0, .ref (u 24), .ref (u 25), .int 0, .ref (u 27), .ref (u 28), .ref (u 29), .ref (u 30), .int 0, .int 0, .int 0, .int 0, .int 0, .ref (u 36), .long 0, .ref (u 38), .ref (u 39), .ref (u 40), .ref (u 41)])), (u 38, .inl (cI, 4, .inl f14)), (u 39, .inl (cI, 4, .inl f15)), (u 40, .inl (cJ, 240, .inr (.inl g)))] → va_S A s.heap H locs → lv_has ls 5 [(0, .ref h0), (1, .int 0), (2, .int p1), (3, .int p2), (4, .int (nI i))] → W p l e R s m args below meth c H locs cells slots Q (F0 m 52 ls []) := by
  intro d
  induction d with
  | zero =>
    intro i h1 H locs ls g hP hD hS hl
    obtain rfl : i = 60 := by omega
    refine lv_iload hx hb dX12_row_52 (lv_at hl 4 rfl) ?_
    refine lv_bipush (v := 60) hx hb dX12_row_54 (by decide) ?_
    refine lv_icmp_ge (tgt := 78) hx hb dX12_row_56 (by decide) (fun c1 => ?_) (fun c1 => absurd c1 (by decide))
    exact kx H locs ls g hP hD hS hl
  | succ d ih =>
    intro i h1 H locs ls g hP hD hS hl
    have hi : i < 60 := by omega
    refine lv_iload hx hb dX12_row_52 (lv_at hl 4 rfl) ?_
    refine lv_bipush (v := 60) hx hb dX12_row_54 (by decide) ?_
    refine lv_icmp_ge (tgt := 78) hx hb dX12_row_56 (by decide) (fun c1 => absurd c1 (show ¬ nI 60 ≤ nI i from nI_ge hi (by decide))) (fun c1 => ?_)
    refine lv_aload_n hx hb dX12_row_59 rfl (lv_at hl 0 rfl) ?_
    refine va_get (D := (dC, dI)) (ci := 12) (v := .ref (u 40)) (C := RX12) (T := TX12) (N := 42) hx hb hwd inlX12 hown hK hP 0 rfl rfl 40 (by decide) (hwd _ kr8_2) (fun _ h9 => h9) rfl dX12_row_60 ?_
    refine lv_bipush (v := 60) hx hb dX12_row_63 (by decide) ?_
    refine lv_iload_n hx hb dX12_row_65 rfl (lv_at hl 1 rfl) ?_
    refine lv_imul hx hb dX12_row_66 ?_
    refine lv_topi (nm_r (e' := (0)) (by decide +kernel) ?_)
    refine lv_iload hx hb dX12_row_67 (lv_at hl 4 rfl) ?_
    refine lv_iadd hx hb dX12_row_69 ?_
    refine lv_topi (fun x116 ex116 => ?_)
    refine lv_lconst (v := 0) hx hb dX12_row_70 (by decide) ?_
    refine va_last hx hb hK hP hD hS 3 3 rfl rfl (by rw [ex116]; exact (show vp_in (nI 0 + nI i) 240 from vp_base 0 i 240 (by omega) (by decide))) dX12_row_71 (fun H locs hP hD hS => ?_)
    obtain ⟨f117, ef117⟩ : ∃ f, f = vp_updL g x116.toNatClampNeg 0 := ⟨_, rfl⟩
    have hP : va_P (dC, dI) vwCl [(h0, .inr (12, [.int 0, .ref (u 1), .ref (u 2), .ref (u 3), .ref (u 4), .int 0, .ref (u 6), .int 0, .int 0, .int 0, .int 0, .int 0, .int 0, .int (-1), .ref (u 14), .ref (u 15), .ref (u 16), .ref (u 17), .ref (u 18), .ref (u 19), .ref (u 20), .int 0, .ref (u 22), .int 0, .ref (u 24), .ref (u 25), .int 0, .ref (u 27), .ref (u 28), .ref (u 29), .ref (u 30), .int 0, .int 0, .int 0, .int 0, .int 0, .ref (u 36), .long 0, .ref (u 38), .ref (u 39), .ref (u 40), .ref (u 41)])), (u 38, .inl (cI, 4, .inl f14)), (u 39, .inl (cI, 4, .inl f15)), (u 40, .inl (cJ, 240, .inr (.inl f117)))] H := by rw [ef117]; exact hP
    have hD : va_D A [(h0, .inr (12, [.int 0, .ref (u 1), .ref (u 2), .ref (u 3), .ref (u 4), .int 0, .ref (u 6), .int 0, .int 0, .int 0, .int 0, .int 0, .int 0, .int (-1), .ref (u 14), .ref (u 15), .ref (u 16), .ref (u 17), .ref (u 18), .ref (u 19), .ref (u 20), .int 0, .ref (u 22), .int 0, .ref (u 24), .ref (u 25), .int 0, .ref (u 27), .ref (u 28), .ref (u 29), .ref (u 30), .int 0, .int 0, .int 0, .int 0, .int 0, .ref (u 36), .long 0, .ref (u 38), .ref (u 39), .ref (u 40), .ref (u 41)])), (u 38, .inl (cI, 4, .inl f14)), (u 39, .inl (cI, 4, .inl f15)), (u 40, .inl (cJ, 240, .inr (.inl f117)))] := by rw [ef117]; exact hD
    refine lv_iinc (v := nI (i + 1)) (lv' := [(4, .int (nI (i + 1))), (0, .ref h0), (1, .int 0), (2, .int p1), (3, .int p2)]) hx hb dX12_row_72 hl (k := 4) rfl (nI_1 i) (by decide) rfl (fun ls hl => ?_)
    refine lv_goto (tgt := 52) hx hb dX12_row_75 (by decide) ?_
    exact ih (i + 1) (by omega) H locs ls f117 hP hD hS (lv_sub hl [1, 2, 3, 4, 0] rfl)
set_option maxHeartbeats 4000000 in
set_option maxRecDepth 100000 in
theorem lp_c_X12_row_1 {p : Program} {l : Launch} {e : Env} {R : Room} {s : State} {m : MethodId} {args : Array Value} {below : List Frame} {meth : Method} {c : Code} {A : Nat → Prop} {cells slots : Nat} {Q : State → Prop} {dC : Nat → ClassId} {dI : Nat → Nat → Nat} {cI cZ cB cJ cM : ClassId} {h0 : Nat} {u : Nat → Nat} {p1 p2 : Int32}  {f16 : Nat → Int32} {f17 : Nat → Int32} (hx : p.tables.exec = Jvm.exec) (hb : c.code = cX12_row) (hown : s.vm.findClass RX12 = some m.cls) (hwd : ∀ wd ∈ wsL_law, wd.before args s = true) (hK : va_K (dC, dI) vwCl [(cI, .int), (cZ, .boolean), (cB, .byte), (cJ, .long), (cM, .object RX2)] s) (kx : ∀ (H : Heap) (locs : List Loc) (ls : Array Slot) (g : Nat → Int64), va_P (dC, dI) vwCl [(h0, .inr (12, [.int 0, .ref (u 1), .ref (u 2), .ref (u 3), .ref (u 4), .int 0, .ref (u 6), .int 0, .int 0, .int 0, .int 0, .int 0, .int 0, .int (-1), .ref (u 14), .ref (u 15), .ref (u 16), .ref (u 17), .ref (u 18), .ref (u 19), .ref (u 20), .int 0, .ref (u 22), .int 0, .ref (u 24), .ref (u 25), .int 0, .ref (u 27), .ref (u 28), .ref (u 29), .ref (u 30), .int 0, .int 0, .int 0, .int 0, .int 0, .ref (u 36), .long 0, .ref (u 38), .ref (u 39), .ref (u 40), .ref (u 41)])), (u 38, .inl (cI, 4, .inl f16)), (u 39, .inl (cI, 4, .inl f17)), (u 40, .inl (cJ, 240, .inr (.inl g)))] H → va_D A [(h0, .inr (12, [.int 0, .ref (u 1), .ref (u 2), .ref (u 3), .ref (u 4), .int 0, .ref (u 6), .int 0, .int 0, .int 0, .int 0, .int 0, .int 0, .int (-1), .ref (u 14), .ref (u 15), .ref (u 16), .ref (u 17), .ref (u 18), .ref (u 19), .ref (u 20), .int 0, .ref (u 22), .int 0, .ref (u 24), .ref (u 25), .int 0, .ref (u 27), .ref (u 28), .ref (u 29), .ref (u 30), .int 0, .int 0, .int 0, .int 0, .int 0, .ref (u 36), .long 0, .ref (u 38), .ref (u 39), .ref (u 40), .ref (u 41)])), (u 38, .inl (cI, 4, .inl f16)), (u 39, .inl (cI, 4, .inl f17)), (u 40, .inl (cJ, 240, .inr (.inl g)))] → va_S A s.heap H locs → lv_has ls 5 [(0, .ref h0), (1, .int 1), (2, .int p1), (3, .int p2), (4, .int (nI 60))] → W p l e R s m args below meth c H locs cells slots Q (F0 m 78 ls [])) : ∀ (d i : Nat), i + d = 60 → ∀ (H : Heap) (locs : List Loc) (ls : Array Slot) (g : Nat → Int64), va_P (dC, dI) vwCl [(h0, .inr (12, [.int 0, .ref (u 1), .ref (u 2), .ref (u 3), .ref (u 4), .int 0, .ref (u 6), .int 0, .int 0, .int 0, .int 0, .int 0, .int 0, .int (-1), .ref (u 14), .ref (u 15), .ref (u 16), .ref (u 17), .ref (u 18), .ref (u 19), .ref (u 20), .int 0, .ref (u 22), .int 0, .ref (u 24), .ref (u 25), .int 0, .ref (u 27), .ref (u 28), .ref (u 29), .ref (u 30), .int 0, .int 0, .int 0, .int 0, .int 0, .ref (u 36), .long 0, .ref (u 38), .ref (u 39), .ref (u 40), .ref (u 41)])), (u 38, .inl (cI, 4, .inl f16)), (u 39, .inl (cI, 4, .inl f17)), (u 40, .inl (cJ, 240, .inr (.inl g)))] H → va_D A [(h0, .inr (12, [.int 0, .ref (u 1), .ref (u 2), .ref (u 3), .ref (u 4), .int 0, .ref (u 6), .int 0, .int 0, .int 0, .int 0, .int 0, .int 0, .int (-1), .ref (u 14), .ref (u 15), .ref (u 16), .ref (u 17), .ref (u 18), .ref (u 19), .ref (u 20), .int 0, .ref (u 22), .int 0, .ref (u 24), .ref (u 25), .int 0, .ref (u 27), .ref (u 28), .ref (u 29), .ref (u 30), .int 0, .int 0, .int 0, .int 0, .int 0, .ref (u 36), .long 0, .ref (u 38), .ref (u 39), .ref (u 40), .ref (u 41)])), (u 38, .inl (cI, 4, .inl f16)), (u 39, .inl (cI, 4, .inl f17)), (u 40, .inl (cJ, 240, .inr (.inl g)))] → va_S A s.heap H locs → lv_has ls 5 [(0, .ref h0), (1, .int 1), (2, .int p1), (3, .int p2), (4, .int (nI i))] → W p l e R s m args below meth c H locs cells slots Q (F0 m 52 ls []) := by
  intro d
  induction d with
  | zero =>
    intro i h1 H locs ls g hP hD hS hl
    obtain rfl : i = 60 := by omega
    refine lv_iload hx hb dX12_row_52 (lv_at hl 4 rfl) ?_
    refine lv_bipush (v := 60) hx hb dX12_row_54 (by decide) ?_
    refine lv_icmp_ge (tgt := 78) hx hb dX12_row_56 (by decide) (fun c1 => ?_) (fun c1 => absurd c1 (by decide))
    exact kx H locs ls g hP hD hS hl
  | succ d ih =>
    intro i h1 H locs ls g hP hD hS hl
    have hi : i < 60 := by omega
    refine lv_iload hx hb dX12_row_52 (lv_at hl 4 rfl) ?_
    refine lv_bipush (v := 60) hx hb dX12_row_54 (by decide) ?_
    refine lv_icmp_ge (tgt := 78) hx hb dX12_row_56 (by decide) (fun c1 => absurd c1 (show ¬ nI 60 ≤ nI i from nI_ge hi (by decide))) (fun c1 => ?_)
    refine lv_aload_n hx hb dX12_row_59 rfl (lv_at hl 0 rfl) ?_
    refine va_get (D := (dC, dI)) (ci := 12) (v := .ref (u 40)) (C := RX12) (T := TX12) (N := 42) hx hb hwd inlX12 hown hK hP 0 rfl rfl 40 (by decide) (hwd _ kr8_2) (fun _ h9 => h9) rfl dX12_row_60 ?_
    refine lv_bipush (v := 60) hx hb dX12_row_63 (by decide) ?_
    refine lv_iload_n hx hb dX12_row_65 rfl (lv_at hl 1 rfl) ?_
    refine lv_imul hx hb dX12_row_66 ?_
    refine lv_topi (nm_r (e' := (60)) (by decide +kernel) ?_)
    refine lv_iload hx hb dX12_row_67 (lv_at hl 4 rfl) ?_
    refine lv_iadd hx hb dX12_row_69 ?_
    refine lv_topi (fun x118 ex118 => ?_)
    refine lv_lconst (v := 0) hx hb dX12_row_70 (by decide) ?_
    refine va_last hx hb hK hP hD hS 3 3 rfl rfl (by rw [ex118]; exact (show vp_in (nI 60 + nI i) 240 from vp_base 60 i 240 (by omega) (by decide))) dX12_row_71 (fun H locs hP hD hS => ?_)
    obtain ⟨f119, ef119⟩ : ∃ f, f = vp_updL g x118.toNatClampNeg 0 := ⟨_, rfl⟩
    have hP : va_P (dC, dI) vwCl [(h0, .inr (12, [.int 0, .ref (u 1), .ref (u 2), .ref (u 3), .ref (u 4), .int 0, .ref (u 6), .int 0, .int 0, .int 0, .int 0, .int 0, .int 0, .int (-1), .ref (u 14), .ref (u 15), .ref (u 16), .ref (u 17), .ref (u 18), .ref (u 19), .ref (u 20), .int 0, .ref (u 22), .int 0, .ref (u 24), .ref (u 25), .int 0, .ref (u 27), .ref (u 28), .ref (u 29), .ref (u 30), .int 0, .int 0, .int 0, .int 0, .int 0, .ref (u 36), .long 0, .ref (u 38), .ref (u 39), .ref (u 40), .ref (u 41)])), (u 38, .inl (cI, 4, .inl f16)), (u 39, .inl (cI, 4, .inl f17)), (u 40, .inl (cJ, 240, .inr (.inl f119)))] H := by rw [ef119]; exact hP
    have hD : va_D A [(h0, .inr (12, [.int 0, .ref (u 1), .ref (u 2), .ref (u 3), .ref (u 4), .int 0, .ref (u 6), .int 0, .int 0, .int 0, .int 0, .int 0, .int 0, .int (-1), .ref (u 14), .ref (u 15), .ref (u 16), .ref (u 17), .ref (u 18), .ref (u 19), .ref (u 20), .int 0, .ref (u 22), .int 0, .ref (u 24), .ref (u 25), .int 0, .ref (u 27), .ref (u 28), .ref (u 29), .ref (u 30), .int 0, .int 0, .int 0, .int 0, .int 0, .ref (u 36), .long 0, .ref (u 38), .ref (u 39), .ref (u 40), .ref (u 41)])), (u 38, .inl (cI, 4, .inl f16)), (u 39, .inl (cI, 4, .inl f17)), (u 40, .inl (cJ, 240, .inr (.inl f119)))] := by rw [ef119]; exact hD
    refine lv_iinc (v := nI (i + 1)) (lv' := [(4, .int (nI (i + 1))), (0, .ref h0), (1, .int 1), (2, .int p1), (3, .int p2)]) hx hb dX12_row_72 hl (k := 4) rfl (nI_1 i) (by decide) rfl (fun ls hl => ?_)
    refine lv_goto (tgt := 52) hx hb dX12_row_75 (by decide) ?_
    exact ih (i + 1) (by omega) H locs ls f119 hP hD hS (lv_sub hl [1, 2, 3, 4, 0] rfl)
set_option maxHeartbeats 4000000 in
set_option maxRecDepth 100000 in
theorem lp_c_X12_row_2 {p : Program} {l : Launch} {e : Env} {R : Room} {s : State} {m : MethodId} {args : Array Value} {below : List Frame} {meth : Method} {c : Code} {A : Nat → Prop} {cells slots : Nat} {Q : State → Prop} {dC : Nat → ClassId} {dI : Nat → Nat → Nat} {cI cZ cB cJ cM : ClassId} {h0 : Nat} {u : Nat → Nat} {p1 p2 : Int32}  {f18 : Nat → Int32} {f19 : Nat → Int32} (hx : p.tables.exec = Jvm.exec) (hb : c.code = cX12_row) (hown : s.vm.findClass RX12 = some m.cls) (hwd : ∀ wd ∈ wsL_law, wd.before args s = true) (hK : va_K (dC, dI) vwCl [(cI, .int), (cZ, .boolean), (cB, .byte), (cJ, .long), (cM, .object RX2)] s) (kx : ∀ (H : Heap) (locs : List Loc) (ls : Array Slot) (g : Nat → Int64), va_P (dC, dI) vwCl [(h0, .inr (12, [.int 0, .ref (u 1), .ref (u 2), .ref (u 3), .ref (u 4), .int 0, .ref (u 6), .int 0, .int 0, .int 0, .int 0, .int 0, .int 0, .int (-1), .ref (u 14), .ref (u 15), .ref (u 16), .ref (u 17), .ref (u 18), .ref (u 19), .ref (u 20), .int 0, .ref (u 22), .int 0, .ref (u 24), .ref (u 25), .int 0, .ref (u 27), .ref (u 28), .ref (u 29), .ref (u 30), .int 0, .int 0, .int 0, .int 0, .int 0, .ref (u 36), .long 0, .ref (u 38), .ref (u 39), .ref (u 40), .ref (u 41)])), (u 38, .inl (cI, 4, .inl f18)), (u 39, .inl (cI, 4, .inl f19)), (u 40, .inl (cJ, 240, .inr (.inl g)))] H → va_D A [(h0, .inr (12, [.int 0, .ref (u 1), .ref (u 2), .ref (u 3), .ref (u 4), .int 0, .ref (u 6), .int 0, .int 0, .int 0, .int 0, .int 0, .int 0, .int (-1), .ref (u 14), .ref (u 15), .ref (u 16), .ref (u 17), .ref (u 18), .ref (u 19), .ref (u 20), .int 0, .ref (u 22), .int 0, .ref (u 24), .ref (u 25), .int 0, .ref (u 27), .ref (u 28), .ref (u 29), .ref (u 30), .int 0, .int 0, .int 0, .int 0, .int 0, .ref (u 36), .long 0, .ref (u 38), .ref (u 39), .ref (u 40), .ref (u 41)])), (u 38, .inl (cI, 4, .inl f18)), (u 39, .inl (cI, 4, .inl f19)), (u 40, .inl (cJ, 240, .inr (.inl g)))] → va_S A s.heap H locs → lv_has ls 5 [(0, .ref h0), (1, .int 2), (2, .int p1), (3, .int p2), (4, .int (nI 60))] → W p l e R s m args below meth c H locs cells slots Q (F0 m 78 ls [])) : ∀ (d i : Nat), i + d = 60 → ∀ (H : Heap) (locs : List Loc) (ls : Array Slot) (g : Nat → Int64), va_P (dC, dI) vwCl [(h0, .inr (12, [.int 0, .ref (u 1), .ref (u 2), .ref (u 3), .ref (u 4), .int 0, .ref (u 6), .int 0, .int 0, .int 0, .int 0, .int 0, .int 0, .int (-1), .ref (u 14), .ref (u 15), .ref (u 16), .ref (u 17), .ref (u 18), .ref (u 19), .ref (u 20), .int 0, .ref (u 22), .int 0, .ref (u 24), .ref (u 25), .int 0, .ref (u 27), .ref (u 28), .ref (u 29), .ref (u 30), .int 0, .int 0, .int 0, .int 0, .int 0, .ref (u 36), .long 0, .ref (u 38), .ref (u 39), .ref (u 40), .ref (u 41)])), (u 38, .inl (cI, 4, .inl f18)), (u 39, .inl (cI, 4, .inl f19)), (u 40, .inl (cJ, 240, .inr (.inl g)))] H → va_D A [(h0, .inr (12, [.int 0, .ref (u 1), .ref (u 2), .ref (u 3), .ref (u 4), .int 0, .ref (u 6), .int 0, .int 0, .int 0, .int 0, .int 0, .int 0, .int (-1), .ref (u 14), .ref (u 15), .ref (u 16), .ref (u 17), .ref (u 18), .ref (u 19), .ref (u 20), .int 0, .ref (u 22), .int 0, .ref (u 24), .ref (u 25), .int 0, .ref (u 27), .ref (u 28), .ref (u 29), .ref (u 30), .int 0, .int 0, .int 0, .int 0, .int 0, .ref (u 36), .long 0, .ref (u 38), .ref (u 39), .ref (u 40), .ref (u 41)])), (u 38, .inl (cI, 4, .inl f18)), (u 39, .inl (cI, 4, .inl f19)), (u 40, .inl (cJ, 240, .inr (.inl g)))] → va_S A s.heap H locs → lv_has ls 5 [(0, .ref h0), (1, .int 2), (2, .int p1), (3, .int p2), (4, .int (nI i))] → W p l e R s m args below meth c H locs cells slots Q (F0 m 52 ls []) := by
  intro d
  induction d with
  | zero =>
    intro i h1 H locs ls g hP hD hS hl
    obtain rfl : i = 60 := by omega
    refine lv_iload hx hb dX12_row_52 (lv_at hl 4 rfl) ?_
    refine lv_bipush (v := 60) hx hb dX12_row_54 (by decide) ?_
    refine lv_icmp_ge (tgt := 78) hx hb dX12_row_56 (by decide) (fun c1 => ?_) (fun c1 => absurd c1 (by decide))
    exact kx H locs ls g hP hD hS hl
  | succ d ih =>
    intro i h1 H locs ls g hP hD hS hl
    have hi : i < 60 := by omega
    refine lv_iload hx hb dX12_row_52 (lv_at hl 4 rfl) ?_
    refine lv_bipush (v := 60) hx hb dX12_row_54 (by decide) ?_
    refine lv_icmp_ge (tgt := 78) hx hb dX12_row_56 (by decide) (fun c1 => absurd c1 (show ¬ nI 60 ≤ nI i from nI_ge hi (by decide))) (fun c1 => ?_)
    refine lv_aload_n hx hb dX12_row_59 rfl (lv_at hl 0 rfl) ?_
    refine va_get (D := (dC, dI)) (ci := 12) (v := .ref (u 40)) (C := RX12) (T := TX12) (N := 42) hx hb hwd inlX12 hown hK hP 0 rfl rfl 40 (by decide) (hwd _ kr8_2) (fun _ h9 => h9) rfl dX12_row_60 ?_
    refine lv_bipush (v := 60) hx hb dX12_row_63 (by decide) ?_
    refine lv_iload_n hx hb dX12_row_65 rfl (lv_at hl 1 rfl) ?_
    refine lv_imul hx hb dX12_row_66 ?_
    refine lv_topi (nm_r (e' := (120)) (by decide +kernel) ?_)
    refine lv_iload hx hb dX12_row_67 (lv_at hl 4 rfl) ?_
    refine lv_iadd hx hb dX12_row_69 ?_
    refine lv_topi (fun x120 ex120 => ?_)
    refine lv_lconst (v := 0) hx hb dX12_row_70 (by decide) ?_
    refine va_last hx hb hK hP hD hS 3 3 rfl rfl (by rw [ex120]; exact (show vp_in (nI 120 + nI i) 240 from vp_base 120 i 240 (by omega) (by decide))) dX12_row_71 (fun H locs hP hD hS => ?_)
    obtain ⟨f121, ef121⟩ : ∃ f, f = vp_updL g x120.toNatClampNeg 0 := ⟨_, rfl⟩
    have hP : va_P (dC, dI) vwCl [(h0, .inr (12, [.int 0, .ref (u 1), .ref (u 2), .ref (u 3), .ref (u 4), .int 0, .ref (u 6), .int 0, .int 0, .int 0, .int 0, .int 0, .int 0, .int (-1), .ref (u 14), .ref (u 15), .ref (u 16), .ref (u 17), .ref (u 18), .ref (u 19), .ref (u 20), .int 0, .ref (u 22), .int 0, .ref (u 24), .ref (u 25), .int 0, .ref (u 27), .ref (u 28), .ref (u 29), .ref (u 30), .int 0, .int 0, .int 0, .int 0, .int 0, .ref (u 36), .long 0, .ref (u 38), .ref (u 39), .ref (u 40), .ref (u 41)])), (u 38, .inl (cI, 4, .inl f18)), (u 39, .inl (cI, 4, .inl f19)), (u 40, .inl (cJ, 240, .inr (.inl f121)))] H := by rw [ef121]; exact hP
    have hD : va_D A [(h0, .inr (12, [.int 0, .ref (u 1), .ref (u 2), .ref (u 3), .ref (u 4), .int 0, .ref (u 6), .int 0, .int 0, .int 0, .int 0, .int 0, .int 0, .int (-1), .ref (u 14), .ref (u 15), .ref (u 16), .ref (u 17), .ref (u 18), .ref (u 19), .ref (u 20), .int 0, .ref (u 22), .int 0, .ref (u 24), .ref (u 25), .int 0, .ref (u 27), .ref (u 28), .ref (u 29), .ref (u 30), .int 0, .int 0, .int 0, .int 0, .int 0, .ref (u 36), .long 0, .ref (u 38), .ref (u 39), .ref (u 40), .ref (u 41)])), (u 38, .inl (cI, 4, .inl f18)), (u 39, .inl (cI, 4, .inl f19)), (u 40, .inl (cJ, 240, .inr (.inl f121)))] := by rw [ef121]; exact hD
    refine lv_iinc (v := nI (i + 1)) (lv' := [(4, .int (nI (i + 1))), (0, .ref h0), (1, .int 2), (2, .int p1), (3, .int p2)]) hx hb dX12_row_72 hl (k := 4) rfl (nI_1 i) (by decide) rfl (fun ls hl => ?_)
    refine lv_goto (tgt := 52) hx hb dX12_row_75 (by decide) ?_
    exact ih (i + 1) (by omega) H locs ls f121 hP hD hS (lv_sub hl [1, 2, 3, 4, 0] rfl)
set_option maxHeartbeats 4000000 in
set_option maxRecDepth 100000 in
theorem lp_c_X12_row_3 {p : Program} {l : Launch} {e : Env} {R : Room} {s : State} {m : MethodId} {args : Array Value} {below : List Frame} {meth : Method} {c : Code} {A : Nat → Prop} {cells slots : Nat} {Q : State → Prop} {dC : Nat → ClassId} {dI : Nat → Nat → Nat} {cI cZ cB cJ cM : ClassId} {h0 : Nat} {u : Nat → Nat} {p1 p2 : Int32}  {f20 : Nat → Int32} {f21 : Nat → Int32} (hx : p.tables.exec = Jvm.exec) (hb : c.code = cX12_row) (hown : s.vm.findClass RX12 = some m.cls) (hwd : ∀ wd ∈ wsL_law, wd.before args s = true) (hK : va_K (dC, dI) vwCl [(cI, .int), (cZ, .boolean), (cB, .byte), (cJ, .long), (cM, .object RX2)] s) (kx : ∀ (H : Heap) (locs : List Loc) (ls : Array Slot) (g : Nat → Int64), va_P (dC, dI) vwCl [(h0, .inr (12, [.int 0, .ref (u 1), .ref (u 2), .ref (u 3), .ref (u 4), .int 0, .ref (u 6), .int 0, .int 0, .int 0, .int 0, .int 0, .int 0, .int (-1), .ref (u 14), .ref (u 15), .ref (u 16), .ref (u 17), .ref (u 18), .ref (u 19), .ref (u 20), .int 0, .ref (u 22), .int 0, .ref (u 24), .ref (u 25), .int 0, .ref (u 27), .ref (u 28), .ref (u 29), .ref (u 30), .int 0, .int 0, .int 0, .int 0, .int 0, .ref (u 36), .long 0, .ref (u 38), .ref (u 39), .ref (u 40), .ref (u 41)])), (u 38, .inl (cI, 4, .inl f20)), (u 39, .inl (cI, 4, .inl f21)), (u 40, .inl (cJ, 240, .inr (.inl g)))] H → va_D A [(h0, .inr (12, [.int 0, .ref (u 1), .ref (u 2), .ref (u 3), .ref (u 4), .int 0, .ref (u 6), .int 0, .int 0, .int 0, .int 0, .int 0, .int 0, .int (-1), .ref (u 14), .ref (u 15), .ref (u 16), .ref (u 17), .ref (u 18), .ref (u 19), .ref (u 20), .int 0, .ref (u 22), .int 0, .ref (u 24), .ref (u 25), .int 0, .ref (u 27), .ref (u 28), .ref (u 29), .ref (u 30), .int 0, .int 0, .int 0, .int 0, .int 0, .ref (u 36), .long 0, .ref (u 38), .ref (u 39), .ref (u 40), .ref (u 41)])), (u 38, .inl (cI, 4, .inl f20)), (u 39, .inl (cI, 4, .inl f21)), (u 40, .inl (cJ, 240, .inr (.inl g)))] → va_S A s.heap H locs → lv_has ls 5 [(0, .ref h0), (1, .int 3), (2, .int p1), (3, .int p2), (4, .int (nI 60))] → W p l e R s m args below meth c H locs cells slots Q (F0 m 78 ls [])) : ∀ (d i : Nat), i + d = 60 → ∀ (H : Heap) (locs : List Loc) (ls : Array Slot) (g : Nat → Int64), va_P (dC, dI) vwCl [(h0, .inr (12, [.int 0, .ref (u 1), .ref (u 2), .ref (u 3), .ref (u 4), .int 0, .ref (u 6), .int 0, .int 0, .int 0, .int 0, .int 0, .int 0, .int (-1), .ref (u 14), .ref (u 15), .ref (u 16), .ref (u 17), .ref (u 18), .ref (u 19), .ref (u 20), .int 0, .ref (u 22), .int 0, .ref (u 24), .ref (u 25), .int 0, .ref (u 27), .ref (u 28), .ref (u 29), .ref (u 30), .int 0, .int 0, .int 0, .int 0, .int 0, .ref (u 36), .long 0, .ref (u 38), .ref (u 39), .ref (u 40), .ref (u 41)])), (u 38, .inl (cI, 4, .inl f20)), (u 39, .inl (cI, 4, .inl f21)), (u 40, .inl (cJ, 240, .inr (.inl g)))] H → va_D A [(h0, .inr (12, [.int 0, .ref (u 1), .ref (u 2), .ref (u 3), .ref (u 4), .int 0, .ref (u 6), .int 0, .int 0, .int 0, .int 0, .int 0, .int 0, .int (-1), .ref (u 14), .ref (u 15), .ref (u 16), .ref (u 17), .ref (u 18), .ref (u 19), .ref (u 20), .int 0, .ref (u 22), .int 0, .ref (u 24), .ref (u 25), .int 0, .ref (u 27), .ref (u 28), .ref (u 29), .ref (u 30), .int 0, .int 0, .int 0, .int 0, .int 0, .ref (u 36), .long 0, .ref (u 38), .ref (u 39), .ref (u 40), .ref (u 41)])), (u 38, .inl (cI, 4, .inl f20)), (u 39, .inl (cI, 4, .inl f21)), (u 40, .inl (cJ, 240, .inr (.inl g)))] → va_S A s.heap H locs → lv_has ls 5 [(0, .ref h0), (1, .int 3), (2, .int p1), (3, .int p2), (4, .int (nI i))] → W p l e R s m args below meth c H locs cells slots Q (F0 m 52 ls []) := by
  intro d
  induction d with
  | zero =>
    intro i h1 H locs ls g hP hD hS hl
    obtain rfl : i = 60 := by omega
    refine lv_iload hx hb dX12_row_52 (lv_at hl 4 rfl) ?_
    refine lv_bipush (v := 60) hx hb dX12_row_54 (by decide) ?_
    refine lv_icmp_ge (tgt := 78) hx hb dX12_row_56 (by decide) (fun c1 => ?_) (fun c1 => absurd c1 (by decide))
    exact kx H locs ls g hP hD hS hl
  | succ d ih =>
    intro i h1 H locs ls g hP hD hS hl
    have hi : i < 60 := by omega
    refine lv_iload hx hb dX12_row_52 (lv_at hl 4 rfl) ?_
    refine lv_bipush (v := 60) hx hb dX12_row_54 (by decide) ?_
    refine lv_icmp_ge (tgt := 78) hx hb dX12_row_56 (by decide) (fun c1 => absurd c1 (show ¬ nI 60 ≤ nI i from nI_ge hi (by decide))) (fun c1 => ?_)
    refine lv_aload_n hx hb dX12_row_59 rfl (lv_at hl 0 rfl) ?_
    refine va_get (D := (dC, dI)) (ci := 12) (v := .ref (u 40)) (C := RX12) (T := TX12) (N := 42) hx hb hwd inlX12 hown hK hP 0 rfl rfl 40 (by decide) (hwd _ kr8_2) (fun _ h9 => h9) rfl dX12_row_60 ?_
    refine lv_bipush (v := 60) hx hb dX12_row_63 (by decide) ?_
    refine lv_iload_n hx hb dX12_row_65 rfl (lv_at hl 1 rfl) ?_
    refine lv_imul hx hb dX12_row_66 ?_
    refine lv_topi (nm_r (e' := (180)) (by decide +kernel) ?_)
    refine lv_iload hx hb dX12_row_67 (lv_at hl 4 rfl) ?_
    refine lv_iadd hx hb dX12_row_69 ?_
    refine lv_topi (fun x122 ex122 => ?_)
    refine lv_lconst (v := 0) hx hb dX12_row_70 (by decide) ?_
    refine va_last hx hb hK hP hD hS 3 3 rfl rfl (by rw [ex122]; exact (show vp_in (nI 180 + nI i) 240 from vp_base 180 i 240 (by omega) (by decide))) dX12_row_71 (fun H locs hP hD hS => ?_)
    obtain ⟨f123, ef123⟩ : ∃ f, f = vp_updL g x122.toNatClampNeg 0 := ⟨_, rfl⟩
    have hP : va_P (dC, dI) vwCl [(h0, .inr (12, [.int 0, .ref (u 1), .ref (u 2), .ref (u 3), .ref (u 4), .int 0, .ref (u 6), .int 0, .int 0, .int 0, .int 0, .int 0, .int 0, .int (-1), .ref (u 14), .ref (u 15), .ref (u 16), .ref (u 17), .ref (u 18), .ref (u 19), .ref (u 20), .int 0, .ref (u 22), .int 0, .ref (u 24), .ref (u 25), .int 0, .ref (u 27), .ref (u 28), .ref (u 29), .ref (u 30), .int 0, .int 0, .int 0, .int 0, .int 0, .ref (u 36), .long 0, .ref (u 38), .ref (u 39), .ref (u 40), .ref (u 41)])), (u 38, .inl (cI, 4, .inl f20)), (u 39, .inl (cI, 4, .inl f21)), (u 40, .inl (cJ, 240, .inr (.inl f123)))] H := by rw [ef123]; exact hP
    have hD : va_D A [(h0, .inr (12, [.int 0, .ref (u 1), .ref (u 2), .ref (u 3), .ref (u 4), .int 0, .ref (u 6), .int 0, .int 0, .int 0, .int 0, .int 0, .int 0, .int (-1), .ref (u 14), .ref (u 15), .ref (u 16), .ref (u 17), .ref (u 18), .ref (u 19), .ref (u 20), .int 0, .ref (u 22), .int 0, .ref (u 24), .ref (u 25), .int 0, .ref (u 27), .ref (u 28), .ref (u 29), .ref (u 30), .int 0, .int 0, .int 0, .int 0, .int 0, .ref (u 36), .long 0, .ref (u 38), .ref (u 39), .ref (u 40), .ref (u 41)])), (u 38, .inl (cI, 4, .inl f20)), (u 39, .inl (cI, 4, .inl f21)), (u 40, .inl (cJ, 240, .inr (.inl f123)))] := by rw [ef123]; exact hD
    refine lv_iinc (v := nI (i + 1)) (lv' := [(4, .int (nI (i + 1))), (0, .ref h0), (1, .int 3), (2, .int p1), (3, .int p2)]) hx hb dX12_row_72 hl (k := 4) rfl (nI_1 i) (by decide) rfl (fun ls hl => ?_)
    refine lv_goto (tgt := 52) hx hb dX12_row_75 (by decide) ?_
    exact ih (i + 1) (by omega) H locs ls f123 hP hD hS (lv_sub hl [1, 2, 3, 4, 0] rfl)
set_option maxHeartbeats 4000000 in
set_option maxRecDepth 100000 in
theorem c_X12_row (l : Launch) (dC : Nat → ClassId) (dI : Nat → Nat → Nat) (cI cZ cB cJ cM : ClassId) (h0 : Nat) (u : Nat → Nat) (p0 p1 p2 : Int32) (sz : Nat) : Met l yX12_row (kw yX12_row cX12_row 5 (some .int)) ({ frames := 2, cells := 0, slots := 0, locals := 45 }) (va_Pc [.ref h0, .int p0, .int p1, .int p2] (kPre dC dI [(cI, .int), (cZ, .boolean), (cB, .byte), (cJ, .long), (cM, .object RX2)] [(h0, .inr (12, [.int 0, .ref (u 1), .ref (u 2), .ref (u 3), .ref (u 4), .int 0, .ref (u 6), .int 0, .int 0, .int 0, .int 0, .int 0, .int 0, .int (-1), .ref (u 14), .ref (u 15), .ref (u 16), .ref (u 17), .ref (u 18), .ref (u 19), .ref (u 20), .int 0, .ref (u 22), .int 0, .ref (u 24), .ref (u 25), .int 0, .ref (u 27), .ref (u 28), .ref (u 29), .ref (u 30), .int 0, .int 0, .int 0, .int 0, .int 0, .ref (u 36), .long 0, .ref (u 38), .ref (u 39), .ref (u 40), .ref (u 41)])), (u 38, .inl (cI, 4, .inl (upd (upd (upd (upd (fun _ => 0) 0 (-1)) 1 (-1)) 2 (-1)) 3 (-1)))), (u 39, .inl (cI, 4, .inl (fun _ => 0))), (u 40, .inl (cJ, 240, .inr (.inl (fun _ => 0))))] sz)) (va_Qi (fun (r : Int32) (_ : Unit) => Sp_row p0 p1 p2 r) (fun _ _ => True) (va_A [(h0, .inr (12, [.int 0, .ref (u 1), .ref (u 2), .ref (u 3), .ref (u 4), .int 0, .ref (u 6), .int 0, .int 0, .int 0, .int 0, .int 0, .int 0, .int (-1), .ref (u 14), .ref (u 15), .ref (u 16), .ref (u 17), .ref (u 18), .ref (u 19), .ref (u 20), .int 0, .ref (u 22), .int 0, .ref (u 24), .ref (u 25), .int 0, .ref (u 27), .ref (u 28), .ref (u 29), .ref (u 30), .int 0, .int 0, .int 0, .int 0, .int 0, .ref (u 36), .long 0, .ref (u 38), .ref (u 39), .ref (u 40), .ref (u 41)])), (u 38, .inl (cI, 4, .inl (upd (upd (upd (upd (fun _ => 0) 0 (-1)) 1 (-1)) 2 (-1)) 3 (-1)))), (u 39, .inl (cI, 4, .inl (fun _ => 0))), (u 40, .inl (cJ, 240, .inr (.inl (fun _ => 0))))] sz)) 0 0 (va_A [(h0, .inr (12, [.int 0, .ref (u 1), .ref (u 2), .ref (u 3), .ref (u 4), .int 0, .ref (u 6), .int 0, .int 0, .int 0, .int 0, .int 0, .int 0, .int (-1), .ref (u 14), .ref (u 15), .ref (u 16), .ref (u 17), .ref (u 18), .ref (u 19), .ref (u 20), .int 0, .ref (u 22), .int 0, .ref (u 24), .ref (u 25), .int 0, .ref (u 27), .ref (u 28), .ref (u 29), .ref (u 30), .int 0, .int 0, .int 0, .int 0, .int 0, .ref (u 36), .long 0, .ref (u 38), .ref (u 39), .ref (u 40), .ref (u 41)])), (u 38, .inl (cI, 4, .inl (upd (upd (upd (upd (fun _ => 0) 0 (-1)) 1 (-1)) 2 (-1)) 3 (-1)))), (u 39, .inl (cI, 4, .inl (fun _ => 0))), (u 40, .inl (cJ, 240, .inr (.inl (fun _ => 0))))] sz) := by
  refine kEnter (by decide) (Nat.le_of_ble_eq_true rfl) ?_
  intro p e s m below meth c ls hx hb hr hml hown hlocks hin hwd hsz hP hK hD hl
  subst hsz
  generalize hAe : va_A [(h0, .inr (12, [.int 0, .ref (u 1), .ref (u 2), .ref (u 3), .ref (u 4), .int 0, .ref (u 6), .int 0, .int 0, .int 0, .int 0, .int 0, .int 0, .int (-1), .ref (u 14), .ref (u 15), .ref (u 16), .ref (u 17), .ref (u 18), .ref (u 19), .ref (u 20), .int 0, .ref (u 22), .int 0, .ref (u 24), .ref (u 25), .int 0, .ref (u 27), .ref (u 28), .ref (u 29), .ref (u 30), .int 0, .int 0, .int 0, .int 0, .int 0, .ref (u 36), .long 0, .ref (u 38), .ref (u 39), .ref (u 40), .ref (u 41)])), (u 38, .inl (cI, 4, .inl (upd (upd (upd (upd (fun _ => 0) 0 (-1)) 1 (-1)) 2 (-1)) 3 (-1)))), (u 39, .inl (cI, 4, .inl (fun _ => 0))), (u 40, .inl (cJ, 240, .inr (.inl (fun _ => 0))))] s.heap.size = A at hD ⊢
  have hA : ∀ q : Nat, s.heap.size ≤ q → A q := fun q h => by rw [← hAe]; exact Or.inr h
  have hS : va_S A s.heap s.heap [] := va_S.rf
  have hl : lv_has ls 5 [(0, .ref h0), (1, .int p0), (2, .int p1), (3, .int p2)] := hl
  refine lv_iload_n hx hb dX12_row_0 rfl (lv_at hl 1 rfl) ?_
  have hPc := hP.sub (ws' := []) [] rfl
  have hDc := hD.sub (ws' := []) [] (by decide) rfl
  have hFc := va_free (wc := []) hD hS hA [] rfl
  refine va_calli (va_runS (As := [.int p0]) (rest := []) ⟨hx, hb, hml, hown, hwd⟩ (c_X12_isSlot l dC dI cI cZ cB cJ cM p0 s.heap.size) (cwS 1 hwd (gS kr28_6 kr28_7 kr1_5 kr28_8) rfl rfl rfl (by decide +kernel) ⟨Nat.le_of_ble_eq_true rfl, Nat.le_of_ble_eq_true rfl⟩) (kPreS hPc hK hDc) rfl rfl hl.1 rfl (lv_room (Nat.le_of_ble_eq_true rfl)) dX12_row_1 ⟨Nat.le_of_ble_eq_true rfl, Nat.le_of_ble_eq_true rfl⟩) hS (fun q _ h => hFc q h) hFc (fun r1 u2 t H1 locs ht9 hvm hw hB hz1 hk1 hS => ?_)
  obtain ⟨hP1, hD1⟩ := hB
  rw [ht9] at hP1
  obtain ⟨hP, hD⟩ := va_join (wr := [(h0, .inr (12, [.int 0, .ref (u 1), .ref (u 2), .ref (u 3), .ref (u 4), .int 0, .ref (u 6), .int 0, .int 0, .int 0, .int 0, .int 0, .int 0, .int (-1), .ref (u 14), .ref (u 15), .ref (u 16), .ref (u 17), .ref (u 18), .ref (u 19), .ref (u 20), .int 0, .ref (u 22), .int 0, .ref (u 24), .ref (u 25), .int 0, .ref (u 27), .ref (u 28), .ref (u 29), .ref (u 30), .int 0, .int 0, .int 0, .int 0, .int 0, .ref (u 36), .long 0, .ref (u 38), .ref (u 39), .ref (u 40), .ref (u 41)])), (u 38, .inl (cI, 4, .inl (upd (upd (upd (upd (fun _ => 0) 0 (-1)) 1 (-1)) 2 (-1)) 3 (-1)))), (u 39, .inl (cI, 4, .inl (fun _ => 0))), (u 40, .inl (cJ, 240, .inr (.inl (fun _ => 0))))]) (w1 := []) hP hD [] [0, 1, 2, 3] rfl rfl (by decide) (by decide) hk1 hFc hP1 hD1
  generalize H1 = H at hP hS ⊢
  have hP : va_P (dC, dI) vwCl [(h0, .inr (12, [.int 0, .ref (u 1), .ref (u 2), .ref (u 3), .ref (u 4), .int 0, .ref (u 6), .int 0, .int 0, .int 0, .int 0, .int 0, .int 0, .int (-1), .ref (u 14), .ref (u 15), .ref (u 16), .ref (u 17), .ref (u 18), .ref (u 19), .ref (u 20), .int 0, .ref (u 22), .int 0, .ref (u 24), .ref (u 25), .int 0, .ref (u 27), .ref (u 28), .ref (u 29), .ref (u 30), .int 0, .int 0, .int 0, .int 0, .int 0, .ref (u 36), .long 0, .ref (u 38), .ref (u 39), .ref (u 40), .ref (u 41)])), (u 38, .inl (cI, 4, .inl (upd (upd (upd (upd (fun _ => 0) 0 (-1)) 1 (-1)) 2 (-1)) 3 (-1)))), (u 39, .inl (cI, 4, .inl (fun _ => 0))), (u 40, .inl (cJ, 240, .inr (.inl (fun _ => 0))))] H := hP
  have hD : va_D A [(h0, .inr (12, [.int 0, .ref (u 1), .ref (u 2), .ref (u 3), .ref (u 4), .int 0, .ref (u 6), .int 0, .int 0, .int 0, .int 0, .int 0, .int 0, .int (-1), .ref (u 14), .ref (u 15), .ref (u 16), .ref (u 17), .ref (u 18), .ref (u 19), .ref (u 20), .int 0, .ref (u 22), .int 0, .ref (u 24), .ref (u 25), .int 0, .ref (u 27), .ref (u 28), .ref (u 29), .ref (u 30), .int 0, .int 0, .int 0, .int 0, .int 0, .ref (u 36), .long 0, .ref (u 38), .ref (u 39), .ref (u 40), .ref (u 41)])), (u 38, .inl (cI, 4, .inl (upd (upd (upd (upd (fun _ => 0) 0 (-1)) 1 (-1)) 2 (-1)) 3 (-1)))), (u 39, .inl (cI, 4, .inl (fun _ => 0))), (u 40, .inl (cJ, 240, .inr (.inl (fun _ => 0))))] := hD
  rcases hw with ⟨rfl, c3, c4⟩ | ⟨rfl, c3⟩
  · refine lv_if_eq (tgt := 25) hx hb dX12_row_4 (by decide) (fun c5 => absurd c5 (by decide)) (fun c5 => ?_)
    refine lv_iload_n hx hb dX12_row_7 rfl (lv_at hl 2 rfl) ?_
    refine lv_i2l hx hb dX12_row_8 rfl ?_
    refine lv_lconst (v := 0) hx hb dX12_row_9 (by decide) ?_
    refine lv_ldc2 (v := 3) hx hb hown (hwd _ kr28_9) dX12_row_10 ?_
    have hPc := hP.sub (ws' := []) [] rfl
    have hDc := hD.sub (ws' := []) [] (by decide) rfl
    have hFc := va_free (wc := []) hD hS hA [] rfl
    refine va_calli (va_runS (As := [.long p1.toInt64, .long 0, .long 3]) (rest := []) ⟨hx, hb, hml, hown, hwd⟩ (c_X12_in l dC dI cI cZ cB cJ cM p1.toInt64 0 3 H.size) (cwS 3 hwd (gS kr9_10 kr9_11 kr1_5 kr9_12) rfl rfl rfl (by decide +kernel) ⟨Nat.le_of_ble_eq_true rfl, Nat.le_of_ble_eq_true rfl⟩) (kPreS hPc hK hDc) rfl rfl hl.1 rfl (lv_room (Nat.le_of_ble_eq_true rfl)) dX12_row_13 ⟨Nat.le_of_ble_eq_true rfl, Nat.le_of_ble_eq_true rfl⟩) hS (fun q _ h => hFc q h) hFc (fun r6 u7 t H1 locs ht9 hvm hw hB hz1 hk1 hS => ?_)
    obtain ⟨hP1, hD1⟩ := hB
    rw [ht9] at hP1
    obtain ⟨hP, hD⟩ := va_join (wr := [(h0, .inr (12, [.int 0, .ref (u 1), .ref (u 2), .ref (u 3), .ref (u 4), .int 0, .ref (u 6), .int 0, .int 0, .int 0, .int 0, .int 0, .int 0, .int (-1), .ref (u 14), .ref (u 15), .ref (u 16), .ref (u 17), .ref (u 18), .ref (u 19), .ref (u 20), .int 0, .ref (u 22), .int 0, .ref (u 24), .ref (u 25), .int 0, .ref (u 27), .ref (u 28), .ref (u 29), .ref (u 30), .int 0, .int 0, .int 0, .int 0, .int 0, .ref (u 36), .long 0, .ref (u 38), .ref (u 39), .ref (u 40), .ref (u 41)])), (u 38, .inl (cI, 4, .inl (upd (upd (upd (upd (fun _ => 0) 0 (-1)) 1 (-1)) 2 (-1)) 3 (-1)))), (u 39, .inl (cI, 4, .inl (fun _ => 0))), (u 40, .inl (cJ, 240, .inr (.inl (fun _ => 0))))]) (w1 := []) hP hD [] [0, 1, 2, 3] rfl rfl (by decide) (by decide) hk1 hFc hP1 hD1
    generalize H1 = H at hP hS ⊢
    have hP : va_P (dC, dI) vwCl [(h0, .inr (12, [.int 0, .ref (u 1), .ref (u 2), .ref (u 3), .ref (u 4), .int 0, .ref (u 6), .int 0, .int 0, .int 0, .int 0, .int 0, .int 0, .int (-1), .ref (u 14), .ref (u 15), .ref (u 16), .ref (u 17), .ref (u 18), .ref (u 19), .ref (u 20), .int 0, .ref (u 22), .int 0, .ref (u 24), .ref (u 25), .int 0, .ref (u 27), .ref (u 28), .ref (u 29), .ref (u 30), .int 0, .int 0, .int 0, .int 0, .int 0, .ref (u 36), .long 0, .ref (u 38), .ref (u 39), .ref (u 40), .ref (u 41)])), (u 38, .inl (cI, 4, .inl (upd (upd (upd (upd (fun _ => 0) 0 (-1)) 1 (-1)) 2 (-1)) 3 (-1)))), (u 39, .inl (cI, 4, .inl (fun _ => 0))), (u 40, .inl (cJ, 240, .inr (.inl (fun _ => 0))))] H := hP
    have hD : va_D A [(h0, .inr (12, [.int 0, .ref (u 1), .ref (u 2), .ref (u 3), .ref (u 4), .int 0, .ref (u 6), .int 0, .int 0, .int 0, .int 0, .int 0, .int 0, .int (-1), .ref (u 14), .ref (u 15), .ref (u 16), .ref (u 17), .ref (u 18), .ref (u 19), .ref (u 20), .int 0, .ref (u 22), .int 0, .ref (u 24), .ref (u 25), .int 0, .ref (u 27), .ref (u 28), .ref (u 29), .ref (u 30), .int 0, .int 0, .int 0, .int 0, .int 0, .ref (u 36), .long 0, .ref (u 38), .ref (u 39), .ref (u 40), .ref (u 41)])), (u 38, .inl (cI, 4, .inl (upd (upd (upd (upd (fun _ => 0) 0 (-1)) 1 (-1)) 2 (-1)) 3 (-1)))), (u 39, .inl (cI, 4, .inl (fun _ => 0))), (u 40, .inl (cJ, 240, .inr (.inl (fun _ => 0))))] := hD
    rcases in_or (p := p1) (lo := 0) (hi := 3) 0 3 (by decide) (by decide) with ⟨e9, c8⟩ | ⟨e9, c8, c9⟩
    · rw [e9] at hw
      subst hw
      refine lv_if_eq (tgt := 25) hx hb dX12_row_16 (by decide) (fun c10 => ?_) (fun c10 => absurd c10 (by decide))
      refine lv_bipush (v := (-2)) hx hb dX12_row_25 (by decide) ?_
      exact W.iret (v := (-2)) hx hb hr (fun t ht hW => ⟨⟨(-2), (), rfl, (by simp only [Sp_row, and_true, true_and, or_true, true_or, and_false, false_and, or_false, false_or, not_true_eq_false, not_false_eq_true, ne_eq, ki_lt, ki_le, ki_eq, kz_m8, kz_m7, kz_m6, kz_m4, kz_m3, kz_m2, kz_m1, kz_0, kz_1, kz_2, kz_3, kz_4, kz_5, kz_6, kz_7, kz_8, kz_9, kz_10, kz_11, kz_20, kz_60] at c3 c4 c8 ⊢ <;> omega), trivial⟩, hS.F ht⟩) hS.2.2 dX12_row_27
    · rw [e9] at hw
      subst hw
      refine lv_if_eq (tgt := 25) hx hb dX12_row_16 (by decide) (fun c11 => absurd c11 (by decide)) (fun c11 => ?_)
      refine lv_iload_n hx hb dX12_row_19 rfl (lv_at hl 3 rfl) ?_
      refine lv_bipush (v := 60) hx hb dX12_row_20 (by decide) ?_
      refine lv_icmp_le (tgt := 28) hx hb dX12_row_22 (by decide) (fun c12 => ?_) (fun c12 => ?_)
      · refine lv_iload_n hx hb dX12_row_28 rfl (lv_at hl 3 rfl) ?_
        refine lv_if_ge (tgt := 35) hx hb dX12_row_29 (by decide) (fun c13 => ?_) (fun c13 => ?_)
        · rcases k4le c3 c4 with rfl | rfl | rfl | rfl
          · refine lv_aload_n hx hb dX12_row_35 rfl (lv_at hl 0 rfl) ?_
            refine va_get (D := (dC, dI)) (ci := 12) (v := .ref (u 38)) (C := RX12) (T := TX12) (N := 42) hx hb hwd inlX12 hown hK hP 0 rfl rfl 38 (by decide) (hwd _ kr8_0) (fun _ h9 => h9) rfl dX12_row_36 ?_
            refine lv_iload_n hx hb dX12_row_39 rfl (lv_at hl 1 rfl) ?_
            refine lv_iload_n hx hb dX12_row_40 rfl (lv_at hl 3 rfl) ?_
            refine va_iast hx hb hK hP hD hS 1 0 rfl rfl (vin (by decide)) dX12_row_41 (fun H locs hP hD hS => ?_)
            obtain ⟨f14, ef14⟩ : ∃ f, f = upd (upd (upd (upd (upd (fun _ => 0) 0 (-1)) 1 (-1)) 2 (-1)) 3 (-1)) (0 : Int32).toNatClampNeg p2 := ⟨_, rfl⟩
            have hP : va_P (dC, dI) vwCl [(h0, .inr (12, [.int 0, .ref (u 1), .ref (u 2), .ref (u 3), .ref (u 4), .int 0, .ref (u 6), .int 0, .int 0, .int 0, .int 0, .int 0, .int 0, .int (-1), .ref (u 14), .ref (u 15), .ref (u 16), .ref (u 17), .ref (u 18), .ref (u 19), .ref (u 20), .int 0, .ref (u 22), .int 0, .ref (u 24), .ref (u 25), .int 0, .ref (u 27), .ref (u 28), .ref (u 29), .ref (u 30), .int 0, .int 0, .int 0, .int 0, .int 0, .ref (u 36), .long 0, .ref (u 38), .ref (u 39), .ref (u 40), .ref (u 41)])), (u 38, .inl (cI, 4, .inl f14)), (u 39, .inl (cI, 4, .inl (fun _ => 0))), (u 40, .inl (cJ, 240, .inr (.inl (fun _ => 0))))] H := by rw [ef14]; exact hP
            have hD : va_D A [(h0, .inr (12, [.int 0, .ref (u 1), .ref (u 2), .ref (u 3), .ref (u 4), .int 0, .ref (u 6), .int 0, .int 0, .int 0, .int 0, .int 0, .int 0, .int (-1), .ref (u 14), .ref (u 15), .ref (u 16), .ref (u 17), .ref (u 18), .ref (u 19), .ref (u 20), .int 0, .ref (u 22), .int 0, .ref (u 24), .ref (u 25), .int 0, .ref (u 27), .ref (u 28), .ref (u 29), .ref (u 30), .int 0, .int 0, .int 0, .int 0, .int 0, .ref (u 36), .long 0, .ref (u 38), .ref (u 39), .ref (u 40), .ref (u 41)])), (u 38, .inl (cI, 4, .inl f14)), (u 39, .inl (cI, 4, .inl (fun _ => 0))), (u 40, .inl (cJ, 240, .inr (.inl (fun _ => 0))))] := by rw [ef14]; exact hD
            refine lv_aload_n hx hb dX12_row_42 rfl (lv_at hl 0 rfl) ?_
            refine va_get (D := (dC, dI)) (ci := 12) (v := .ref (u 39)) (C := RX12) (T := TX12) (N := 42) hx hb hwd inlX12 hown hK hP 0 rfl rfl 39 (by decide) (hwd _ kr8_1) (fun _ h9 => h9) rfl dX12_row_43 ?_
            refine lv_iload_n hx hb dX12_row_46 rfl (lv_at hl 1 rfl) ?_
            refine lv_iload_n hx hb dX12_row_47 rfl (lv_at hl 2 rfl) ?_
            refine va_iast hx hb hK hP hD hS 2 0 rfl rfl (vin (by decide)) dX12_row_48 (fun H locs hP hD hS => ?_)
            obtain ⟨f15, ef15⟩ : ∃ f, f = upd (fun _ => 0) (0 : Int32).toNatClampNeg p1 := ⟨_, rfl⟩
            have hP : va_P (dC, dI) vwCl [(h0, .inr (12, [.int 0, .ref (u 1), .ref (u 2), .ref (u 3), .ref (u 4), .int 0, .ref (u 6), .int 0, .int 0, .int 0, .int 0, .int 0, .int 0, .int (-1), .ref (u 14), .ref (u 15), .ref (u 16), .ref (u 17), .ref (u 18), .ref (u 19), .ref (u 20), .int 0, .ref (u 22), .int 0, .ref (u 24), .ref (u 25), .int 0, .ref (u 27), .ref (u 28), .ref (u 29), .ref (u 30), .int 0, .int 0, .int 0, .int 0, .int 0, .ref (u 36), .long 0, .ref (u 38), .ref (u 39), .ref (u 40), .ref (u 41)])), (u 38, .inl (cI, 4, .inl f14)), (u 39, .inl (cI, 4, .inl f15)), (u 40, .inl (cJ, 240, .inr (.inl (fun _ => 0))))] H := by rw [ef15]; exact hP
            have hD : va_D A [(h0, .inr (12, [.int 0, .ref (u 1), .ref (u 2), .ref (u 3), .ref (u 4), .int 0, .ref (u 6), .int 0, .int 0, .int 0, .int 0, .int 0, .int 0, .int (-1), .ref (u 14), .ref (u 15), .ref (u 16), .ref (u 17), .ref (u 18), .ref (u 19), .ref (u 20), .int 0, .ref (u 22), .int 0, .ref (u 24), .ref (u 25), .int 0, .ref (u 27), .ref (u 28), .ref (u 29), .ref (u 30), .int 0, .int 0, .int 0, .int 0, .int 0, .ref (u 36), .long 0, .ref (u 38), .ref (u 39), .ref (u 40), .ref (u 41)])), (u 38, .inl (cI, 4, .inl f14)), (u 39, .inl (cI, 4, .inl f15)), (u 40, .inl (cJ, 240, .inr (.inl (fun _ => 0))))] := by rw [ef15]; exact hD
            refine lv_iconst (v := 0) hx hb dX12_row_49 (by decide) ?_
            refine lv_istore (lv' := [(4, .int 0), (0, .ref h0), (1, .int 0), (2, .int p1), (3, .int p2)]) hx hb dX12_row_50 hl (by decide) rfl (fun ls hl => ?_)
            have hl0 : lv_has ls 5 [(0, .ref h0), (1, .int 0), (2, .int p1), (3, .int p2), (4, .int (nI 0))] := lv_sub hl [1, 2, 3, 4, 0] rfl
            refine lp_c_X12_row_0 hx hb hown hwd hK (fun H locs ls g hP hD hS hl => ?_) 60 0 (by omega) _ _ ls (fun _ => 0) hP hD hS hl0
            refine lv_iconst (v := 0) hx hb dX12_row_78 (by decide) ?_
            exact W.iret (v := 0) hx hb hr (fun t ht hW => ⟨⟨0, (), rfl, (by simp only [Sp_row, and_true, true_and, or_true, true_or, and_false, false_and, or_false, false_or, not_true_eq_false, not_false_eq_true, ne_eq, ki_lt, ki_le, ki_eq, kz_m8, kz_m7, kz_m6, kz_m4, kz_m3, kz_m2, kz_m1, kz_0, kz_1, kz_2, kz_3, kz_4, kz_5, kz_6, kz_7, kz_8, kz_9, kz_10, kz_11, kz_20, kz_60] at c3 c4 c8 c9 c12 c13 ⊢ <;> omega), trivial⟩, hS.F ht⟩) hS.2.2 dX12_row_79
          · refine lv_aload_n hx hb dX12_row_35 rfl (lv_at hl 0 rfl) ?_
            refine va_get (D := (dC, dI)) (ci := 12) (v := .ref (u 38)) (C := RX12) (T := TX12) (N := 42) hx hb hwd inlX12 hown hK hP 0 rfl rfl 38 (by decide) (hwd _ kr8_0) (fun _ h9 => h9) rfl dX12_row_36 ?_
            refine lv_iload_n hx hb dX12_row_39 rfl (lv_at hl 1 rfl) ?_
            refine lv_iload_n hx hb dX12_row_40 rfl (lv_at hl 3 rfl) ?_
            refine va_iast hx hb hK hP hD hS 1 0 rfl rfl (vin (by decide)) dX12_row_41 (fun H locs hP hD hS => ?_)
            obtain ⟨f16, ef16⟩ : ∃ f, f = upd (upd (upd (upd (upd (fun _ => 0) 0 (-1)) 1 (-1)) 2 (-1)) 3 (-1)) (1 : Int32).toNatClampNeg p2 := ⟨_, rfl⟩
            have hP : va_P (dC, dI) vwCl [(h0, .inr (12, [.int 0, .ref (u 1), .ref (u 2), .ref (u 3), .ref (u 4), .int 0, .ref (u 6), .int 0, .int 0, .int 0, .int 0, .int 0, .int 0, .int (-1), .ref (u 14), .ref (u 15), .ref (u 16), .ref (u 17), .ref (u 18), .ref (u 19), .ref (u 20), .int 0, .ref (u 22), .int 0, .ref (u 24), .ref (u 25), .int 0, .ref (u 27), .ref (u 28), .ref (u 29), .ref (u 30), .int 0, .int 0, .int 0, .int 0, .int 0, .ref (u 36), .long 0, .ref (u 38), .ref (u 39), .ref (u 40), .ref (u 41)])), (u 38, .inl (cI, 4, .inl f16)), (u 39, .inl (cI, 4, .inl (fun _ => 0))), (u 40, .inl (cJ, 240, .inr (.inl (fun _ => 0))))] H := by rw [ef16]; exact hP
            have hD : va_D A [(h0, .inr (12, [.int 0, .ref (u 1), .ref (u 2), .ref (u 3), .ref (u 4), .int 0, .ref (u 6), .int 0, .int 0, .int 0, .int 0, .int 0, .int 0, .int (-1), .ref (u 14), .ref (u 15), .ref (u 16), .ref (u 17), .ref (u 18), .ref (u 19), .ref (u 20), .int 0, .ref (u 22), .int 0, .ref (u 24), .ref (u 25), .int 0, .ref (u 27), .ref (u 28), .ref (u 29), .ref (u 30), .int 0, .int 0, .int 0, .int 0, .int 0, .ref (u 36), .long 0, .ref (u 38), .ref (u 39), .ref (u 40), .ref (u 41)])), (u 38, .inl (cI, 4, .inl f16)), (u 39, .inl (cI, 4, .inl (fun _ => 0))), (u 40, .inl (cJ, 240, .inr (.inl (fun _ => 0))))] := by rw [ef16]; exact hD
            refine lv_aload_n hx hb dX12_row_42 rfl (lv_at hl 0 rfl) ?_
            refine va_get (D := (dC, dI)) (ci := 12) (v := .ref (u 39)) (C := RX12) (T := TX12) (N := 42) hx hb hwd inlX12 hown hK hP 0 rfl rfl 39 (by decide) (hwd _ kr8_1) (fun _ h9 => h9) rfl dX12_row_43 ?_
            refine lv_iload_n hx hb dX12_row_46 rfl (lv_at hl 1 rfl) ?_
            refine lv_iload_n hx hb dX12_row_47 rfl (lv_at hl 2 rfl) ?_
            refine va_iast hx hb hK hP hD hS 2 0 rfl rfl (vin (by decide)) dX12_row_48 (fun H locs hP hD hS => ?_)
            obtain ⟨f17, ef17⟩ : ∃ f, f = upd (fun _ => 0) (1 : Int32).toNatClampNeg p1 := ⟨_, rfl⟩
            have hP : va_P (dC, dI) vwCl [(h0, .inr (12, [.int 0, .ref (u 1), .ref (u 2), .ref (u 3), .ref (u 4), .int 0, .ref (u 6), .int 0, .int 0, .int 0, .int 0, .int 0, .int 0, .int (-1), .ref (u 14), .ref (u 15), .ref (u 16), .ref (u 17), .ref (u 18), .ref (u 19), .ref (u 20), .int 0, .ref (u 22), .int 0, .ref (u 24), .ref (u 25), .int 0, .ref (u 27), .ref (u 28), .ref (u 29), .ref (u 30), .int 0, .int 0, .int 0, .int 0, .int 0, .ref (u 36), .long 0, .ref (u 38), .ref (u 39), .ref (u 40), .ref (u 41)])), (u 38, .inl (cI, 4, .inl f16)), (u 39, .inl (cI, 4, .inl f17)), (u 40, .inl (cJ, 240, .inr (.inl (fun _ => 0))))] H := by rw [ef17]; exact hP
            have hD : va_D A [(h0, .inr (12, [.int 0, .ref (u 1), .ref (u 2), .ref (u 3), .ref (u 4), .int 0, .ref (u 6), .int 0, .int 0, .int 0, .int 0, .int 0, .int 0, .int (-1), .ref (u 14), .ref (u 15), .ref (u 16), .ref (u 17), .ref (u 18), .ref (u 19), .ref (u 20), .int 0, .ref (u 22), .int 0, .ref (u 24), .ref (u 25), .int 0, .ref (u 27), .ref (u 28), .ref (u 29), .ref (u 30), .int 0, .int 0, .int 0, .int 0, .int 0, .ref (u 36), .long 0, .ref (u 38), .ref (u 39), .ref (u 40), .ref (u 41)])), (u 38, .inl (cI, 4, .inl f16)), (u 39, .inl (cI, 4, .inl f17)), (u 40, .inl (cJ, 240, .inr (.inl (fun _ => 0))))] := by rw [ef17]; exact hD
            refine lv_iconst (v := 0) hx hb dX12_row_49 (by decide) ?_
            refine lv_istore (lv' := [(4, .int 0), (0, .ref h0), (1, .int 1), (2, .int p1), (3, .int p2)]) hx hb dX12_row_50 hl (by decide) rfl (fun ls hl => ?_)
            have hl0 : lv_has ls 5 [(0, .ref h0), (1, .int 1), (2, .int p1), (3, .int p2), (4, .int (nI 0))] := lv_sub hl [1, 2, 3, 4, 0] rfl
            refine lp_c_X12_row_1 hx hb hown hwd hK (fun H locs ls g hP hD hS hl => ?_) 60 0 (by omega) _ _ ls (fun _ => 0) hP hD hS hl0
            refine lv_iconst (v := 0) hx hb dX12_row_78 (by decide) ?_
            exact W.iret (v := 0) hx hb hr (fun t ht hW => ⟨⟨0, (), rfl, (by simp only [Sp_row, and_true, true_and, or_true, true_or, and_false, false_and, or_false, false_or, not_true_eq_false, not_false_eq_true, ne_eq, ki_lt, ki_le, ki_eq, kz_m8, kz_m7, kz_m6, kz_m4, kz_m3, kz_m2, kz_m1, kz_0, kz_1, kz_2, kz_3, kz_4, kz_5, kz_6, kz_7, kz_8, kz_9, kz_10, kz_11, kz_20, kz_60] at c3 c4 c8 c9 c12 c13 ⊢ <;> omega), trivial⟩, hS.F ht⟩) hS.2.2 dX12_row_79
          · refine lv_aload_n hx hb dX12_row_35 rfl (lv_at hl 0 rfl) ?_
            refine va_get (D := (dC, dI)) (ci := 12) (v := .ref (u 38)) (C := RX12) (T := TX12) (N := 42) hx hb hwd inlX12 hown hK hP 0 rfl rfl 38 (by decide) (hwd _ kr8_0) (fun _ h9 => h9) rfl dX12_row_36 ?_
            refine lv_iload_n hx hb dX12_row_39 rfl (lv_at hl 1 rfl) ?_
            refine lv_iload_n hx hb dX12_row_40 rfl (lv_at hl 3 rfl) ?_
            refine va_iast hx hb hK hP hD hS 1 0 rfl rfl (vin (by decide)) dX12_row_41 (fun H locs hP hD hS => ?_)
            obtain ⟨f18, ef18⟩ : ∃ f, f = upd (upd (upd (upd (upd (fun _ => 0) 0 (-1)) 1 (-1)) 2 (-1)) 3 (-1)) (2 : Int32).toNatClampNeg p2 := ⟨_, rfl⟩
            have hP : va_P (dC, dI) vwCl [(h0, .inr (12, [.int 0, .ref (u 1), .ref (u 2), .ref (u 3), .ref (u 4), .int 0, .ref (u 6), .int 0, .int 0, .int 0, .int 0, .int 0, .int 0, .int (-1), .ref (u 14), .ref (u 15), .ref (u 16), .ref (u 17), .ref (u 18), .ref (u 19), .ref (u 20), .int 0, .ref (u 22), .int 0, .ref (u 24), .ref (u 25), .int 0, .ref (u 27), .ref (u 28), .ref (u 29), .ref (u 30), .int 0, .int 0, .int 0, .int 0, .int 0, .ref (u 36), .long 0, .ref (u 38), .ref (u 39), .ref (u 40), .ref (u 41)])), (u 38, .inl (cI, 4, .inl f18)), (u 39, .inl (cI, 4, .inl (fun _ => 0))), (u 40, .inl (cJ, 240, .inr (.inl (fun _ => 0))))] H := by rw [ef18]; exact hP
            have hD : va_D A [(h0, .inr (12, [.int 0, .ref (u 1), .ref (u 2), .ref (u 3), .ref (u 4), .int 0, .ref (u 6), .int 0, .int 0, .int 0, .int 0, .int 0, .int 0, .int (-1), .ref (u 14), .ref (u 15), .ref (u 16), .ref (u 17), .ref (u 18), .ref (u 19), .ref (u 20), .int 0, .ref (u 22), .int 0, .ref (u 24), .ref (u 25), .int 0, .ref (u 27), .ref (u 28), .ref (u 29), .ref (u 30), .int 0, .int 0, .int 0, .int 0, .int 0, .ref (u 36), .long 0, .ref (u 38), .ref (u 39), .ref (u 40), .ref (u 41)])), (u 38, .inl (cI, 4, .inl f18)), (u 39, .inl (cI, 4, .inl (fun _ => 0))), (u 40, .inl (cJ, 240, .inr (.inl (fun _ => 0))))] := by rw [ef18]; exact hD
            refine lv_aload_n hx hb dX12_row_42 rfl (lv_at hl 0 rfl) ?_
            refine va_get (D := (dC, dI)) (ci := 12) (v := .ref (u 39)) (C := RX12) (T := TX12) (N := 42) hx hb hwd inlX12 hown hK hP 0 rfl rfl 39 (by decide) (hwd _ kr8_1) (fun _ h9 => h9) rfl dX12_row_43 ?_
            refine lv_iload_n hx hb dX12_row_46 rfl (lv_at hl 1 rfl) ?_
            refine lv_iload_n hx hb dX12_row_47 rfl (lv_at hl 2 rfl) ?_
            refine va_iast hx hb hK hP hD hS 2 0 rfl rfl (vin (by decide)) dX12_row_48 (fun H locs hP hD hS => ?_)
            obtain ⟨f19, ef19⟩ : ∃ f, f = upd (fun _ => 0) (2 : Int32).toNatClampNeg p1 := ⟨_, rfl⟩
            have hP : va_P (dC, dI) vwCl [(h0, .inr (12, [.int 0, .ref (u 1), .ref (u 2), .ref (u 3), .ref (u 4), .int 0, .ref (u 6), .int 0, .int 0, .int 0, .int 0, .int 0, .int 0, .int (-1), .ref (u 14), .ref (u 15), .ref (u 16), .ref (u 17), .ref (u 18), .ref (u 19), .ref (u 20), .int 0, .ref (u 22), .int 0, .ref (u 24), .ref (u 25), .int 0, .ref (u 27), .ref (u 28), .ref (u 29), .ref (u 30), .int 0, .int 0, .int 0, .int 0, .int 0, .ref (u 36), .long 0, .ref (u 38), .ref (u 39), .ref (u 40), .ref (u 41)])), (u 38, .inl (cI, 4, .inl f18)), (u 39, .inl (cI, 4, .inl f19)), (u 40, .inl (cJ, 240, .inr (.inl (fun _ => 0))))] H := by rw [ef19]; exact hP
            have hD : va_D A [(h0, .inr (12, [.int 0, .ref (u 1), .ref (u 2), .ref (u 3), .ref (u 4), .int 0, .ref (u 6), .int 0, .int 0, .int 0, .int 0, .int 0, .int 0, .int (-1), .ref (u 14), .ref (u 15), .ref (u 16), .ref (u 17), .ref (u 18), .ref (u 19), .ref (u 20), .int 0, .ref (u 22), .int 0, .ref (u 24), .ref (u 25), .int 0, .ref (u 27), .ref (u 28), .ref (u 29), .ref (u 30), .int 0, .int 0, .int 0, .int 0, .int 0, .ref (u 36), .long 0, .ref (u 38), .ref (u 39), .ref (u 40), .ref (u 41)])), (u 38, .inl (cI, 4, .inl f18)), (u 39, .inl (cI, 4, .inl f19)), (u 40, .inl (cJ, 240, .inr (.inl (fun _ => 0))))] := by rw [ef19]; exact hD
            refine lv_iconst (v := 0) hx hb dX12_row_49 (by decide) ?_
            refine lv_istore (lv' := [(4, .int 0), (0, .ref h0), (1, .int 2), (2, .int p1), (3, .int p2)]) hx hb dX12_row_50 hl (by decide) rfl (fun ls hl => ?_)
            have hl0 : lv_has ls 5 [(0, .ref h0), (1, .int 2), (2, .int p1), (3, .int p2), (4, .int (nI 0))] := lv_sub hl [1, 2, 3, 4, 0] rfl
            refine lp_c_X12_row_2 hx hb hown hwd hK (fun H locs ls g hP hD hS hl => ?_) 60 0 (by omega) _ _ ls (fun _ => 0) hP hD hS hl0
            refine lv_iconst (v := 0) hx hb dX12_row_78 (by decide) ?_
            exact W.iret (v := 0) hx hb hr (fun t ht hW => ⟨⟨0, (), rfl, (by simp only [Sp_row, and_true, true_and, or_true, true_or, and_false, false_and, or_false, false_or, not_true_eq_false, not_false_eq_true, ne_eq, ki_lt, ki_le, ki_eq, kz_m8, kz_m7, kz_m6, kz_m4, kz_m3, kz_m2, kz_m1, kz_0, kz_1, kz_2, kz_3, kz_4, kz_5, kz_6, kz_7, kz_8, kz_9, kz_10, kz_11, kz_20, kz_60] at c3 c4 c8 c9 c12 c13 ⊢ <;> omega), trivial⟩, hS.F ht⟩) hS.2.2 dX12_row_79
          · refine lv_aload_n hx hb dX12_row_35 rfl (lv_at hl 0 rfl) ?_
            refine va_get (D := (dC, dI)) (ci := 12) (v := .ref (u 38)) (C := RX12) (T := TX12) (N := 42) hx hb hwd inlX12 hown hK hP 0 rfl rfl 38 (by decide) (hwd _ kr8_0) (fun _ h9 => h9) rfl dX12_row_36 ?_
            refine lv_iload_n hx hb dX12_row_39 rfl (lv_at hl 1 rfl) ?_
            refine lv_iload_n hx hb dX12_row_40 rfl (lv_at hl 3 rfl) ?_
            refine va_iast hx hb hK hP hD hS 1 0 rfl rfl (vin (by decide)) dX12_row_41 (fun H locs hP hD hS => ?_)
            obtain ⟨f20, ef20⟩ : ∃ f, f = upd (upd (upd (upd (upd (fun _ => 0) 0 (-1)) 1 (-1)) 2 (-1)) 3 (-1)) (3 : Int32).toNatClampNeg p2 := ⟨_, rfl⟩
            have hP : va_P (dC, dI) vwCl [(h0, .inr (12, [.int 0, .ref (u 1), .ref (u 2), .ref (u 3), .ref (u 4), .int 0, .ref (u 6), .int 0, .int 0, .int 0, .int 0, .int 0, .int 0, .int (-1), .ref (u 14), .ref (u 15), .ref (u 16), .ref (u 17), .ref (u 18), .ref (u 19), .ref (u 20), .int 0, .ref (u 22), .int 0, .ref (u 24), .ref (u 25), .int 0, .ref (u 27), .ref (u 28), .ref (u 29), .ref (u 30), .int 0, .int 0, .int 0, .int 0, .int 0, .ref (u 36), .long 0, .ref (u 38), .ref (u 39), .ref (u 40), .ref (u 41)])), (u 38, .inl (cI, 4, .inl f20)), (u 39, .inl (cI, 4, .inl (fun _ => 0))), (u 40, .inl (cJ, 240, .inr (.inl (fun _ => 0))))] H := by rw [ef20]; exact hP
            have hD : va_D A [(h0, .inr (12, [.int 0, .ref (u 1), .ref (u 2), .ref (u 3), .ref (u 4), .int 0, .ref (u 6), .int 0, .int 0, .int 0, .int 0, .int 0, .int 0, .int (-1), .ref (u 14), .ref (u 15), .ref (u 16), .ref (u 17), .ref (u 18), .ref (u 19), .ref (u 20), .int 0, .ref (u 22), .int 0, .ref (u 24), .ref (u 25), .int 0, .ref (u 27), .ref (u 28), .ref (u 29), .ref (u 30), .int 0, .int 0, .int 0, .int 0, .int 0, .ref (u 36), .long 0, .ref (u 38), .ref (u 39), .ref (u 40), .ref (u 41)])), (u 38, .inl (cI, 4, .inl f20)), (u 39, .inl (cI, 4, .inl (fun _ => 0))), (u 40, .inl (cJ, 240, .inr (.inl (fun _ => 0))))] := by rw [ef20]; exact hD
            refine lv_aload_n hx hb dX12_row_42 rfl (lv_at hl 0 rfl) ?_
            refine va_get (D := (dC, dI)) (ci := 12) (v := .ref (u 39)) (C := RX12) (T := TX12) (N := 42) hx hb hwd inlX12 hown hK hP 0 rfl rfl 39 (by decide) (hwd _ kr8_1) (fun _ h9 => h9) rfl dX12_row_43 ?_
            refine lv_iload_n hx hb dX12_row_46 rfl (lv_at hl 1 rfl) ?_
            refine lv_iload_n hx hb dX12_row_47 rfl (lv_at hl 2 rfl) ?_
            refine va_iast hx hb hK hP hD hS 2 0 rfl rfl (vin (by decide)) dX12_row_48 (fun H locs hP hD hS => ?_)
            obtain ⟨f21, ef21⟩ : ∃ f, f = upd (fun _ => 0) (3 : Int32).toNatClampNeg p1 := ⟨_, rfl⟩
            have hP : va_P (dC, dI) vwCl [(h0, .inr (12, [.int 0, .ref (u 1), .ref (u 2), .ref (u 3), .ref (u 4), .int 0, .ref (u 6), .int 0, .int 0, .int 0, .int 0, .int 0, .int 0, .int (-1), .ref (u 14), .ref (u 15), .ref (u 16), .ref (u 17), .ref (u 18), .ref (u 19), .ref (u 20), .int 0, .ref (u 22), .int 0, .ref (u 24), .ref (u 25), .int 0, .ref (u 27), .ref (u 28), .ref (u 29), .ref (u 30), .int 0, .int 0, .int 0, .int 0, .int 0, .ref (u 36), .long 0, .ref (u 38), .ref (u 39), .ref (u 40), .ref (u 41)])), (u 38, .inl (cI, 4, .inl f20)), (u 39, .inl (cI, 4, .inl f21)), (u 40, .inl (cJ, 240, .inr (.inl (fun _ => 0))))] H := by rw [ef21]; exact hP
            have hD : va_D A [(h0, .inr (12, [.int 0, .ref (u 1), .ref (u 2), .ref (u 3), .ref (u 4), .int 0, .ref (u 6), .int 0, .int 0, .int 0, .int 0, .int 0, .int 0, .int (-1), .ref (u 14), .ref (u 15), .ref (u 16), .ref (u 17), .ref (u 18), .ref (u 19), .ref (u 20), .int 0, .ref (u 22), .int 0, .ref (u 24), .ref (u 25), .int 0, .ref (u 27), .ref (u 28), .ref (u 29), .ref (u 30), .int 0, .int 0, .int 0, .int 0, .int 0, .ref (u 36), .long 0, .ref (u 38), .ref (u 39), .ref (u 40), .ref (u 41)])), (u 38, .inl (cI, 4, .inl f20)), (u 39, .inl (cI, 4, .inl f21)), (u 40, .inl (cJ, 240, .inr (.inl (fun _ => 0))))] := by rw [ef21]; exact hD
            refine lv_iconst (v := 0) hx hb dX12_row_49 (by decide) ?_
            refine lv_istore (lv' := [(4, .int 0), (0, .ref h0), (1, .int 3), (2, .int p1), (3, .int p2)]) hx hb dX12_row_50 hl (by decide) rfl (fun ls hl => ?_)
            have hl0 : lv_has ls 5 [(0, .ref h0), (1, .int 3), (2, .int p1), (3, .int p2), (4, .int (nI 0))] := lv_sub hl [1, 2, 3, 4, 0] rfl
            refine lp_c_X12_row_3 hx hb hown hwd hK (fun H locs ls g hP hD hS hl => ?_) 60 0 (by omega) _ _ ls (fun _ => 0) hP hD hS hl0
            refine lv_iconst (v := 0) hx hb dX12_row_78 (by decide) ?_
            exact W.iret (v := 0) hx hb hr (fun t ht hW => ⟨⟨0, (), rfl, (by simp only [Sp_row, and_true, true_and, or_true, true_or, and_false, false_and, or_false, false_or, not_true_eq_false, not_false_eq_true, ne_eq, ki_lt, ki_le, ki_eq, kz_m8, kz_m7, kz_m6, kz_m4, kz_m3, kz_m2, kz_m1, kz_0, kz_1, kz_2, kz_3, kz_4, kz_5, kz_6, kz_7, kz_8, kz_9, kz_10, kz_11, kz_20, kz_60] at c3 c4 c8 c9 c12 c13 ⊢ <;> omega), trivial⟩, hS.F ht⟩) hS.2.2 dX12_row_79
        · refine lv_bipush (v := (-3)) hx hb dX12_row_32 (by decide) ?_
          exact W.iret (v := (-3)) hx hb hr (fun t ht hW => ⟨⟨(-3), (), rfl, (by simp only [Sp_row, and_true, true_and, or_true, true_or, and_false, false_and, or_false, false_or, not_true_eq_false, not_false_eq_true, ne_eq, ki_lt, ki_le, ki_eq, kz_m8, kz_m7, kz_m6, kz_m4, kz_m3, kz_m2, kz_m1, kz_0, kz_1, kz_2, kz_3, kz_4, kz_5, kz_6, kz_7, kz_8, kz_9, kz_10, kz_11, kz_20, kz_60] at c3 c4 c8 c9 c12 c13 ⊢ <;> omega), trivial⟩, hS.F ht⟩) hS.2.2 dX12_row_34
      · refine lv_bipush (v := (-2)) hx hb dX12_row_25 (by decide) ?_
        exact W.iret (v := (-2)) hx hb hr (fun t ht hW => ⟨⟨(-2), (), rfl, (by simp only [Sp_row, and_true, true_and, or_true, true_or, and_false, false_and, or_false, false_or, not_true_eq_false, not_false_eq_true, ne_eq, ki_lt, ki_le, ki_eq, kz_m8, kz_m7, kz_m6, kz_m4, kz_m3, kz_m2, kz_m1, kz_0, kz_1, kz_2, kz_3, kz_4, kz_5, kz_6, kz_7, kz_8, kz_9, kz_10, kz_11, kz_20, kz_60] at c3 c4 c8 c9 c12 ⊢ <;> omega), trivial⟩, hS.F ht⟩) hS.2.2 dX12_row_27
  · refine lv_if_eq (tgt := 25) hx hb dX12_row_4 (by decide) (fun c22 => ?_) (fun c22 => absurd c22 (by decide))
    refine lv_bipush (v := (-2)) hx hb dX12_row_25 (by decide) ?_
    exact W.iret (v := (-2)) hx hb hr (fun t ht hW => ⟨⟨(-2), (), rfl, (by simp only [Sp_row, and_true, true_and, or_true, true_or, and_false, false_and, or_false, false_or, not_true_eq_false, not_false_eq_true, ne_eq, ki_lt, ki_le, ki_eq, kz_m8, kz_m7, kz_m6, kz_m4, kz_m3, kz_m2, kz_m1, kz_0, kz_1, kz_2, kz_3, kz_4, kz_5, kz_6, kz_7, kz_8, kz_9, kz_10, kz_11, kz_20, kz_60] at c3 ⊢ <;> omega), trivial⟩, hS.F ht⟩) hS.2.2 dX12_row_27
set_option maxHeartbeats 4000000 in
set_option maxRecDepth 100000 in
theorem c_X12_write (l : Launch) (dC : Nat → ClassId) (dI : Nat → Nat → Nat) (cI cZ cB cJ cM : ClassId) (h0 : Nat) (u : Nat → Nat) (p0 p1 : Int32) (p2 : Int64) (sz : Nat) : Met l yX12_write (kw yX12_write cX12_write 5 (some .int)) ({ frames := 2, cells := 0, slots := 0, locals := 45 }) (va_Pc [.ref h0, .int p0, .int p1, .long p2] (kPre dC dI [(cI, .int), (cZ, .boolean), (cB, .byte), (cJ, .long), (cM, .object RX2)] [(h0, .inr (12, [.int 0, .ref (u 1), .ref (u 2), .ref (u 3), .ref (u 4), .int 0, .ref (u 6), .int 0, .int 0, .int 0, .int 0, .int 0, .int 0, .int (-1), .ref (u 14), .ref (u 15), .ref (u 16), .ref (u 17), .ref (u 18), .ref (u 19), .ref (u 20), .int 0, .ref (u 22), .int 0, .ref (u 24), .ref (u 25), .int 0, .ref (u 27), .ref (u 28), .ref (u 29), .ref (u 30), .int 0, .int 0, .int 0, .int 0, .int 0, .ref (u 36), .long 0, .ref (u 38), .ref (u 39), .ref (u 40), .ref (u 41)])), (u 38, .inl (cI, 4, .inl (upd (upd (upd (upd (fun _ => 0) 0 (-1)) 1 (-1)) 2 (-1)) 3 (-1))))] sz)) (va_Qi (fun (r : Int32) (_ : Unit) => Sp_write p0 r) (fun _ _ => True) (va_A [(h0, .inr (12, [.int 0, .ref (u 1), .ref (u 2), .ref (u 3), .ref (u 4), .int 0, .ref (u 6), .int 0, .int 0, .int 0, .int 0, .int 0, .int 0, .int (-1), .ref (u 14), .ref (u 15), .ref (u 16), .ref (u 17), .ref (u 18), .ref (u 19), .ref (u 20), .int 0, .ref (u 22), .int 0, .ref (u 24), .ref (u 25), .int 0, .ref (u 27), .ref (u 28), .ref (u 29), .ref (u 30), .int 0, .int 0, .int 0, .int 0, .int 0, .ref (u 36), .long 0, .ref (u 38), .ref (u 39), .ref (u 40), .ref (u 41)])), (u 38, .inl (cI, 4, .inl (upd (upd (upd (upd (fun _ => 0) 0 (-1)) 1 (-1)) 2 (-1)) 3 (-1))))] sz)) 0 0 (va_A [(h0, .inr (12, [.int 0, .ref (u 1), .ref (u 2), .ref (u 3), .ref (u 4), .int 0, .ref (u 6), .int 0, .int 0, .int 0, .int 0, .int 0, .int 0, .int (-1), .ref (u 14), .ref (u 15), .ref (u 16), .ref (u 17), .ref (u 18), .ref (u 19), .ref (u 20), .int 0, .ref (u 22), .int 0, .ref (u 24), .ref (u 25), .int 0, .ref (u 27), .ref (u 28), .ref (u 29), .ref (u 30), .int 0, .int 0, .int 0, .int 0, .int 0, .ref (u 36), .long 0, .ref (u 38), .ref (u 39), .ref (u 40), .ref (u 41)])), (u 38, .inl (cI, 4, .inl (upd (upd (upd (upd (fun _ => 0) 0 (-1)) 1 (-1)) 2 (-1)) 3 (-1))))] sz) := by
  refine kEnter (by decide) (Nat.le_of_ble_eq_true rfl) ?_
  intro p e s m below meth c ls hx hb hr hml hown hlocks hin hwd hsz hP hK hD hl
  subst hsz
  generalize hAe : va_A [(h0, .inr (12, [.int 0, .ref (u 1), .ref (u 2), .ref (u 3), .ref (u 4), .int 0, .ref (u 6), .int 0, .int 0, .int 0, .int 0, .int 0, .int 0, .int (-1), .ref (u 14), .ref (u 15), .ref (u 16), .ref (u 17), .ref (u 18), .ref (u 19), .ref (u 20), .int 0, .ref (u 22), .int 0, .ref (u 24), .ref (u 25), .int 0, .ref (u 27), .ref (u 28), .ref (u 29), .ref (u 30), .int 0, .int 0, .int 0, .int 0, .int 0, .ref (u 36), .long 0, .ref (u 38), .ref (u 39), .ref (u 40), .ref (u 41)])), (u 38, .inl (cI, 4, .inl (upd (upd (upd (upd (fun _ => 0) 0 (-1)) 1 (-1)) 2 (-1)) 3 (-1))))] s.heap.size = A at hD ⊢
  have hA : ∀ q : Nat, s.heap.size ≤ q → A q := fun q h => by rw [← hAe]; exact Or.inr h
  have hS : va_S A s.heap s.heap [] := va_S.rf
  have hl : lv_has ls 5 [(0, .ref h0), (1, .int p0), (2, .int p1), (3, .long p2)] := hl
  refine lv_iload_n hx hb dX12_write_0 rfl (lv_at hl 1 rfl) ?_
  have hPc := hP.sub (ws' := []) [] rfl
  have hDc := hD.sub (ws' := []) [] (by decide) rfl
  have hFc := va_free (wc := []) hD hS hA [] rfl
  refine va_calli (va_runS (As := [.int p0]) (rest := []) ⟨hx, hb, hml, hown, hwd⟩ (c_X12_isSlot l dC dI cI cZ cB cJ cM p0 s.heap.size) (cwS 1 hwd (gS kr28_6 kr28_7 kr1_5 kr28_8) rfl rfl rfl (by decide +kernel) ⟨Nat.le_of_ble_eq_true rfl, Nat.le_of_ble_eq_true rfl⟩) (kPreS hPc hK hDc) rfl rfl hl.1 rfl (lv_room (Nat.le_of_ble_eq_true rfl)) dX12_write_1 ⟨Nat.le_of_ble_eq_true rfl, Nat.le_of_ble_eq_true rfl⟩) hS (fun q _ h => hFc q h) hFc (fun r1 u2 t H1 locs ht9 hvm hw hB hz1 hk1 hS => ?_)
  obtain ⟨hP1, hD1⟩ := hB
  rw [ht9] at hP1
  obtain ⟨hP, hD⟩ := va_join (wr := [(h0, .inr (12, [.int 0, .ref (u 1), .ref (u 2), .ref (u 3), .ref (u 4), .int 0, .ref (u 6), .int 0, .int 0, .int 0, .int 0, .int 0, .int 0, .int (-1), .ref (u 14), .ref (u 15), .ref (u 16), .ref (u 17), .ref (u 18), .ref (u 19), .ref (u 20), .int 0, .ref (u 22), .int 0, .ref (u 24), .ref (u 25), .int 0, .ref (u 27), .ref (u 28), .ref (u 29), .ref (u 30), .int 0, .int 0, .int 0, .int 0, .int 0, .ref (u 36), .long 0, .ref (u 38), .ref (u 39), .ref (u 40), .ref (u 41)])), (u 38, .inl (cI, 4, .inl (upd (upd (upd (upd (fun _ => 0) 0 (-1)) 1 (-1)) 2 (-1)) 3 (-1))))]) (w1 := []) hP hD [] [0, 1] rfl rfl (by decide) (by decide) hk1 hFc hP1 hD1
  generalize H1 = H at hP hS ⊢
  have hP : va_P (dC, dI) vwCl [(h0, .inr (12, [.int 0, .ref (u 1), .ref (u 2), .ref (u 3), .ref (u 4), .int 0, .ref (u 6), .int 0, .int 0, .int 0, .int 0, .int 0, .int 0, .int (-1), .ref (u 14), .ref (u 15), .ref (u 16), .ref (u 17), .ref (u 18), .ref (u 19), .ref (u 20), .int 0, .ref (u 22), .int 0, .ref (u 24), .ref (u 25), .int 0, .ref (u 27), .ref (u 28), .ref (u 29), .ref (u 30), .int 0, .int 0, .int 0, .int 0, .int 0, .ref (u 36), .long 0, .ref (u 38), .ref (u 39), .ref (u 40), .ref (u 41)])), (u 38, .inl (cI, 4, .inl (upd (upd (upd (upd (fun _ => 0) 0 (-1)) 1 (-1)) 2 (-1)) 3 (-1))))] H := hP
  have hD : va_D A [(h0, .inr (12, [.int 0, .ref (u 1), .ref (u 2), .ref (u 3), .ref (u 4), .int 0, .ref (u 6), .int 0, .int 0, .int 0, .int 0, .int 0, .int 0, .int (-1), .ref (u 14), .ref (u 15), .ref (u 16), .ref (u 17), .ref (u 18), .ref (u 19), .ref (u 20), .int 0, .ref (u 22), .int 0, .ref (u 24), .ref (u 25), .int 0, .ref (u 27), .ref (u 28), .ref (u 29), .ref (u 30), .int 0, .int 0, .int 0, .int 0, .int 0, .ref (u 36), .long 0, .ref (u 38), .ref (u 39), .ref (u 40), .ref (u 41)])), (u 38, .inl (cI, 4, .inl (upd (upd (upd (upd (fun _ => 0) 0 (-1)) 1 (-1)) 2 (-1)) 3 (-1))))] := hD
  rcases hw with ⟨rfl, c3, c4⟩ | ⟨rfl, c3⟩
  · refine lv_if_ne (tgt := 10) hx hb dX12_write_4 (by decide) (fun c5 => ?_) (fun c5 => absurd c5 (by decide))
    rcases k4le c3 c4 with rfl | rfl | rfl | rfl
    · refine lv_aload_n hx hb dX12_write_10 rfl (lv_at hl 0 rfl) ?_
      refine va_get (D := (dC, dI)) (ci := 12) (v := .ref (u 38)) (C := RX12) (T := TX12) (N := 42) hx hb hwd inlX12 hown hK hP 0 rfl rfl 38 (by decide) (hwd _ kr8_0) (fun _ h9 => h9) rfl dX12_write_11 ?_
      refine lv_iload_n hx hb dX12_write_14 rfl (lv_at hl 1 rfl) ?_
      refine va_iald hx hb hK hP 1 0 rfl rfl (vin (by decide)) dX12_write_15 ?_
      refine lv_topi (nm_r (e' := ((-1))) (by decide +kernel) ?_)
      refine lv_iconst (v := (-1)) hx hb dX12_write_16 (by decide) ?_
      refine lv_icmp_ne (tgt := 23) hx hb dX12_write_17 (by decide) (fun c6 => absurd c6 (by decide)) (fun c6 => ?_)
      refine lv_bipush (v := (-6)) hx hb dX12_write_20 (by decide) ?_
      exact W.iret (v := (-6)) hx hb hr (fun t ht hW => ⟨⟨(-6), (), rfl, (by simp only [Sp_write, and_true, true_and, or_true, true_or, and_false, false_and, or_false, false_or, not_true_eq_false, not_false_eq_true, ne_eq, ki_lt, ki_le, ki_eq, kz_m8, kz_m7, kz_m6, kz_m4, kz_m3, kz_m2, kz_m1, kz_0, kz_1, kz_2, kz_3, kz_4, kz_5, kz_6, kz_7, kz_8, kz_9, kz_10, kz_11, kz_20, kz_60] at c3 c4 ⊢ <;> omega), trivial⟩, hS.F ht⟩) hS.2.2 dX12_write_22
    · refine lv_aload_n hx hb dX12_write_10 rfl (lv_at hl 0 rfl) ?_
      refine va_get (D := (dC, dI)) (ci := 12) (v := .ref (u 38)) (C := RX12) (T := TX12) (N := 42) hx hb hwd inlX12 hown hK hP 0 rfl rfl 38 (by decide) (hwd _ kr8_0) (fun _ h9 => h9) rfl dX12_write_11 ?_
      refine lv_iload_n hx hb dX12_write_14 rfl (lv_at hl 1 rfl) ?_
      refine va_iald hx hb hK hP 1 0 rfl rfl (vin (by decide)) dX12_write_15 ?_
      refine lv_topi (nm_r (e' := ((-1))) (by decide +kernel) ?_)
      refine lv_iconst (v := (-1)) hx hb dX12_write_16 (by decide) ?_
      refine lv_icmp_ne (tgt := 23) hx hb dX12_write_17 (by decide) (fun c7 => absurd c7 (by decide)) (fun c7 => ?_)
      refine lv_bipush (v := (-6)) hx hb dX12_write_20 (by decide) ?_
      exact W.iret (v := (-6)) hx hb hr (fun t ht hW => ⟨⟨(-6), (), rfl, (by simp only [Sp_write, and_true, true_and, or_true, true_or, and_false, false_and, or_false, false_or, not_true_eq_false, not_false_eq_true, ne_eq, ki_lt, ki_le, ki_eq, kz_m8, kz_m7, kz_m6, kz_m4, kz_m3, kz_m2, kz_m1, kz_0, kz_1, kz_2, kz_3, kz_4, kz_5, kz_6, kz_7, kz_8, kz_9, kz_10, kz_11, kz_20, kz_60] at c3 c4 ⊢ <;> omega), trivial⟩, hS.F ht⟩) hS.2.2 dX12_write_22
    · refine lv_aload_n hx hb dX12_write_10 rfl (lv_at hl 0 rfl) ?_
      refine va_get (D := (dC, dI)) (ci := 12) (v := .ref (u 38)) (C := RX12) (T := TX12) (N := 42) hx hb hwd inlX12 hown hK hP 0 rfl rfl 38 (by decide) (hwd _ kr8_0) (fun _ h9 => h9) rfl dX12_write_11 ?_
      refine lv_iload_n hx hb dX12_write_14 rfl (lv_at hl 1 rfl) ?_
      refine va_iald hx hb hK hP 1 0 rfl rfl (vin (by decide)) dX12_write_15 ?_
      refine lv_topi (nm_r (e' := ((-1))) (by decide +kernel) ?_)
      refine lv_iconst (v := (-1)) hx hb dX12_write_16 (by decide) ?_
      refine lv_icmp_ne (tgt := 23) hx hb dX12_write_17 (by decide) (fun c8 => absurd c8 (by decide)) (fun c8 => ?_)
      refine lv_bipush (v := (-6)) hx hb dX12_write_20 (by decide) ?_
      exact W.iret (v := (-6)) hx hb hr (fun t ht hW => ⟨⟨(-6), (), rfl, (by simp only [Sp_write, and_true, true_and, or_true, true_or, and_false, false_and, or_false, false_or, not_true_eq_false, not_false_eq_true, ne_eq, ki_lt, ki_le, ki_eq, kz_m8, kz_m7, kz_m6, kz_m4, kz_m3, kz_m2, kz_m1, kz_0, kz_1, kz_2, kz_3, kz_4, kz_5, kz_6, kz_7, kz_8, kz_9, kz_10, kz_11, kz_20, kz_60] at c3 c4 ⊢ <;> omega), trivial⟩, hS.F ht⟩) hS.2.2 dX12_write_22
    · refine lv_aload_n hx hb dX12_write_10 rfl (lv_at hl 0 rfl) ?_
      refine va_get (D := (dC, dI)) (ci := 12) (v := .ref (u 38)) (C := RX12) (T := TX12) (N := 42) hx hb hwd inlX12 hown hK hP 0 rfl rfl 38 (by decide) (hwd _ kr8_0) (fun _ h9 => h9) rfl dX12_write_11 ?_
      refine lv_iload_n hx hb dX12_write_14 rfl (lv_at hl 1 rfl) ?_
      refine va_iald hx hb hK hP 1 0 rfl rfl (vin (by decide)) dX12_write_15 ?_
      refine lv_topi (nm_r (e' := ((-1))) (by decide +kernel) ?_)
      refine lv_iconst (v := (-1)) hx hb dX12_write_16 (by decide) ?_
      refine lv_icmp_ne (tgt := 23) hx hb dX12_write_17 (by decide) (fun c9 => absurd c9 (by decide)) (fun c9 => ?_)
      refine lv_bipush (v := (-6)) hx hb dX12_write_20 (by decide) ?_
      exact W.iret (v := (-6)) hx hb hr (fun t ht hW => ⟨⟨(-6), (), rfl, (by simp only [Sp_write, and_true, true_and, or_true, true_or, and_false, false_and, or_false, false_or, not_true_eq_false, not_false_eq_true, ne_eq, ki_lt, ki_le, ki_eq, kz_m8, kz_m7, kz_m6, kz_m4, kz_m3, kz_m2, kz_m1, kz_0, kz_1, kz_2, kz_3, kz_4, kz_5, kz_6, kz_7, kz_8, kz_9, kz_10, kz_11, kz_20, kz_60] at c3 c4 ⊢ <;> omega), trivial⟩, hS.F ht⟩) hS.2.2 dX12_write_22
  · refine lv_if_ne (tgt := 10) hx hb dX12_write_4 (by decide) (fun c10 => absurd c10 (by decide)) (fun c10 => ?_)
    refine lv_bipush (v := (-2)) hx hb dX12_write_7 (by decide) ?_
    exact W.iret (v := (-2)) hx hb hr (fun t ht hW => ⟨⟨(-2), (), rfl, (by simp only [Sp_write, and_true, true_and, or_true, true_or, and_false, false_and, or_false, false_or, not_true_eq_false, not_false_eq_true, ne_eq, ki_lt, ki_le, ki_eq, kz_m8, kz_m7, kz_m6, kz_m4, kz_m3, kz_m2, kz_m1, kz_0, kz_1, kz_2, kz_3, kz_4, kz_5, kz_6, kz_7, kz_8, kz_9, kz_10, kz_11, kz_20, kz_60] at c3 ⊢ <;> omega), trivial⟩, hS.F ht⟩) hS.2.2 dX12_write_9
set_option maxHeartbeats 4000000 in
set_option maxRecDepth 100000 in
theorem c_X12_paste (l : Launch) (dC : Nat → ClassId) (dI : Nat → Nat → Nat) (cI cZ cB cJ cM : ClassId) (h0 : Nat) (u : Nat → Nat) (p0 p1 p2 p3 p4 : Int32) (sz : Nat) : Met l yX12_paste (kw yX12_paste cX12_paste 7 (some .int)) ({ frames := 2, cells := 0, slots := 0, locals := 45 }) (va_Pc [.ref h0, .int p0, .int p1, .int p2, .int p3, .int p4] (kPre dC dI [(cI, .int), (cZ, .boolean), (cB, .byte), (cJ, .long), (cM, .object RX2)] [(h0, .inr (12, [.int 0, .ref (u 1), .ref (u 2), .ref (u 3), .ref (u 4), .int 0, .ref (u 6), .int 0, .int 0, .int 0, .int 0, .int 0, .int 0, .int (-1), .ref (u 14), .ref (u 15), .ref (u 16), .ref (u 17), .ref (u 18), .ref (u 19), .ref (u 20), .int 0, .ref (u 22), .int 0, .ref (u 24), .ref (u 25), .int 0, .ref (u 27), .ref (u 28), .ref (u 29), .ref (u 30), .int 0, .int 0, .int 0, .int 0, .int 0, .ref (u 36), .long 0, .ref (u 38), .ref (u 39), .ref (u 40), .ref (u 41)])), (u 38, .inl (cI, 4, .inl (upd (upd (upd (upd (fun _ => 0) 0 (-1)) 1 (-1)) 2 (-1)) 3 (-1))))] sz)) (va_Qi (fun (r : Int32) (_ : Unit) => Sp_paste p0 p2 r) (fun _ _ => True) (va_A [(h0, .inr (12, [.int 0, .ref (u 1), .ref (u 2), .ref (u 3), .ref (u 4), .int 0, .ref (u 6), .int 0, .int 0, .int 0, .int 0, .int 0, .int 0, .int (-1), .ref (u 14), .ref (u 15), .ref (u 16), .ref (u 17), .ref (u 18), .ref (u 19), .ref (u 20), .int 0, .ref (u 22), .int 0, .ref (u 24), .ref (u 25), .int 0, .ref (u 27), .ref (u 28), .ref (u 29), .ref (u 30), .int 0, .int 0, .int 0, .int 0, .int 0, .ref (u 36), .long 0, .ref (u 38), .ref (u 39), .ref (u 40), .ref (u 41)])), (u 38, .inl (cI, 4, .inl (upd (upd (upd (upd (fun _ => 0) 0 (-1)) 1 (-1)) 2 (-1)) 3 (-1))))] sz)) 0 0 (va_A [(h0, .inr (12, [.int 0, .ref (u 1), .ref (u 2), .ref (u 3), .ref (u 4), .int 0, .ref (u 6), .int 0, .int 0, .int 0, .int 0, .int 0, .int 0, .int (-1), .ref (u 14), .ref (u 15), .ref (u 16), .ref (u 17), .ref (u 18), .ref (u 19), .ref (u 20), .int 0, .ref (u 22), .int 0, .ref (u 24), .ref (u 25), .int 0, .ref (u 27), .ref (u 28), .ref (u 29), .ref (u 30), .int 0, .int 0, .int 0, .int 0, .int 0, .ref (u 36), .long 0, .ref (u 38), .ref (u 39), .ref (u 40), .ref (u 41)])), (u 38, .inl (cI, 4, .inl (upd (upd (upd (upd (fun _ => 0) 0 (-1)) 1 (-1)) 2 (-1)) 3 (-1))))] sz) := by
  refine kEnter (by decide) (Nat.le_of_ble_eq_true rfl) ?_
  intro p e s m below meth c ls hx hb hr hml hown hlocks hin hwd hsz hP hK hD hl
  subst hsz
  generalize hAe : va_A [(h0, .inr (12, [.int 0, .ref (u 1), .ref (u 2), .ref (u 3), .ref (u 4), .int 0, .ref (u 6), .int 0, .int 0, .int 0, .int 0, .int 0, .int 0, .int (-1), .ref (u 14), .ref (u 15), .ref (u 16), .ref (u 17), .ref (u 18), .ref (u 19), .ref (u 20), .int 0, .ref (u 22), .int 0, .ref (u 24), .ref (u 25), .int 0, .ref (u 27), .ref (u 28), .ref (u 29), .ref (u 30), .int 0, .int 0, .int 0, .int 0, .int 0, .ref (u 36), .long 0, .ref (u 38), .ref (u 39), .ref (u 40), .ref (u 41)])), (u 38, .inl (cI, 4, .inl (upd (upd (upd (upd (fun _ => 0) 0 (-1)) 1 (-1)) 2 (-1)) 3 (-1))))] s.heap.size = A at hD ⊢
  have hA : ∀ q : Nat, s.heap.size ≤ q → A q := fun q h => by rw [← hAe]; exact Or.inr h
  have hS : va_S A s.heap s.heap [] := va_S.rf
  have hl : lv_has ls 7 [(0, .ref h0), (1, .int p0), (2, .int p1), (3, .int p2), (4, .int p3), (5, .int p4)] := hl
  refine lv_iload_n hx hb dX12_paste_0 rfl (lv_at hl 1 rfl) ?_
  have hPc := hP.sub (ws' := []) [] rfl
  have hDc := hD.sub (ws' := []) [] (by decide) rfl
  have hFc := va_free (wc := []) hD hS hA [] rfl
  refine va_calli (va_runS (As := [.int p0]) (rest := []) ⟨hx, hb, hml, hown, hwd⟩ (c_X12_isSlot l dC dI cI cZ cB cJ cM p0 s.heap.size) (cwS 1 hwd (gS kr28_6 kr28_7 kr1_5 kr28_8) rfl rfl rfl (by decide +kernel) ⟨Nat.le_of_ble_eq_true rfl, Nat.le_of_ble_eq_true rfl⟩) (kPreS hPc hK hDc) rfl rfl hl.1 rfl (lv_room (Nat.le_of_ble_eq_true rfl)) dX12_paste_1 ⟨Nat.le_of_ble_eq_true rfl, Nat.le_of_ble_eq_true rfl⟩) hS (fun q _ h => hFc q h) hFc (fun r1 u2 t H1 locs ht9 hvm hw hB hz1 hk1 hS => ?_)
  obtain ⟨hP1, hD1⟩ := hB
  rw [ht9] at hP1
  obtain ⟨hP, hD⟩ := va_join (wr := [(h0, .inr (12, [.int 0, .ref (u 1), .ref (u 2), .ref (u 3), .ref (u 4), .int 0, .ref (u 6), .int 0, .int 0, .int 0, .int 0, .int 0, .int 0, .int (-1), .ref (u 14), .ref (u 15), .ref (u 16), .ref (u 17), .ref (u 18), .ref (u 19), .ref (u 20), .int 0, .ref (u 22), .int 0, .ref (u 24), .ref (u 25), .int 0, .ref (u 27), .ref (u 28), .ref (u 29), .ref (u 30), .int 0, .int 0, .int 0, .int 0, .int 0, .ref (u 36), .long 0, .ref (u 38), .ref (u 39), .ref (u 40), .ref (u 41)])), (u 38, .inl (cI, 4, .inl (upd (upd (upd (upd (fun _ => 0) 0 (-1)) 1 (-1)) 2 (-1)) 3 (-1))))]) (w1 := []) hP hD [] [0, 1] rfl rfl (by decide) (by decide) hk1 hFc hP1 hD1
  generalize H1 = H at hP hS ⊢
  have hP : va_P (dC, dI) vwCl [(h0, .inr (12, [.int 0, .ref (u 1), .ref (u 2), .ref (u 3), .ref (u 4), .int 0, .ref (u 6), .int 0, .int 0, .int 0, .int 0, .int 0, .int 0, .int (-1), .ref (u 14), .ref (u 15), .ref (u 16), .ref (u 17), .ref (u 18), .ref (u 19), .ref (u 20), .int 0, .ref (u 22), .int 0, .ref (u 24), .ref (u 25), .int 0, .ref (u 27), .ref (u 28), .ref (u 29), .ref (u 30), .int 0, .int 0, .int 0, .int 0, .int 0, .ref (u 36), .long 0, .ref (u 38), .ref (u 39), .ref (u 40), .ref (u 41)])), (u 38, .inl (cI, 4, .inl (upd (upd (upd (upd (fun _ => 0) 0 (-1)) 1 (-1)) 2 (-1)) 3 (-1))))] H := hP
  have hD : va_D A [(h0, .inr (12, [.int 0, .ref (u 1), .ref (u 2), .ref (u 3), .ref (u 4), .int 0, .ref (u 6), .int 0, .int 0, .int 0, .int 0, .int 0, .int 0, .int (-1), .ref (u 14), .ref (u 15), .ref (u 16), .ref (u 17), .ref (u 18), .ref (u 19), .ref (u 20), .int 0, .ref (u 22), .int 0, .ref (u 24), .ref (u 25), .int 0, .ref (u 27), .ref (u 28), .ref (u 29), .ref (u 30), .int 0, .int 0, .int 0, .int 0, .int 0, .ref (u 36), .long 0, .ref (u 38), .ref (u 39), .ref (u 40), .ref (u 41)])), (u 38, .inl (cI, 4, .inl (upd (upd (upd (upd (fun _ => 0) 0 (-1)) 1 (-1)) 2 (-1)) 3 (-1))))] := hD
  rcases hw with ⟨rfl, c3, c4⟩ | ⟨rfl, c3⟩
  · refine lv_if_eq (tgt := 14) hx hb dX12_paste_4 (by decide) (fun c5 => absurd c5 (by decide)) (fun c5 => ?_)
    refine lv_iload_n hx hb dX12_paste_7 rfl (lv_at hl 3 rfl) ?_
    have hPc := hP.sub (ws' := []) [] rfl
    have hDc := hD.sub (ws' := []) [] (by decide) rfl
    have hFc := va_free (wc := []) hD hS hA [] rfl
    refine va_calli (va_runS (As := [.int p2]) (rest := []) ⟨hx, hb, hml, hown, hwd⟩ (c_X12_isSlot l dC dI cI cZ cB cJ cM p2 H.size) (cwS 1 hwd (gS kr28_6 kr28_7 kr1_5 kr28_8) rfl rfl rfl (by decide +kernel) ⟨Nat.le_of_ble_eq_true rfl, Nat.le_of_ble_eq_true rfl⟩) (kPreS hPc hK hDc) rfl rfl hl.1 rfl (lv_room (Nat.le_of_ble_eq_true rfl)) dX12_paste_8 ⟨Nat.le_of_ble_eq_true rfl, Nat.le_of_ble_eq_true rfl⟩) hS (fun q _ h => hFc q h) hFc (fun r6 u7 t H1 locs ht9 hvm hw hB hz1 hk1 hS => ?_)
    obtain ⟨hP1, hD1⟩ := hB
    rw [ht9] at hP1
    obtain ⟨hP, hD⟩ := va_join (wr := [(h0, .inr (12, [.int 0, .ref (u 1), .ref (u 2), .ref (u 3), .ref (u 4), .int 0, .ref (u 6), .int 0, .int 0, .int 0, .int 0, .int 0, .int 0, .int (-1), .ref (u 14), .ref (u 15), .ref (u 16), .ref (u 17), .ref (u 18), .ref (u 19), .ref (u 20), .int 0, .ref (u 22), .int 0, .ref (u 24), .ref (u 25), .int 0, .ref (u 27), .ref (u 28), .ref (u 29), .ref (u 30), .int 0, .int 0, .int 0, .int 0, .int 0, .ref (u 36), .long 0, .ref (u 38), .ref (u 39), .ref (u 40), .ref (u 41)])), (u 38, .inl (cI, 4, .inl (upd (upd (upd (upd (fun _ => 0) 0 (-1)) 1 (-1)) 2 (-1)) 3 (-1))))]) (w1 := []) hP hD [] [0, 1] rfl rfl (by decide) (by decide) hk1 hFc hP1 hD1
    generalize H1 = H at hP hS ⊢
    have hP : va_P (dC, dI) vwCl [(h0, .inr (12, [.int 0, .ref (u 1), .ref (u 2), .ref (u 3), .ref (u 4), .int 0, .ref (u 6), .int 0, .int 0, .int 0, .int 0, .int 0, .int 0, .int (-1), .ref (u 14), .ref (u 15), .ref (u 16), .ref (u 17), .ref (u 18), .ref (u 19), .ref (u 20), .int 0, .ref (u 22), .int 0, .ref (u 24), .ref (u 25), .int 0, .ref (u 27), .ref (u 28), .ref (u 29), .ref (u 30), .int 0, .int 0, .int 0, .int 0, .int 0, .ref (u 36), .long 0, .ref (u 38), .ref (u 39), .ref (u 40), .ref (u 41)])), (u 38, .inl (cI, 4, .inl (upd (upd (upd (upd (fun _ => 0) 0 (-1)) 1 (-1)) 2 (-1)) 3 (-1))))] H := hP
    have hD : va_D A [(h0, .inr (12, [.int 0, .ref (u 1), .ref (u 2), .ref (u 3), .ref (u 4), .int 0, .ref (u 6), .int 0, .int 0, .int 0, .int 0, .int 0, .int 0, .int (-1), .ref (u 14), .ref (u 15), .ref (u 16), .ref (u 17), .ref (u 18), .ref (u 19), .ref (u 20), .int 0, .ref (u 22), .int 0, .ref (u 24), .ref (u 25), .int 0, .ref (u 27), .ref (u 28), .ref (u 29), .ref (u 30), .int 0, .int 0, .int 0, .int 0, .int 0, .ref (u 36), .long 0, .ref (u 38), .ref (u 39), .ref (u 40), .ref (u 41)])), (u 38, .inl (cI, 4, .inl (upd (upd (upd (upd (fun _ => 0) 0 (-1)) 1 (-1)) 2 (-1)) 3 (-1))))] := hD
    rcases hw with ⟨rfl, c8, c9⟩ | ⟨rfl, c8⟩
    · refine lv_if_ne (tgt := 17) hx hb dX12_paste_11 (by decide) (fun c10 => ?_) (fun c10 => absurd c10 (by decide))
      rcases k4le c3 c4 with rfl | rfl | rfl | rfl
      · refine lv_aload_n hx hb dX12_paste_17 rfl (lv_at hl 0 rfl) ?_
        refine va_get (D := (dC, dI)) (ci := 12) (v := .ref (u 38)) (C := RX12) (T := TX12) (N := 42) hx hb hwd inlX12 hown hK hP 0 rfl rfl 38 (by decide) (hwd _ kr8_0) (fun _ h9 => h9) rfl dX12_paste_18 ?_
        refine lv_iload_n hx hb dX12_paste_21 rfl (lv_at hl 1 rfl) ?_
        refine va_iald hx hb hK hP 1 0 rfl rfl (vin (by decide)) dX12_paste_22 ?_
        refine lv_topi (nm_r (e' := ((-1))) (by decide +kernel) ?_)
        refine lv_iconst (v := (-1)) hx hb dX12_paste_23 (by decide) ?_
        refine lv_icmp_eq (tgt := 37) hx hb dX12_paste_24 (by decide) (fun c11 => ?_) (fun c11 => absurd c11 (by decide))
        refine lv_bipush (v := (-6)) hx hb dX12_paste_37 (by decide) ?_
        exact W.iret (v := (-6)) hx hb hr (fun t ht hW => ⟨⟨(-6), (), rfl, (by simp only [Sp_paste, and_true, true_and, or_true, true_or, and_false, false_and, or_false, false_or, not_true_eq_false, not_false_eq_true, ne_eq, ki_lt, ki_le, ki_eq, kz_m8, kz_m7, kz_m6, kz_m4, kz_m3, kz_m2, kz_m1, kz_0, kz_1, kz_2, kz_3, kz_4, kz_5, kz_6, kz_7, kz_8, kz_9, kz_10, kz_11, kz_20, kz_60] at c3 c4 c8 c9 ⊢ <;> omega), trivial⟩, hS.F ht⟩) hS.2.2 dX12_paste_39
      · refine lv_aload_n hx hb dX12_paste_17 rfl (lv_at hl 0 rfl) ?_
        refine va_get (D := (dC, dI)) (ci := 12) (v := .ref (u 38)) (C := RX12) (T := TX12) (N := 42) hx hb hwd inlX12 hown hK hP 0 rfl rfl 38 (by decide) (hwd _ kr8_0) (fun _ h9 => h9) rfl dX12_paste_18 ?_
        refine lv_iload_n hx hb dX12_paste_21 rfl (lv_at hl 1 rfl) ?_
        refine va_iald hx hb hK hP 1 0 rfl rfl (vin (by decide)) dX12_paste_22 ?_
        refine lv_topi (nm_r (e' := ((-1))) (by decide +kernel) ?_)
        refine lv_iconst (v := (-1)) hx hb dX12_paste_23 (by decide) ?_
        refine lv_icmp_eq (tgt := 37) hx hb dX12_paste_24 (by decide) (fun c12 => ?_) (fun c12 => absurd c12 (by decide))
        refine lv_bipush (v := (-6)) hx hb dX12_paste_37 (by decide) ?_
        exact W.iret (v := (-6)) hx hb hr (fun t ht hW => ⟨⟨(-6), (), rfl, (by simp only [Sp_paste, and_true, true_and, or_true, true_or, and_false, false_and, or_false, false_or, not_true_eq_false, not_false_eq_true, ne_eq, ki_lt, ki_le, ki_eq, kz_m8, kz_m7, kz_m6, kz_m4, kz_m3, kz_m2, kz_m1, kz_0, kz_1, kz_2, kz_3, kz_4, kz_5, kz_6, kz_7, kz_8, kz_9, kz_10, kz_11, kz_20, kz_60] at c3 c4 c8 c9 ⊢ <;> omega), trivial⟩, hS.F ht⟩) hS.2.2 dX12_paste_39
      · refine lv_aload_n hx hb dX12_paste_17 rfl (lv_at hl 0 rfl) ?_
        refine va_get (D := (dC, dI)) (ci := 12) (v := .ref (u 38)) (C := RX12) (T := TX12) (N := 42) hx hb hwd inlX12 hown hK hP 0 rfl rfl 38 (by decide) (hwd _ kr8_0) (fun _ h9 => h9) rfl dX12_paste_18 ?_
        refine lv_iload_n hx hb dX12_paste_21 rfl (lv_at hl 1 rfl) ?_
        refine va_iald hx hb hK hP 1 0 rfl rfl (vin (by decide)) dX12_paste_22 ?_
        refine lv_topi (nm_r (e' := ((-1))) (by decide +kernel) ?_)
        refine lv_iconst (v := (-1)) hx hb dX12_paste_23 (by decide) ?_
        refine lv_icmp_eq (tgt := 37) hx hb dX12_paste_24 (by decide) (fun c13 => ?_) (fun c13 => absurd c13 (by decide))
        refine lv_bipush (v := (-6)) hx hb dX12_paste_37 (by decide) ?_
        exact W.iret (v := (-6)) hx hb hr (fun t ht hW => ⟨⟨(-6), (), rfl, (by simp only [Sp_paste, and_true, true_and, or_true, true_or, and_false, false_and, or_false, false_or, not_true_eq_false, not_false_eq_true, ne_eq, ki_lt, ki_le, ki_eq, kz_m8, kz_m7, kz_m6, kz_m4, kz_m3, kz_m2, kz_m1, kz_0, kz_1, kz_2, kz_3, kz_4, kz_5, kz_6, kz_7, kz_8, kz_9, kz_10, kz_11, kz_20, kz_60] at c3 c4 c8 c9 ⊢ <;> omega), trivial⟩, hS.F ht⟩) hS.2.2 dX12_paste_39
      · refine lv_aload_n hx hb dX12_paste_17 rfl (lv_at hl 0 rfl) ?_
        refine va_get (D := (dC, dI)) (ci := 12) (v := .ref (u 38)) (C := RX12) (T := TX12) (N := 42) hx hb hwd inlX12 hown hK hP 0 rfl rfl 38 (by decide) (hwd _ kr8_0) (fun _ h9 => h9) rfl dX12_paste_18 ?_
        refine lv_iload_n hx hb dX12_paste_21 rfl (lv_at hl 1 rfl) ?_
        refine va_iald hx hb hK hP 1 0 rfl rfl (vin (by decide)) dX12_paste_22 ?_
        refine lv_topi (nm_r (e' := ((-1))) (by decide +kernel) ?_)
        refine lv_iconst (v := (-1)) hx hb dX12_paste_23 (by decide) ?_
        refine lv_icmp_eq (tgt := 37) hx hb dX12_paste_24 (by decide) (fun c14 => ?_) (fun c14 => absurd c14 (by decide))
        refine lv_bipush (v := (-6)) hx hb dX12_paste_37 (by decide) ?_
        exact W.iret (v := (-6)) hx hb hr (fun t ht hW => ⟨⟨(-6), (), rfl, (by simp only [Sp_paste, and_true, true_and, or_true, true_or, and_false, false_and, or_false, false_or, not_true_eq_false, not_false_eq_true, ne_eq, ki_lt, ki_le, ki_eq, kz_m8, kz_m7, kz_m6, kz_m4, kz_m3, kz_m2, kz_m1, kz_0, kz_1, kz_2, kz_3, kz_4, kz_5, kz_6, kz_7, kz_8, kz_9, kz_10, kz_11, kz_20, kz_60] at c3 c4 c8 c9 ⊢ <;> omega), trivial⟩, hS.F ht⟩) hS.2.2 dX12_paste_39
    · refine lv_if_ne (tgt := 17) hx hb dX12_paste_11 (by decide) (fun c15 => absurd c15 (by decide)) (fun c15 => ?_)
      refine lv_bipush (v := (-2)) hx hb dX12_paste_14 (by decide) ?_
      exact W.iret (v := (-2)) hx hb hr (fun t ht hW => ⟨⟨(-2), (), rfl, (by simp only [Sp_paste, and_true, true_and, or_true, true_or, and_false, false_and, or_false, false_or, not_true_eq_false, not_false_eq_true, ne_eq, ki_lt, ki_le, ki_eq, kz_m8, kz_m7, kz_m6, kz_m4, kz_m3, kz_m2, kz_m1, kz_0, kz_1, kz_2, kz_3, kz_4, kz_5, kz_6, kz_7, kz_8, kz_9, kz_10, kz_11, kz_20, kz_60] at c3 c4 c8 ⊢ <;> omega), trivial⟩, hS.F ht⟩) hS.2.2 dX12_paste_16
  · refine lv_if_eq (tgt := 14) hx hb dX12_paste_4 (by decide) (fun c16 => ?_) (fun c16 => absurd c16 (by decide))
    refine lv_bipush (v := (-2)) hx hb dX12_paste_14 (by decide) ?_
    exact W.iret (v := (-2)) hx hb hr (fun t ht hW => ⟨⟨(-2), (), rfl, (by simp only [Sp_paste, and_true, true_and, or_true, true_or, and_false, false_and, or_false, false_or, not_true_eq_false, not_false_eq_true, ne_eq, ki_lt, ki_le, ki_eq, kz_m8, kz_m7, kz_m6, kz_m4, kz_m3, kz_m2, kz_m1, kz_0, kz_1, kz_2, kz_3, kz_4, kz_5, kz_6, kz_7, kz_8, kz_9, kz_10, kz_11, kz_20, kz_60] at c3 ⊢ <;> omega), trivial⟩, hS.F ht⟩) hS.2.2 dX12_paste_16
set_option maxHeartbeats 4000000 in
set_option maxRecDepth 100000 in
theorem c_X12_feed (l : Launch) (dC : Nat → ClassId) (dI : Nat → Nat → Nat) (cI cZ cB cJ cM : ClassId) (h0 : Nat) (u : Nat → Nat) (p0 p1 p2 p3 p4 : Int32) (sz : Nat) : Met l yX12_feed (kw yX12_feed cX12_feed 7 (some .int)) ({ frames := 0, cells := 0, slots := 0, locals := 0 }) (va_Pc [.ref h0, .int p0, .int p1, .int p2, .int p3, .int p4] (kPre dC dI [(cI, .int), (cZ, .boolean), (cB, .byte), (cJ, .long), (cM, .object RX2)] [(h0, .inr (12, [.int 0, .ref (u 1), .ref (u 2), .ref (u 3), .ref (u 4), .int 0, .ref (u 6), .int 0, .int 0, .int 0, .int 0, .int 0, .int 0, .int (-1), .ref (u 14), .ref (u 15), .ref (u 16), .ref (u 17), .ref (u 18), .ref (u 19), .ref (u 20), .int 0, .ref (u 22), .int 0, .ref (u 24), .ref (u 25), .int 0, .ref (u 27), .ref (u 28), .ref (u 29), .ref (u 30), .int 0, .int 0, .int 0, .int 0, .int 0, .ref (u 36), .long 0, .ref (u 38), .ref (u 39), .ref (u 40), .ref (u 41)])), (u 4, .inl (cB, 1600, .inl (fun _ => 0))), (u 6, .inl (cI, 5, .inl (fun _ => 0)))] sz)) (va_Qi (fun (r : Int32) (_ : Unit) => r = 20) (fun _ _ => True) (va_A [(h0, .inr (12, [.int 0, .ref (u 1), .ref (u 2), .ref (u 3), .ref (u 4), .int 0, .ref (u 6), .int 0, .int 0, .int 0, .int 0, .int 0, .int 0, .int (-1), .ref (u 14), .ref (u 15), .ref (u 16), .ref (u 17), .ref (u 18), .ref (u 19), .ref (u 20), .int 0, .ref (u 22), .int 0, .ref (u 24), .ref (u 25), .int 0, .ref (u 27), .ref (u 28), .ref (u 29), .ref (u 30), .int 0, .int 0, .int 0, .int 0, .int 0, .ref (u 36), .long 0, .ref (u 38), .ref (u 39), .ref (u 40), .ref (u 41)])), (u 4, .inl (cB, 1600, .inl (fun _ => 0))), (u 6, .inl (cI, 5, .inl (fun _ => 0)))] sz)) 0 0 (va_A [(h0, .inr (12, [.int 0, .ref (u 1), .ref (u 2), .ref (u 3), .ref (u 4), .int 0, .ref (u 6), .int 0, .int 0, .int 0, .int 0, .int 0, .int 0, .int (-1), .ref (u 14), .ref (u 15), .ref (u 16), .ref (u 17), .ref (u 18), .ref (u 19), .ref (u 20), .int 0, .ref (u 22), .int 0, .ref (u 24), .ref (u 25), .int 0, .ref (u 27), .ref (u 28), .ref (u 29), .ref (u 30), .int 0, .int 0, .int 0, .int 0, .int 0, .ref (u 36), .long 0, .ref (u 38), .ref (u 39), .ref (u 40), .ref (u 41)])), (u 4, .inl (cB, 1600, .inl (fun _ => 0))), (u 6, .inl (cI, 5, .inl (fun _ => 0)))] sz) := by
  refine kEnter (by decide) (Nat.le_of_ble_eq_true rfl) ?_
  intro p e s m below meth c ls hx hb hr hml hown hlocks hin hwd hsz hP hK hD hl
  subst hsz
  generalize hAe : va_A [(h0, .inr (12, [.int 0, .ref (u 1), .ref (u 2), .ref (u 3), .ref (u 4), .int 0, .ref (u 6), .int 0, .int 0, .int 0, .int 0, .int 0, .int 0, .int (-1), .ref (u 14), .ref (u 15), .ref (u 16), .ref (u 17), .ref (u 18), .ref (u 19), .ref (u 20), .int 0, .ref (u 22), .int 0, .ref (u 24), .ref (u 25), .int 0, .ref (u 27), .ref (u 28), .ref (u 29), .ref (u 30), .int 0, .int 0, .int 0, .int 0, .int 0, .ref (u 36), .long 0, .ref (u 38), .ref (u 39), .ref (u 40), .ref (u 41)])), (u 4, .inl (cB, 1600, .inl (fun _ => 0))), (u 6, .inl (cI, 5, .inl (fun _ => 0)))] s.heap.size = A at hD ⊢
  have hA : ∀ q : Nat, s.heap.size ≤ q → A q := fun q h => by rw [← hAe]; exact Or.inr h
  have hS : va_S A s.heap s.heap [] := va_S.rf
  have hl : lv_has ls 7 [(0, .ref h0), (1, .int p0), (2, .int p1), (3, .int p2), (4, .int p3), (5, .int p4)] := hl
  refine lv_aload_n hx hb dX12_feed_0 rfl (lv_at hl 0 rfl) ?_
  refine va_get (D := (dC, dI)) (ci := 12) (v := .int 0) (C := RX12) (T := TX12) (N := 42) hx hb hwd inlX12 hown hK hP 0 rfl rfl 5 (by decide) (hwd _ kr9_1) (fun _ h9 => h9) rfl dX12_feed_1 ?_
  refine lv_bipush (v := 20) hx hb dX12_feed_4 (by decide) ?_
  refine lv_iadd hx hb dX12_feed_6 ?_
  refine lv_topi (nm_r (e' := (20)) (by decide +kernel) ?_)
  refine lv_sipush (v := 1600) hx hb dX12_feed_7 (by decide) ?_
  refine lv_icmp_le (tgt := 15) hx hb dX12_feed_10 (by decide) (fun c1 => ?_) (fun c1 => absurd c1 (by decide))
  refine lv_aload_n hx hb dX12_feed_15 rfl (lv_at hl 0 rfl) ?_
  refine va_get (D := (dC, dI)) (ci := 12) (v := .ref (u 6)) (C := RX12) (T := TX12) (N := 42) hx hb hwd inlX12 hown hK hP 0 rfl rfl 6 (by decide) (hwd _ kr7_7) (fun _ h9 => h9) rfl dX12_feed_16 ?_
  refine lv_iconst (v := 0) hx hb dX12_feed_19 (by decide) ?_
  refine lv_iload_n hx hb dX12_feed_20 rfl (lv_at hl 1 rfl) ?_
  refine va_iast hx hb hK hP hD hS 2 0 rfl rfl (vin (by decide)) dX12_feed_21 (fun H locs hP hD hS => ?_)
  obtain ⟨f2, ef2⟩ : ∃ f, f = upd (fun _ => 0) (0 : Int32).toNatClampNeg p0 := ⟨_, rfl⟩
  have hP : va_P (dC, dI) vwCl [(h0, .inr (12, [.int 0, .ref (u 1), .ref (u 2), .ref (u 3), .ref (u 4), .int 0, .ref (u 6), .int 0, .int 0, .int 0, .int 0, .int 0, .int 0, .int (-1), .ref (u 14), .ref (u 15), .ref (u 16), .ref (u 17), .ref (u 18), .ref (u 19), .ref (u 20), .int 0, .ref (u 22), .int 0, .ref (u 24), .ref (u 25), .int 0, .ref (u 27), .ref (u 28), .ref (u 29), .ref (u 30), .int 0, .int 0, .int 0, .int 0, .int 0, .ref (u 36), .long 0, .ref (u 38), .ref (u 39), .ref (u 40), .ref (u 41)])), (u 4, .inl (cB, 1600, .inl (fun _ => 0))), (u 6, .inl (cI, 5, .inl f2))] H := by rw [ef2]; exact hP
  have hD : va_D A [(h0, .inr (12, [.int 0, .ref (u 1), .ref (u 2), .ref (u 3), .ref (u 4), .int 0, .ref (u 6), .int 0, .int 0, .int 0, .int 0, .int 0, .int 0, .int (-1), .ref (u 14), .ref (u 15), .ref (u 16), .ref (u 17), .ref (u 18), .ref (u 19), .ref (u 20), .int 0, .ref (u 22), .int 0, .ref (u 24), .ref (u 25), .int 0, .ref (u 27), .ref (u 28), .ref (u 29), .ref (u 30), .int 0, .int 0, .int 0, .int 0, .int 0, .ref (u 36), .long 0, .ref (u 38), .ref (u 39), .ref (u 40), .ref (u 41)])), (u 4, .inl (cB, 1600, .inl (fun _ => 0))), (u 6, .inl (cI, 5, .inl f2))] := by rw [ef2]; exact hD
  refine lv_aload_n hx hb dX12_feed_22 rfl (lv_at hl 0 rfl) ?_
  refine va_get (D := (dC, dI)) (ci := 12) (v := .ref (u 6)) (C := RX12) (T := TX12) (N := 42) hx hb hwd inlX12 hown hK hP 0 rfl rfl 6 (by decide) (hwd _ kr7_7) (fun _ h9 => h9) rfl dX12_feed_23 ?_
  refine lv_iconst (v := 1) hx hb dX12_feed_26 (by decide) ?_
  refine lv_iload_n hx hb dX12_feed_27 rfl (lv_at hl 2 rfl) ?_
  refine va_iast hx hb hK hP hD hS 2 0 rfl rfl (vin (by decide)) dX12_feed_28 (fun H locs hP hD hS => ?_)
  obtain ⟨f3, ef3⟩ : ∃ f, f = upd f2 (1 : Int32).toNatClampNeg p1 := ⟨_, rfl⟩
  have hP : va_P (dC, dI) vwCl [(h0, .inr (12, [.int 0, .ref (u 1), .ref (u 2), .ref (u 3), .ref (u 4), .int 0, .ref (u 6), .int 0, .int 0, .int 0, .int 0, .int 0, .int 0, .int (-1), .ref (u 14), .ref (u 15), .ref (u 16), .ref (u 17), .ref (u 18), .ref (u 19), .ref (u 20), .int 0, .ref (u 22), .int 0, .ref (u 24), .ref (u 25), .int 0, .ref (u 27), .ref (u 28), .ref (u 29), .ref (u 30), .int 0, .int 0, .int 0, .int 0, .int 0, .ref (u 36), .long 0, .ref (u 38), .ref (u 39), .ref (u 40), .ref (u 41)])), (u 4, .inl (cB, 1600, .inl (fun _ => 0))), (u 6, .inl (cI, 5, .inl f3))] H := by rw [ef3]; exact hP
  have hD : va_D A [(h0, .inr (12, [.int 0, .ref (u 1), .ref (u 2), .ref (u 3), .ref (u 4), .int 0, .ref (u 6), .int 0, .int 0, .int 0, .int 0, .int 0, .int 0, .int (-1), .ref (u 14), .ref (u 15), .ref (u 16), .ref (u 17), .ref (u 18), .ref (u 19), .ref (u 20), .int 0, .ref (u 22), .int 0, .ref (u 24), .ref (u 25), .int 0, .ref (u 27), .ref (u 28), .ref (u 29), .ref (u 30), .int 0, .int 0, .int 0, .int 0, .int 0, .ref (u 36), .long 0, .ref (u 38), .ref (u 39), .ref (u 40), .ref (u 41)])), (u 4, .inl (cB, 1600, .inl (fun _ => 0))), (u 6, .inl (cI, 5, .inl f3))] := by rw [ef3]; exact hD
  refine lv_aload_n hx hb dX12_feed_29 rfl (lv_at hl 0 rfl) ?_
  refine va_get (D := (dC, dI)) (ci := 12) (v := .ref (u 6)) (C := RX12) (T := TX12) (N := 42) hx hb hwd inlX12 hown hK hP 0 rfl rfl 6 (by decide) (hwd _ kr7_7) (fun _ h9 => h9) rfl dX12_feed_30 ?_
  refine lv_iconst (v := 2) hx hb dX12_feed_33 (by decide) ?_
  refine lv_iload_n hx hb dX12_feed_34 rfl (lv_at hl 3 rfl) ?_
  refine va_iast hx hb hK hP hD hS 2 0 rfl rfl (vin (by decide)) dX12_feed_35 (fun H locs hP hD hS => ?_)
  obtain ⟨f4, ef4⟩ : ∃ f, f = upd f3 (2 : Int32).toNatClampNeg p2 := ⟨_, rfl⟩
  have hP : va_P (dC, dI) vwCl [(h0, .inr (12, [.int 0, .ref (u 1), .ref (u 2), .ref (u 3), .ref (u 4), .int 0, .ref (u 6), .int 0, .int 0, .int 0, .int 0, .int 0, .int 0, .int (-1), .ref (u 14), .ref (u 15), .ref (u 16), .ref (u 17), .ref (u 18), .ref (u 19), .ref (u 20), .int 0, .ref (u 22), .int 0, .ref (u 24), .ref (u 25), .int 0, .ref (u 27), .ref (u 28), .ref (u 29), .ref (u 30), .int 0, .int 0, .int 0, .int 0, .int 0, .ref (u 36), .long 0, .ref (u 38), .ref (u 39), .ref (u 40), .ref (u 41)])), (u 4, .inl (cB, 1600, .inl (fun _ => 0))), (u 6, .inl (cI, 5, .inl f4))] H := by rw [ef4]; exact hP
  have hD : va_D A [(h0, .inr (12, [.int 0, .ref (u 1), .ref (u 2), .ref (u 3), .ref (u 4), .int 0, .ref (u 6), .int 0, .int 0, .int 0, .int 0, .int 0, .int 0, .int (-1), .ref (u 14), .ref (u 15), .ref (u 16), .ref (u 17), .ref (u 18), .ref (u 19), .ref (u 20), .int 0, .ref (u 22), .int 0, .ref (u 24), .ref (u 25), .int 0, .ref (u 27), .ref (u 28), .ref (u 29), .ref (u 30), .int 0, .int 0, .int 0, .int 0, .int 0, .ref (u 36), .long 0, .ref (u 38), .ref (u 39), .ref (u 40), .ref (u 41)])), (u 4, .inl (cB, 1600, .inl (fun _ => 0))), (u 6, .inl (cI, 5, .inl f4))] := by rw [ef4]; exact hD
  refine lv_aload_n hx hb dX12_feed_36 rfl (lv_at hl 0 rfl) ?_
  refine va_get (D := (dC, dI)) (ci := 12) (v := .ref (u 6)) (C := RX12) (T := TX12) (N := 42) hx hb hwd inlX12 hown hK hP 0 rfl rfl 6 (by decide) (hwd _ kr7_7) (fun _ h9 => h9) rfl dX12_feed_37 ?_
  refine lv_iconst (v := 3) hx hb dX12_feed_40 (by decide) ?_
  refine lv_iload hx hb dX12_feed_41 (lv_at hl 4 rfl) ?_
  refine va_iast hx hb hK hP hD hS 2 0 rfl rfl (vin (by decide)) dX12_feed_43 (fun H locs hP hD hS => ?_)
  obtain ⟨f5, ef5⟩ : ∃ f, f = upd f4 (3 : Int32).toNatClampNeg p3 := ⟨_, rfl⟩
  have hP : va_P (dC, dI) vwCl [(h0, .inr (12, [.int 0, .ref (u 1), .ref (u 2), .ref (u 3), .ref (u 4), .int 0, .ref (u 6), .int 0, .int 0, .int 0, .int 0, .int 0, .int 0, .int (-1), .ref (u 14), .ref (u 15), .ref (u 16), .ref (u 17), .ref (u 18), .ref (u 19), .ref (u 20), .int 0, .ref (u 22), .int 0, .ref (u 24), .ref (u 25), .int 0, .ref (u 27), .ref (u 28), .ref (u 29), .ref (u 30), .int 0, .int 0, .int 0, .int 0, .int 0, .ref (u 36), .long 0, .ref (u 38), .ref (u 39), .ref (u 40), .ref (u 41)])), (u 4, .inl (cB, 1600, .inl (fun _ => 0))), (u 6, .inl (cI, 5, .inl f5))] H := by rw [ef5]; exact hP
  have hD : va_D A [(h0, .inr (12, [.int 0, .ref (u 1), .ref (u 2), .ref (u 3), .ref (u 4), .int 0, .ref (u 6), .int 0, .int 0, .int 0, .int 0, .int 0, .int 0, .int (-1), .ref (u 14), .ref (u 15), .ref (u 16), .ref (u 17), .ref (u 18), .ref (u 19), .ref (u 20), .int 0, .ref (u 22), .int 0, .ref (u 24), .ref (u 25), .int 0, .ref (u 27), .ref (u 28), .ref (u 29), .ref (u 30), .int 0, .int 0, .int 0, .int 0, .int 0, .ref (u 36), .long 0, .ref (u 38), .ref (u 39), .ref (u 40), .ref (u 41)])), (u 4, .inl (cB, 1600, .inl (fun _ => 0))), (u 6, .inl (cI, 5, .inl f5))] := by rw [ef5]; exact hD
  refine lv_aload_n hx hb dX12_feed_44 rfl (lv_at hl 0 rfl) ?_
  refine va_get (D := (dC, dI)) (ci := 12) (v := .ref (u 6)) (C := RX12) (T := TX12) (N := 42) hx hb hwd inlX12 hown hK hP 0 rfl rfl 6 (by decide) (hwd _ kr7_7) (fun _ h9 => h9) rfl dX12_feed_45 ?_
  refine lv_iconst (v := 4) hx hb dX12_feed_48 (by decide) ?_
  refine lv_iload hx hb dX12_feed_49 (lv_at hl 5 rfl) ?_
  refine va_iast hx hb hK hP hD hS 2 0 rfl rfl (vin (by decide)) dX12_feed_51 (fun H locs hP hD hS => ?_)
  obtain ⟨f6, ef6⟩ : ∃ f, f = upd f5 (4 : Int32).toNatClampNeg p4 := ⟨_, rfl⟩
  have hP : va_P (dC, dI) vwCl [(h0, .inr (12, [.int 0, .ref (u 1), .ref (u 2), .ref (u 3), .ref (u 4), .int 0, .ref (u 6), .int 0, .int 0, .int 0, .int 0, .int 0, .int 0, .int (-1), .ref (u 14), .ref (u 15), .ref (u 16), .ref (u 17), .ref (u 18), .ref (u 19), .ref (u 20), .int 0, .ref (u 22), .int 0, .ref (u 24), .ref (u 25), .int 0, .ref (u 27), .ref (u 28), .ref (u 29), .ref (u 30), .int 0, .int 0, .int 0, .int 0, .int 0, .ref (u 36), .long 0, .ref (u 38), .ref (u 39), .ref (u 40), .ref (u 41)])), (u 4, .inl (cB, 1600, .inl (fun _ => 0))), (u 6, .inl (cI, 5, .inl f6))] H := by rw [ef6]; exact hP
  have hD : va_D A [(h0, .inr (12, [.int 0, .ref (u 1), .ref (u 2), .ref (u 3), .ref (u 4), .int 0, .ref (u 6), .int 0, .int 0, .int 0, .int 0, .int 0, .int 0, .int (-1), .ref (u 14), .ref (u 15), .ref (u 16), .ref (u 17), .ref (u 18), .ref (u 19), .ref (u 20), .int 0, .ref (u 22), .int 0, .ref (u 24), .ref (u 25), .int 0, .ref (u 27), .ref (u 28), .ref (u 29), .ref (u 30), .int 0, .int 0, .int 0, .int 0, .int 0, .ref (u 36), .long 0, .ref (u 38), .ref (u 39), .ref (u 40), .ref (u 41)])), (u 4, .inl (cB, 1600, .inl (fun _ => 0))), (u 6, .inl (cI, 5, .inl f6))] := by rw [ef6]; exact hD
  refine lv_iconst (v := 0) hx hb dX12_feed_52 (by decide) ?_
  refine lv_istore (lv' := [(6, .int 0), (0, .ref h0), (1, .int p0), (2, .int p1), (3, .int p2), (4, .int p3), (5, .int p4)]) hx hb dX12_feed_53 hl (by decide) rfl (fun ls hl => ?_)
  refine lv_iload hx hb dX12_feed_55 (lv_at hl 0 rfl) ?_
  refine lv_bipush (v := 20) hx hb dX12_feed_57 (by decide) ?_
  refine lv_icmp_ge (tgt := 101) hx hb dX12_feed_59 (by decide) (fun c7 => absurd c7 (by decide)) (fun c7 => ?_)
  refine lv_aload_n hx hb dX12_feed_62 rfl (lv_at hl 1 rfl) ?_
  refine va_get (D := (dC, dI)) (ci := 12) (v := .ref (u 4)) (C := RX12) (T := TX12) (N := 42) hx hb hwd inlX12 hown hK hP 0 rfl rfl 4 (by decide) (hwd _ kr7_6) (fun _ h9 => h9) rfl dX12_feed_63 ?_
  refine lv_aload_n hx hb dX12_feed_66 rfl (lv_at hl 1 rfl) ?_
  refine va_get (D := (dC, dI)) (ci := 12) (v := .int 0) (C := RX12) (T := TX12) (N := 42) hx hb hwd inlX12 hown hK hP 0 rfl rfl 5 (by decide) (hwd _ kr9_1) (fun _ h9 => h9) rfl dX12_feed_67 ?_
  refine lv_iload hx hb dX12_feed_70 (lv_at hl 0 rfl) ?_
  refine lv_iadd hx hb dX12_feed_72 ?_
  refine lv_topi (nm_r (e' := (0)) (by decide +kernel) ?_)
  refine lv_aload_n hx hb dX12_feed_73 rfl (lv_at hl 1 rfl) ?_
  refine va_get (D := (dC, dI)) (ci := 12) (v := .ref (u 6)) (C := RX12) (T := TX12) (N := 42) hx hb hwd inlX12 hown hK hP 0 rfl rfl 6 (by decide) (hwd _ kr7_7) (fun _ h9 => h9) rfl dX12_feed_74 ?_
  refine lv_iload hx hb dX12_feed_77 (lv_at hl 0 rfl) ?_
  refine lv_iconst (v := 4) hx hb dX12_feed_79 (by decide) ?_
  refine lv_idiv hx hb dX12_feed_80 (by decide) ?_
  refine lv_topi (nm_r (e' := (0)) (by decide +kernel) ?_)
  refine va_iald hx hb hK hP 2 0 rfl rfl (vin (by decide)) dX12_feed_81 ?_
  refine lv_topi (fun x8 ex8 => ?_)
  refine lv_bipush (v := 24) hx hb dX12_feed_82 (by decide) ?_
  refine lv_bipush (v := 8) hx hb dX12_feed_84 (by decide) ?_
  refine lv_iload hx hb dX12_feed_86 (lv_at hl 0 rfl) ?_
  refine lv_iconst (v := 4) hx hb dX12_feed_88 (by decide) ?_
  refine lv_irem hx hb dX12_feed_89 (by decide) ?_
  refine lv_topi (nm_r (e' := (0)) (by decide +kernel) ?_)
  refine lv_imul hx hb dX12_feed_90 ?_
  refine lv_topi (nm_r (e' := (0)) (by decide +kernel) ?_)
  refine lv_isub hx hb dX12_feed_91 ?_
  refine lv_topi (nm_r (e' := (24)) (by decide +kernel) ?_)
  refine lv_ishr hx hb dX12_feed_92 ?_
  refine lv_topi (fun x9 ex9 => ?_)
  refine lv_i2b hx hb dX12_feed_93 rfl ?_
  refine lv_topi (fun x10 ex10 => ?_)
  refine va_bast hx hb hK hP hD hS 1 2 rfl rfl (vin (by decide)) dX12_feed_94 (fun H locs hP hD hS => ?_)
  obtain ⟨f11, ef11⟩ : ∃ f, f = upd (fun _ => 0) (0 : Int32).toNatClampNeg (vp_nar .byte x10) := ⟨_, rfl⟩
  have hP : va_P (dC, dI) vwCl [(h0, .inr (12, [.int 0, .ref (u 1), .ref (u 2), .ref (u 3), .ref (u 4), .int 0, .ref (u 6), .int 0, .int 0, .int 0, .int 0, .int 0, .int 0, .int (-1), .ref (u 14), .ref (u 15), .ref (u 16), .ref (u 17), .ref (u 18), .ref (u 19), .ref (u 20), .int 0, .ref (u 22), .int 0, .ref (u 24), .ref (u 25), .int 0, .ref (u 27), .ref (u 28), .ref (u 29), .ref (u 30), .int 0, .int 0, .int 0, .int 0, .int 0, .ref (u 36), .long 0, .ref (u 38), .ref (u 39), .ref (u 40), .ref (u 41)])), (u 4, .inl (cB, 1600, .inl f11)), (u 6, .inl (cI, 5, .inl f6))] H := by rw [ef11]; exact hP
  have hD : va_D A [(h0, .inr (12, [.int 0, .ref (u 1), .ref (u 2), .ref (u 3), .ref (u 4), .int 0, .ref (u 6), .int 0, .int 0, .int 0, .int 0, .int 0, .int 0, .int (-1), .ref (u 14), .ref (u 15), .ref (u 16), .ref (u 17), .ref (u 18), .ref (u 19), .ref (u 20), .int 0, .ref (u 22), .int 0, .ref (u 24), .ref (u 25), .int 0, .ref (u 27), .ref (u 28), .ref (u 29), .ref (u 30), .int 0, .int 0, .int 0, .int 0, .int 0, .ref (u 36), .long 0, .ref (u 38), .ref (u 39), .ref (u 40), .ref (u 41)])), (u 4, .inl (cB, 1600, .inl f11)), (u 6, .inl (cI, 5, .inl f6))] := by rw [ef11]; exact hD
  refine lv_iinc (v := 1) (lv' := [(6, .int 1), (0, .ref h0), (1, .int p0), (2, .int p1), (3, .int p2), (4, .int p3), (5, .int p4)]) hx hb dX12_feed_95 hl (k := 0) rfl (by decide) (by decide) rfl (fun ls hl => ?_)
  refine lv_goto (tgt := 55) hx hb dX12_feed_98 (by decide) ?_
  refine lv_iload hx hb dX12_feed_55 (lv_at hl 0 rfl) ?_
  refine lv_bipush (v := 20) hx hb dX12_feed_57 (by decide) ?_
  refine lv_icmp_ge (tgt := 101) hx hb dX12_feed_59 (by decide) (fun c12 => absurd c12 (by decide)) (fun c12 => ?_)
  refine lv_aload_n hx hb dX12_feed_62 rfl (lv_at hl 1 rfl) ?_
  refine va_get (D := (dC, dI)) (ci := 12) (v := .ref (u 4)) (C := RX12) (T := TX12) (N := 42) hx hb hwd inlX12 hown hK hP 0 rfl rfl 4 (by decide) (hwd _ kr7_6) (fun _ h9 => h9) rfl dX12_feed_63 ?_
  refine lv_aload_n hx hb dX12_feed_66 rfl (lv_at hl 1 rfl) ?_
  refine va_get (D := (dC, dI)) (ci := 12) (v := .int 0) (C := RX12) (T := TX12) (N := 42) hx hb hwd inlX12 hown hK hP 0 rfl rfl 5 (by decide) (hwd _ kr9_1) (fun _ h9 => h9) rfl dX12_feed_67 ?_
  refine lv_iload hx hb dX12_feed_70 (lv_at hl 0 rfl) ?_
  refine lv_iadd hx hb dX12_feed_72 ?_
  refine lv_topi (nm_r (e' := (1)) (by decide +kernel) ?_)
  refine lv_aload_n hx hb dX12_feed_73 rfl (lv_at hl 1 rfl) ?_
  refine va_get (D := (dC, dI)) (ci := 12) (v := .ref (u 6)) (C := RX12) (T := TX12) (N := 42) hx hb hwd inlX12 hown hK hP 0 rfl rfl 6 (by decide) (hwd _ kr7_7) (fun _ h9 => h9) rfl dX12_feed_74 ?_
  refine lv_iload hx hb dX12_feed_77 (lv_at hl 0 rfl) ?_
  refine lv_iconst (v := 4) hx hb dX12_feed_79 (by decide) ?_
  refine lv_idiv hx hb dX12_feed_80 (by decide) ?_
  refine lv_topi (nm_r (e' := (0)) (by decide +kernel) ?_)
  refine va_iald hx hb hK hP 2 0 rfl rfl (vin (by decide)) dX12_feed_81 ?_
  refine lv_topi (fun x13 ex13 => ?_)
  refine lv_bipush (v := 24) hx hb dX12_feed_82 (by decide) ?_
  refine lv_bipush (v := 8) hx hb dX12_feed_84 (by decide) ?_
  refine lv_iload hx hb dX12_feed_86 (lv_at hl 0 rfl) ?_
  refine lv_iconst (v := 4) hx hb dX12_feed_88 (by decide) ?_
  refine lv_irem hx hb dX12_feed_89 (by decide) ?_
  refine lv_topi (nm_r (e' := (1)) (by decide +kernel) ?_)
  refine lv_imul hx hb dX12_feed_90 ?_
  refine lv_topi (nm_r (e' := (8)) (by decide +kernel) ?_)
  refine lv_isub hx hb dX12_feed_91 ?_
  refine lv_topi (nm_r (e' := (16)) (by decide +kernel) ?_)
  refine lv_ishr hx hb dX12_feed_92 ?_
  refine lv_topi (fun x14 ex14 => ?_)
  refine lv_i2b hx hb dX12_feed_93 rfl ?_
  refine lv_topi (fun x15 ex15 => ?_)
  refine va_bast hx hb hK hP hD hS 1 2 rfl rfl (vin (by decide)) dX12_feed_94 (fun H locs hP hD hS => ?_)
  obtain ⟨f16, ef16⟩ : ∃ f, f = upd f11 (1 : Int32).toNatClampNeg (vp_nar .byte x15) := ⟨_, rfl⟩
  have hP : va_P (dC, dI) vwCl [(h0, .inr (12, [.int 0, .ref (u 1), .ref (u 2), .ref (u 3), .ref (u 4), .int 0, .ref (u 6), .int 0, .int 0, .int 0, .int 0, .int 0, .int 0, .int (-1), .ref (u 14), .ref (u 15), .ref (u 16), .ref (u 17), .ref (u 18), .ref (u 19), .ref (u 20), .int 0, .ref (u 22), .int 0, .ref (u 24), .ref (u 25), .int 0, .ref (u 27), .ref (u 28), .ref (u 29), .ref (u 30), .int 0, .int 0, .int 0, .int 0, .int 0, .ref (u 36), .long 0, .ref (u 38), .ref (u 39), .ref (u 40), .ref (u 41)])), (u 4, .inl (cB, 1600, .inl f16)), (u 6, .inl (cI, 5, .inl f6))] H := by rw [ef16]; exact hP
  have hD : va_D A [(h0, .inr (12, [.int 0, .ref (u 1), .ref (u 2), .ref (u 3), .ref (u 4), .int 0, .ref (u 6), .int 0, .int 0, .int 0, .int 0, .int 0, .int 0, .int (-1), .ref (u 14), .ref (u 15), .ref (u 16), .ref (u 17), .ref (u 18), .ref (u 19), .ref (u 20), .int 0, .ref (u 22), .int 0, .ref (u 24), .ref (u 25), .int 0, .ref (u 27), .ref (u 28), .ref (u 29), .ref (u 30), .int 0, .int 0, .int 0, .int 0, .int 0, .ref (u 36), .long 0, .ref (u 38), .ref (u 39), .ref (u 40), .ref (u 41)])), (u 4, .inl (cB, 1600, .inl f16)), (u 6, .inl (cI, 5, .inl f6))] := by rw [ef16]; exact hD
  refine lv_iinc (v := 2) (lv' := [(6, .int 2), (0, .ref h0), (1, .int p0), (2, .int p1), (3, .int p2), (4, .int p3), (5, .int p4)]) hx hb dX12_feed_95 hl (k := 0) rfl (by decide) (by decide) rfl (fun ls hl => ?_)
  refine lv_goto (tgt := 55) hx hb dX12_feed_98 (by decide) ?_
  refine lv_iload hx hb dX12_feed_55 (lv_at hl 0 rfl) ?_
  refine lv_bipush (v := 20) hx hb dX12_feed_57 (by decide) ?_
  refine lv_icmp_ge (tgt := 101) hx hb dX12_feed_59 (by decide) (fun c17 => absurd c17 (by decide)) (fun c17 => ?_)
  refine lv_aload_n hx hb dX12_feed_62 rfl (lv_at hl 1 rfl) ?_
  refine va_get (D := (dC, dI)) (ci := 12) (v := .ref (u 4)) (C := RX12) (T := TX12) (N := 42) hx hb hwd inlX12 hown hK hP 0 rfl rfl 4 (by decide) (hwd _ kr7_6) (fun _ h9 => h9) rfl dX12_feed_63 ?_
  refine lv_aload_n hx hb dX12_feed_66 rfl (lv_at hl 1 rfl) ?_
  refine va_get (D := (dC, dI)) (ci := 12) (v := .int 0) (C := RX12) (T := TX12) (N := 42) hx hb hwd inlX12 hown hK hP 0 rfl rfl 5 (by decide) (hwd _ kr9_1) (fun _ h9 => h9) rfl dX12_feed_67 ?_
  refine lv_iload hx hb dX12_feed_70 (lv_at hl 0 rfl) ?_
  refine lv_iadd hx hb dX12_feed_72 ?_
  refine lv_topi (nm_r (e' := (2)) (by decide +kernel) ?_)
  refine lv_aload_n hx hb dX12_feed_73 rfl (lv_at hl 1 rfl) ?_
  refine va_get (D := (dC, dI)) (ci := 12) (v := .ref (u 6)) (C := RX12) (T := TX12) (N := 42) hx hb hwd inlX12 hown hK hP 0 rfl rfl 6 (by decide) (hwd _ kr7_7) (fun _ h9 => h9) rfl dX12_feed_74 ?_
  refine lv_iload hx hb dX12_feed_77 (lv_at hl 0 rfl) ?_
  refine lv_iconst (v := 4) hx hb dX12_feed_79 (by decide) ?_
  refine lv_idiv hx hb dX12_feed_80 (by decide) ?_
  refine lv_topi (nm_r (e' := (0)) (by decide +kernel) ?_)
  refine va_iald hx hb hK hP 2 0 rfl rfl (vin (by decide)) dX12_feed_81 ?_
  refine lv_topi (fun x18 ex18 => ?_)
  refine lv_bipush (v := 24) hx hb dX12_feed_82 (by decide) ?_
  refine lv_bipush (v := 8) hx hb dX12_feed_84 (by decide) ?_
  refine lv_iload hx hb dX12_feed_86 (lv_at hl 0 rfl) ?_
  refine lv_iconst (v := 4) hx hb dX12_feed_88 (by decide) ?_
  refine lv_irem hx hb dX12_feed_89 (by decide) ?_
  refine lv_topi (nm_r (e' := (2)) (by decide +kernel) ?_)
  refine lv_imul hx hb dX12_feed_90 ?_
  refine lv_topi (nm_r (e' := (16)) (by decide +kernel) ?_)
  refine lv_isub hx hb dX12_feed_91 ?_
  refine lv_topi (nm_r (e' := (8)) (by decide +kernel) ?_)
  refine lv_ishr hx hb dX12_feed_92 ?_
  refine lv_topi (fun x19 ex19 => ?_)
  refine lv_i2b hx hb dX12_feed_93 rfl ?_
  refine lv_topi (fun x20 ex20 => ?_)
  refine va_bast hx hb hK hP hD hS 1 2 rfl rfl (vin (by decide)) dX12_feed_94 (fun H locs hP hD hS => ?_)
  obtain ⟨f21, ef21⟩ : ∃ f, f = upd f16 (2 : Int32).toNatClampNeg (vp_nar .byte x20) := ⟨_, rfl⟩
  have hP : va_P (dC, dI) vwCl [(h0, .inr (12, [.int 0, .ref (u 1), .ref (u 2), .ref (u 3), .ref (u 4), .int 0, .ref (u 6), .int 0, .int 0, .int 0, .int 0, .int 0, .int 0, .int (-1), .ref (u 14), .ref (u 15), .ref (u 16), .ref (u 17), .ref (u 18), .ref (u 19), .ref (u 20), .int 0, .ref (u 22), .int 0, .ref (u 24), .ref (u 25), .int 0, .ref (u 27), .ref (u 28), .ref (u 29), .ref (u 30), .int 0, .int 0, .int 0, .int 0, .int 0, .ref (u 36), .long 0, .ref (u 38), .ref (u 39), .ref (u 40), .ref (u 41)])), (u 4, .inl (cB, 1600, .inl f21)), (u 6, .inl (cI, 5, .inl f6))] H := by rw [ef21]; exact hP
  have hD : va_D A [(h0, .inr (12, [.int 0, .ref (u 1), .ref (u 2), .ref (u 3), .ref (u 4), .int 0, .ref (u 6), .int 0, .int 0, .int 0, .int 0, .int 0, .int 0, .int (-1), .ref (u 14), .ref (u 15), .ref (u 16), .ref (u 17), .ref (u 18), .ref (u 19), .ref (u 20), .int 0, .ref (u 22), .int 0, .ref (u 24), .ref (u 25), .int 0, .ref (u 27), .ref (u 28), .ref (u 29), .ref (u 30), .int 0, .int 0, .int 0, .int 0, .int 0, .ref (u 36), .long 0, .ref (u 38), .ref (u 39), .ref (u 40), .ref (u 41)])), (u 4, .inl (cB, 1600, .inl f21)), (u 6, .inl (cI, 5, .inl f6))] := by rw [ef21]; exact hD
  refine lv_iinc (v := 3) (lv' := [(6, .int 3), (0, .ref h0), (1, .int p0), (2, .int p1), (3, .int p2), (4, .int p3), (5, .int p4)]) hx hb dX12_feed_95 hl (k := 0) rfl (by decide) (by decide) rfl (fun ls hl => ?_)
  refine lv_goto (tgt := 55) hx hb dX12_feed_98 (by decide) ?_
  refine lv_iload hx hb dX12_feed_55 (lv_at hl 0 rfl) ?_
  refine lv_bipush (v := 20) hx hb dX12_feed_57 (by decide) ?_
  refine lv_icmp_ge (tgt := 101) hx hb dX12_feed_59 (by decide) (fun c22 => absurd c22 (by decide)) (fun c22 => ?_)
  refine lv_aload_n hx hb dX12_feed_62 rfl (lv_at hl 1 rfl) ?_
  refine va_get (D := (dC, dI)) (ci := 12) (v := .ref (u 4)) (C := RX12) (T := TX12) (N := 42) hx hb hwd inlX12 hown hK hP 0 rfl rfl 4 (by decide) (hwd _ kr7_6) (fun _ h9 => h9) rfl dX12_feed_63 ?_
  refine lv_aload_n hx hb dX12_feed_66 rfl (lv_at hl 1 rfl) ?_
  refine va_get (D := (dC, dI)) (ci := 12) (v := .int 0) (C := RX12) (T := TX12) (N := 42) hx hb hwd inlX12 hown hK hP 0 rfl rfl 5 (by decide) (hwd _ kr9_1) (fun _ h9 => h9) rfl dX12_feed_67 ?_
  refine lv_iload hx hb dX12_feed_70 (lv_at hl 0 rfl) ?_
  refine lv_iadd hx hb dX12_feed_72 ?_
  refine lv_topi (nm_r (e' := (3)) (by decide +kernel) ?_)
  refine lv_aload_n hx hb dX12_feed_73 rfl (lv_at hl 1 rfl) ?_
  refine va_get (D := (dC, dI)) (ci := 12) (v := .ref (u 6)) (C := RX12) (T := TX12) (N := 42) hx hb hwd inlX12 hown hK hP 0 rfl rfl 6 (by decide) (hwd _ kr7_7) (fun _ h9 => h9) rfl dX12_feed_74 ?_
  refine lv_iload hx hb dX12_feed_77 (lv_at hl 0 rfl) ?_
  refine lv_iconst (v := 4) hx hb dX12_feed_79 (by decide) ?_
  refine lv_idiv hx hb dX12_feed_80 (by decide) ?_
  refine lv_topi (nm_r (e' := (0)) (by decide +kernel) ?_)
  refine va_iald hx hb hK hP 2 0 rfl rfl (vin (by decide)) dX12_feed_81 ?_
  refine lv_topi (fun x23 ex23 => ?_)
  refine lv_bipush (v := 24) hx hb dX12_feed_82 (by decide) ?_
  refine lv_bipush (v := 8) hx hb dX12_feed_84 (by decide) ?_
  refine lv_iload hx hb dX12_feed_86 (lv_at hl 0 rfl) ?_
  refine lv_iconst (v := 4) hx hb dX12_feed_88 (by decide) ?_
  refine lv_irem hx hb dX12_feed_89 (by decide) ?_
  refine lv_topi (nm_r (e' := (3)) (by decide +kernel) ?_)
  refine lv_imul hx hb dX12_feed_90 ?_
  refine lv_topi (nm_r (e' := (24)) (by decide +kernel) ?_)
  refine lv_isub hx hb dX12_feed_91 ?_
  refine lv_topi (nm_r (e' := (0)) (by decide +kernel) ?_)
  refine lv_ishr hx hb dX12_feed_92 ?_
  refine lv_topi (fun x24 ex24 => ?_)
  refine lv_i2b hx hb dX12_feed_93 rfl ?_
  refine lv_topi (fun x25 ex25 => ?_)
  refine va_bast hx hb hK hP hD hS 1 2 rfl rfl (vin (by decide)) dX12_feed_94 (fun H locs hP hD hS => ?_)
  obtain ⟨f26, ef26⟩ : ∃ f, f = upd f21 (3 : Int32).toNatClampNeg (vp_nar .byte x25) := ⟨_, rfl⟩
  have hP : va_P (dC, dI) vwCl [(h0, .inr (12, [.int 0, .ref (u 1), .ref (u 2), .ref (u 3), .ref (u 4), .int 0, .ref (u 6), .int 0, .int 0, .int 0, .int 0, .int 0, .int 0, .int (-1), .ref (u 14), .ref (u 15), .ref (u 16), .ref (u 17), .ref (u 18), .ref (u 19), .ref (u 20), .int 0, .ref (u 22), .int 0, .ref (u 24), .ref (u 25), .int 0, .ref (u 27), .ref (u 28), .ref (u 29), .ref (u 30), .int 0, .int 0, .int 0, .int 0, .int 0, .ref (u 36), .long 0, .ref (u 38), .ref (u 39), .ref (u 40), .ref (u 41)])), (u 4, .inl (cB, 1600, .inl f26)), (u 6, .inl (cI, 5, .inl f6))] H := by rw [ef26]; exact hP
  have hD : va_D A [(h0, .inr (12, [.int 0, .ref (u 1), .ref (u 2), .ref (u 3), .ref (u 4), .int 0, .ref (u 6), .int 0, .int 0, .int 0, .int 0, .int 0, .int 0, .int (-1), .ref (u 14), .ref (u 15), .ref (u 16), .ref (u 17), .ref (u 18), .ref (u 19), .ref (u 20), .int 0, .ref (u 22), .int 0, .ref (u 24), .ref (u 25), .int 0, .ref (u 27), .ref (u 28), .ref (u 29), .ref (u 30), .int 0, .int 0, .int 0, .int 0, .int 0, .ref (u 36), .long 0, .ref (u 38), .ref (u 39), .ref (u 40), .ref (u 41)])), (u 4, .inl (cB, 1600, .inl f26)), (u 6, .inl (cI, 5, .inl f6))] := by rw [ef26]; exact hD
  refine lv_iinc (v := 4) (lv' := [(6, .int 4), (0, .ref h0), (1, .int p0), (2, .int p1), (3, .int p2), (4, .int p3), (5, .int p4)]) hx hb dX12_feed_95 hl (k := 0) rfl (by decide) (by decide) rfl (fun ls hl => ?_)
  refine lv_goto (tgt := 55) hx hb dX12_feed_98 (by decide) ?_
  refine lv_iload hx hb dX12_feed_55 (lv_at hl 0 rfl) ?_
  refine lv_bipush (v := 20) hx hb dX12_feed_57 (by decide) ?_
  refine lv_icmp_ge (tgt := 101) hx hb dX12_feed_59 (by decide) (fun c27 => absurd c27 (by decide)) (fun c27 => ?_)
  refine lv_aload_n hx hb dX12_feed_62 rfl (lv_at hl 1 rfl) ?_
  refine va_get (D := (dC, dI)) (ci := 12) (v := .ref (u 4)) (C := RX12) (T := TX12) (N := 42) hx hb hwd inlX12 hown hK hP 0 rfl rfl 4 (by decide) (hwd _ kr7_6) (fun _ h9 => h9) rfl dX12_feed_63 ?_
  refine lv_aload_n hx hb dX12_feed_66 rfl (lv_at hl 1 rfl) ?_
  refine va_get (D := (dC, dI)) (ci := 12) (v := .int 0) (C := RX12) (T := TX12) (N := 42) hx hb hwd inlX12 hown hK hP 0 rfl rfl 5 (by decide) (hwd _ kr9_1) (fun _ h9 => h9) rfl dX12_feed_67 ?_
  refine lv_iload hx hb dX12_feed_70 (lv_at hl 0 rfl) ?_
  refine lv_iadd hx hb dX12_feed_72 ?_
  refine lv_topi (nm_r (e' := (4)) (by decide +kernel) ?_)
  refine lv_aload_n hx hb dX12_feed_73 rfl (lv_at hl 1 rfl) ?_
  refine va_get (D := (dC, dI)) (ci := 12) (v := .ref (u 6)) (C := RX12) (T := TX12) (N := 42) hx hb hwd inlX12 hown hK hP 0 rfl rfl 6 (by decide) (hwd _ kr7_7) (fun _ h9 => h9) rfl dX12_feed_74 ?_
  refine lv_iload hx hb dX12_feed_77 (lv_at hl 0 rfl) ?_
  refine lv_iconst (v := 4) hx hb dX12_feed_79 (by decide) ?_
  refine lv_idiv hx hb dX12_feed_80 (by decide) ?_
  refine lv_topi (nm_r (e' := (1)) (by decide +kernel) ?_)
  refine va_iald hx hb hK hP 2 0 rfl rfl (vin (by decide)) dX12_feed_81 ?_
  refine lv_topi (fun x28 ex28 => ?_)
  refine lv_bipush (v := 24) hx hb dX12_feed_82 (by decide) ?_
  refine lv_bipush (v := 8) hx hb dX12_feed_84 (by decide) ?_
  refine lv_iload hx hb dX12_feed_86 (lv_at hl 0 rfl) ?_
  refine lv_iconst (v := 4) hx hb dX12_feed_88 (by decide) ?_
  refine lv_irem hx hb dX12_feed_89 (by decide) ?_
  refine lv_topi (nm_r (e' := (0)) (by decide +kernel) ?_)
  refine lv_imul hx hb dX12_feed_90 ?_
  refine lv_topi (nm_r (e' := (0)) (by decide +kernel) ?_)
  refine lv_isub hx hb dX12_feed_91 ?_
  refine lv_topi (nm_r (e' := (24)) (by decide +kernel) ?_)
  refine lv_ishr hx hb dX12_feed_92 ?_
  refine lv_topi (fun x29 ex29 => ?_)
  refine lv_i2b hx hb dX12_feed_93 rfl ?_
  refine lv_topi (fun x30 ex30 => ?_)
  refine va_bast hx hb hK hP hD hS 1 2 rfl rfl (vin (by decide)) dX12_feed_94 (fun H locs hP hD hS => ?_)
  obtain ⟨f31, ef31⟩ : ∃ f, f = upd f26 (4 : Int32).toNatClampNeg (vp_nar .byte x30) := ⟨_, rfl⟩
  have hP : va_P (dC, dI) vwCl [(h0, .inr (12, [.int 0, .ref (u 1), .ref (u 2), .ref (u 3), .ref (u 4), .int 0, .ref (u 6), .int 0, .int 0, .int 0, .int 0, .int 0, .int 0, .int (-1), .ref (u 14), .ref (u 15), .ref (u 16), .ref (u 17), .ref (u 18), .ref (u 19), .ref (u 20), .int 0, .ref (u 22), .int 0, .ref (u 24), .ref (u 25), .int 0, .ref (u 27), .ref (u 28), .ref (u 29), .ref (u 30), .int 0, .int 0, .int 0, .int 0, .int 0, .ref (u 36), .long 0, .ref (u 38), .ref (u 39), .ref (u 40), .ref (u 41)])), (u 4, .inl (cB, 1600, .inl f31)), (u 6, .inl (cI, 5, .inl f6))] H := by rw [ef31]; exact hP
  have hD : va_D A [(h0, .inr (12, [.int 0, .ref (u 1), .ref (u 2), .ref (u 3), .ref (u 4), .int 0, .ref (u 6), .int 0, .int 0, .int 0, .int 0, .int 0, .int 0, .int (-1), .ref (u 14), .ref (u 15), .ref (u 16), .ref (u 17), .ref (u 18), .ref (u 19), .ref (u 20), .int 0, .ref (u 22), .int 0, .ref (u 24), .ref (u 25), .int 0, .ref (u 27), .ref (u 28), .ref (u 29), .ref (u 30), .int 0, .int 0, .int 0, .int 0, .int 0, .ref (u 36), .long 0, .ref (u 38), .ref (u 39), .ref (u 40), .ref (u 41)])), (u 4, .inl (cB, 1600, .inl f31)), (u 6, .inl (cI, 5, .inl f6))] := by rw [ef31]; exact hD
  refine lv_iinc (v := 5) (lv' := [(6, .int 5), (0, .ref h0), (1, .int p0), (2, .int p1), (3, .int p2), (4, .int p3), (5, .int p4)]) hx hb dX12_feed_95 hl (k := 0) rfl (by decide) (by decide) rfl (fun ls hl => ?_)
  refine lv_goto (tgt := 55) hx hb dX12_feed_98 (by decide) ?_
  refine lv_iload hx hb dX12_feed_55 (lv_at hl 0 rfl) ?_
  refine lv_bipush (v := 20) hx hb dX12_feed_57 (by decide) ?_
  refine lv_icmp_ge (tgt := 101) hx hb dX12_feed_59 (by decide) (fun c32 => absurd c32 (by decide)) (fun c32 => ?_)
  refine lv_aload_n hx hb dX12_feed_62 rfl (lv_at hl 1 rfl) ?_
  refine va_get (D := (dC, dI)) (ci := 12) (v := .ref (u 4)) (C := RX12) (T := TX12) (N := 42) hx hb hwd inlX12 hown hK hP 0 rfl rfl 4 (by decide) (hwd _ kr7_6) (fun _ h9 => h9) rfl dX12_feed_63 ?_
  refine lv_aload_n hx hb dX12_feed_66 rfl (lv_at hl 1 rfl) ?_
  refine va_get (D := (dC, dI)) (ci := 12) (v := .int 0) (C := RX12) (T := TX12) (N := 42) hx hb hwd inlX12 hown hK hP 0 rfl rfl 5 (by decide) (hwd _ kr9_1) (fun _ h9 => h9) rfl dX12_feed_67 ?_
  refine lv_iload hx hb dX12_feed_70 (lv_at hl 0 rfl) ?_
  refine lv_iadd hx hb dX12_feed_72 ?_
  refine lv_topi (nm_r (e' := (5)) (by decide +kernel) ?_)
  refine lv_aload_n hx hb dX12_feed_73 rfl (lv_at hl 1 rfl) ?_
  refine va_get (D := (dC, dI)) (ci := 12) (v := .ref (u 6)) (C := RX12) (T := TX12) (N := 42) hx hb hwd inlX12 hown hK hP 0 rfl rfl 6 (by decide) (hwd _ kr7_7) (fun _ h9 => h9) rfl dX12_feed_74 ?_
  refine lv_iload hx hb dX12_feed_77 (lv_at hl 0 rfl) ?_
  refine lv_iconst (v := 4) hx hb dX12_feed_79 (by decide) ?_
  refine lv_idiv hx hb dX12_feed_80 (by decide) ?_
  refine lv_topi (nm_r (e' := (1)) (by decide +kernel) ?_)
  refine va_iald hx hb hK hP 2 0 rfl rfl (vin (by decide)) dX12_feed_81 ?_
  refine lv_topi (fun x33 ex33 => ?_)
  refine lv_bipush (v := 24) hx hb dX12_feed_82 (by decide) ?_
  refine lv_bipush (v := 8) hx hb dX12_feed_84 (by decide) ?_
  refine lv_iload hx hb dX12_feed_86 (lv_at hl 0 rfl) ?_
  refine lv_iconst (v := 4) hx hb dX12_feed_88 (by decide) ?_
  refine lv_irem hx hb dX12_feed_89 (by decide) ?_
  refine lv_topi (nm_r (e' := (1)) (by decide +kernel) ?_)
  refine lv_imul hx hb dX12_feed_90 ?_
  refine lv_topi (nm_r (e' := (8)) (by decide +kernel) ?_)
  refine lv_isub hx hb dX12_feed_91 ?_
  refine lv_topi (nm_r (e' := (16)) (by decide +kernel) ?_)
  refine lv_ishr hx hb dX12_feed_92 ?_
  refine lv_topi (fun x34 ex34 => ?_)
  refine lv_i2b hx hb dX12_feed_93 rfl ?_
  refine lv_topi (fun x35 ex35 => ?_)
  refine va_bast hx hb hK hP hD hS 1 2 rfl rfl (vin (by decide)) dX12_feed_94 (fun H locs hP hD hS => ?_)
  obtain ⟨f36, ef36⟩ : ∃ f, f = upd f31 (5 : Int32).toNatClampNeg (vp_nar .byte x35) := ⟨_, rfl⟩
  have hP : va_P (dC, dI) vwCl [(h0, .inr (12, [.int 0, .ref (u 1), .ref (u 2), .ref (u 3), .ref (u 4), .int 0, .ref (u 6), .int 0, .int 0, .int 0, .int 0, .int 0, .int 0, .int (-1), .ref (u 14), .ref (u 15), .ref (u 16), .ref (u 17), .ref (u 18), .ref (u 19), .ref (u 20), .int 0, .ref (u 22), .int 0, .ref (u 24), .ref (u 25), .int 0, .ref (u 27), .ref (u 28), .ref (u 29), .ref (u 30), .int 0, .int 0, .int 0, .int 0, .int 0, .ref (u 36), .long 0, .ref (u 38), .ref (u 39), .ref (u 40), .ref (u 41)])), (u 4, .inl (cB, 1600, .inl f36)), (u 6, .inl (cI, 5, .inl f6))] H := by rw [ef36]; exact hP
  have hD : va_D A [(h0, .inr (12, [.int 0, .ref (u 1), .ref (u 2), .ref (u 3), .ref (u 4), .int 0, .ref (u 6), .int 0, .int 0, .int 0, .int 0, .int 0, .int 0, .int (-1), .ref (u 14), .ref (u 15), .ref (u 16), .ref (u 17), .ref (u 18), .ref (u 19), .ref (u 20), .int 0, .ref (u 22), .int 0, .ref (u 24), .ref (u 25), .int 0, .ref (u 27), .ref (u 28), .ref (u 29), .ref (u 30), .int 0, .int 0, .int 0, .int 0, .int 0, .ref (u 36), .long 0, .ref (u 38), .ref (u 39), .ref (u 40), .ref (u 41)])), (u 4, .inl (cB, 1600, .inl f36)), (u 6, .inl (cI, 5, .inl f6))] := by rw [ef36]; exact hD
  refine lv_iinc (v := 6) (lv' := [(6, .int 6), (0, .ref h0), (1, .int p0), (2, .int p1), (3, .int p2), (4, .int p3), (5, .int p4)]) hx hb dX12_feed_95 hl (k := 0) rfl (by decide) (by decide) rfl (fun ls hl => ?_)
  refine lv_goto (tgt := 55) hx hb dX12_feed_98 (by decide) ?_
  refine lv_iload hx hb dX12_feed_55 (lv_at hl 0 rfl) ?_
  refine lv_bipush (v := 20) hx hb dX12_feed_57 (by decide) ?_
  refine lv_icmp_ge (tgt := 101) hx hb dX12_feed_59 (by decide) (fun c37 => absurd c37 (by decide)) (fun c37 => ?_)
  refine lv_aload_n hx hb dX12_feed_62 rfl (lv_at hl 1 rfl) ?_
  refine va_get (D := (dC, dI)) (ci := 12) (v := .ref (u 4)) (C := RX12) (T := TX12) (N := 42) hx hb hwd inlX12 hown hK hP 0 rfl rfl 4 (by decide) (hwd _ kr7_6) (fun _ h9 => h9) rfl dX12_feed_63 ?_
  refine lv_aload_n hx hb dX12_feed_66 rfl (lv_at hl 1 rfl) ?_
  refine va_get (D := (dC, dI)) (ci := 12) (v := .int 0) (C := RX12) (T := TX12) (N := 42) hx hb hwd inlX12 hown hK hP 0 rfl rfl 5 (by decide) (hwd _ kr9_1) (fun _ h9 => h9) rfl dX12_feed_67 ?_
  refine lv_iload hx hb dX12_feed_70 (lv_at hl 0 rfl) ?_
  refine lv_iadd hx hb dX12_feed_72 ?_
  refine lv_topi (nm_r (e' := (6)) (by decide +kernel) ?_)
  refine lv_aload_n hx hb dX12_feed_73 rfl (lv_at hl 1 rfl) ?_
  refine va_get (D := (dC, dI)) (ci := 12) (v := .ref (u 6)) (C := RX12) (T := TX12) (N := 42) hx hb hwd inlX12 hown hK hP 0 rfl rfl 6 (by decide) (hwd _ kr7_7) (fun _ h9 => h9) rfl dX12_feed_74 ?_
  refine lv_iload hx hb dX12_feed_77 (lv_at hl 0 rfl) ?_
  refine lv_iconst (v := 4) hx hb dX12_feed_79 (by decide) ?_
  refine lv_idiv hx hb dX12_feed_80 (by decide) ?_
  refine lv_topi (nm_r (e' := (1)) (by decide +kernel) ?_)
  refine va_iald hx hb hK hP 2 0 rfl rfl (vin (by decide)) dX12_feed_81 ?_
  refine lv_topi (fun x38 ex38 => ?_)
  refine lv_bipush (v := 24) hx hb dX12_feed_82 (by decide) ?_
  refine lv_bipush (v := 8) hx hb dX12_feed_84 (by decide) ?_
  refine lv_iload hx hb dX12_feed_86 (lv_at hl 0 rfl) ?_
  refine lv_iconst (v := 4) hx hb dX12_feed_88 (by decide) ?_
  refine lv_irem hx hb dX12_feed_89 (by decide) ?_
  refine lv_topi (nm_r (e' := (2)) (by decide +kernel) ?_)
  refine lv_imul hx hb dX12_feed_90 ?_
  refine lv_topi (nm_r (e' := (16)) (by decide +kernel) ?_)
  refine lv_isub hx hb dX12_feed_91 ?_
  refine lv_topi (nm_r (e' := (8)) (by decide +kernel) ?_)
  refine lv_ishr hx hb dX12_feed_92 ?_
  refine lv_topi (fun x39 ex39 => ?_)
  refine lv_i2b hx hb dX12_feed_93 rfl ?_
  refine lv_topi (fun x40 ex40 => ?_)
  refine va_bast hx hb hK hP hD hS 1 2 rfl rfl (vin (by decide)) dX12_feed_94 (fun H locs hP hD hS => ?_)
  obtain ⟨f41, ef41⟩ : ∃ f, f = upd f36 (6 : Int32).toNatClampNeg (vp_nar .byte x40) := ⟨_, rfl⟩
  have hP : va_P (dC, dI) vwCl [(h0, .inr (12, [.int 0, .ref (u 1), .ref (u 2), .ref (u 3), .ref (u 4), .int 0, .ref (u 6), .int 0, .int 0, .int 0, .int 0, .int 0, .int 0, .int (-1), .ref (u 14), .ref (u 15), .ref (u 16), .ref (u 17), .ref (u 18), .ref (u 19), .ref (u 20), .int 0, .ref (u 22), .int 0, .ref (u 24), .ref (u 25), .int 0, .ref (u 27), .ref (u 28), .ref (u 29), .ref (u 30), .int 0, .int 0, .int 0, .int 0, .int 0, .ref (u 36), .long 0, .ref (u 38), .ref (u 39), .ref (u 40), .ref (u 41)])), (u 4, .inl (cB, 1600, .inl f41)), (u 6, .inl (cI, 5, .inl f6))] H := by rw [ef41]; exact hP
  have hD : va_D A [(h0, .inr (12, [.int 0, .ref (u 1), .ref (u 2), .ref (u 3), .ref (u 4), .int 0, .ref (u 6), .int 0, .int 0, .int 0, .int 0, .int 0, .int 0, .int (-1), .ref (u 14), .ref (u 15), .ref (u 16), .ref (u 17), .ref (u 18), .ref (u 19), .ref (u 20), .int 0, .ref (u 22), .int 0, .ref (u 24), .ref (u 25), .int 0, .ref (u 27), .ref (u 28), .ref (u 29), .ref (u 30), .int 0, .int 0, .int 0, .int 0, .int 0, .ref (u 36), .long 0, .ref (u 38), .ref (u 39), .ref (u 40), .ref (u 41)])), (u 4, .inl (cB, 1600, .inl f41)), (u 6, .inl (cI, 5, .inl f6))] := by rw [ef41]; exact hD
  refine lv_iinc (v := 7) (lv' := [(6, .int 7), (0, .ref h0), (1, .int p0), (2, .int p1), (3, .int p2), (4, .int p3), (5, .int p4)]) hx hb dX12_feed_95 hl (k := 0) rfl (by decide) (by decide) rfl (fun ls hl => ?_)
  refine lv_goto (tgt := 55) hx hb dX12_feed_98 (by decide) ?_
  refine lv_iload hx hb dX12_feed_55 (lv_at hl 0 rfl) ?_
  refine lv_bipush (v := 20) hx hb dX12_feed_57 (by decide) ?_
  refine lv_icmp_ge (tgt := 101) hx hb dX12_feed_59 (by decide) (fun c42 => absurd c42 (by decide)) (fun c42 => ?_)
  refine lv_aload_n hx hb dX12_feed_62 rfl (lv_at hl 1 rfl) ?_
  refine va_get (D := (dC, dI)) (ci := 12) (v := .ref (u 4)) (C := RX12) (T := TX12) (N := 42) hx hb hwd inlX12 hown hK hP 0 rfl rfl 4 (by decide) (hwd _ kr7_6) (fun _ h9 => h9) rfl dX12_feed_63 ?_
  refine lv_aload_n hx hb dX12_feed_66 rfl (lv_at hl 1 rfl) ?_
  refine va_get (D := (dC, dI)) (ci := 12) (v := .int 0) (C := RX12) (T := TX12) (N := 42) hx hb hwd inlX12 hown hK hP 0 rfl rfl 5 (by decide) (hwd _ kr9_1) (fun _ h9 => h9) rfl dX12_feed_67 ?_
  refine lv_iload hx hb dX12_feed_70 (lv_at hl 0 rfl) ?_
  refine lv_iadd hx hb dX12_feed_72 ?_
  refine lv_topi (nm_r (e' := (7)) (by decide +kernel) ?_)
  refine lv_aload_n hx hb dX12_feed_73 rfl (lv_at hl 1 rfl) ?_
  refine va_get (D := (dC, dI)) (ci := 12) (v := .ref (u 6)) (C := RX12) (T := TX12) (N := 42) hx hb hwd inlX12 hown hK hP 0 rfl rfl 6 (by decide) (hwd _ kr7_7) (fun _ h9 => h9) rfl dX12_feed_74 ?_
  refine lv_iload hx hb dX12_feed_77 (lv_at hl 0 rfl) ?_
  refine lv_iconst (v := 4) hx hb dX12_feed_79 (by decide) ?_
  refine lv_idiv hx hb dX12_feed_80 (by decide) ?_
  refine lv_topi (nm_r (e' := (1)) (by decide +kernel) ?_)
  refine va_iald hx hb hK hP 2 0 rfl rfl (vin (by decide)) dX12_feed_81 ?_
  refine lv_topi (fun x43 ex43 => ?_)
  refine lv_bipush (v := 24) hx hb dX12_feed_82 (by decide) ?_
  refine lv_bipush (v := 8) hx hb dX12_feed_84 (by decide) ?_
  refine lv_iload hx hb dX12_feed_86 (lv_at hl 0 rfl) ?_
  refine lv_iconst (v := 4) hx hb dX12_feed_88 (by decide) ?_
  refine lv_irem hx hb dX12_feed_89 (by decide) ?_
  refine lv_topi (nm_r (e' := (3)) (by decide +kernel) ?_)
  refine lv_imul hx hb dX12_feed_90 ?_
  refine lv_topi (nm_r (e' := (24)) (by decide +kernel) ?_)
  refine lv_isub hx hb dX12_feed_91 ?_
  refine lv_topi (nm_r (e' := (0)) (by decide +kernel) ?_)
  refine lv_ishr hx hb dX12_feed_92 ?_
  refine lv_topi (fun x44 ex44 => ?_)
  refine lv_i2b hx hb dX12_feed_93 rfl ?_
  refine lv_topi (fun x45 ex45 => ?_)
  refine va_bast hx hb hK hP hD hS 1 2 rfl rfl (vin (by decide)) dX12_feed_94 (fun H locs hP hD hS => ?_)
  obtain ⟨f46, ef46⟩ : ∃ f, f = upd f41 (7 : Int32).toNatClampNeg (vp_nar .byte x45) := ⟨_, rfl⟩
  have hP : va_P (dC, dI) vwCl [(h0, .inr (12, [.int 0, .ref (u 1), .ref (u 2), .ref (u 3), .ref (u 4), .int 0, .ref (u 6), .int 0, .int 0, .int 0, .int 0, .int 0, .int 0, .int (-1), .ref (u 14), .ref (u 15), .ref (u 16), .ref (u 17), .ref (u 18), .ref (u 19), .ref (u 20), .int 0, .ref (u 22), .int 0, .ref (u 24), .ref (u 25), .int 0, .ref (u 27), .ref (u 28), .ref (u 29), .ref (u 30), .int 0, .int 0, .int 0, .int 0, .int 0, .ref (u 36), .long 0, .ref (u 38), .ref (u 39), .ref (u 40), .ref (u 41)])), (u 4, .inl (cB, 1600, .inl f46)), (u 6, .inl (cI, 5, .inl f6))] H := by rw [ef46]; exact hP
  have hD : va_D A [(h0, .inr (12, [.int 0, .ref (u 1), .ref (u 2), .ref (u 3), .ref (u 4), .int 0, .ref (u 6), .int 0, .int 0, .int 0, .int 0, .int 0, .int 0, .int (-1), .ref (u 14), .ref (u 15), .ref (u 16), .ref (u 17), .ref (u 18), .ref (u 19), .ref (u 20), .int 0, .ref (u 22), .int 0, .ref (u 24), .ref (u 25), .int 0, .ref (u 27), .ref (u 28), .ref (u 29), .ref (u 30), .int 0, .int 0, .int 0, .int 0, .int 0, .ref (u 36), .long 0, .ref (u 38), .ref (u 39), .ref (u 40), .ref (u 41)])), (u 4, .inl (cB, 1600, .inl f46)), (u 6, .inl (cI, 5, .inl f6))] := by rw [ef46]; exact hD
  refine lv_iinc (v := 8) (lv' := [(6, .int 8), (0, .ref h0), (1, .int p0), (2, .int p1), (3, .int p2), (4, .int p3), (5, .int p4)]) hx hb dX12_feed_95 hl (k := 0) rfl (by decide) (by decide) rfl (fun ls hl => ?_)
  refine lv_goto (tgt := 55) hx hb dX12_feed_98 (by decide) ?_
  refine lv_iload hx hb dX12_feed_55 (lv_at hl 0 rfl) ?_
  refine lv_bipush (v := 20) hx hb dX12_feed_57 (by decide) ?_
  refine lv_icmp_ge (tgt := 101) hx hb dX12_feed_59 (by decide) (fun c47 => absurd c47 (by decide)) (fun c47 => ?_)
  refine lv_aload_n hx hb dX12_feed_62 rfl (lv_at hl 1 rfl) ?_
  refine va_get (D := (dC, dI)) (ci := 12) (v := .ref (u 4)) (C := RX12) (T := TX12) (N := 42) hx hb hwd inlX12 hown hK hP 0 rfl rfl 4 (by decide) (hwd _ kr7_6) (fun _ h9 => h9) rfl dX12_feed_63 ?_
  refine lv_aload_n hx hb dX12_feed_66 rfl (lv_at hl 1 rfl) ?_
  refine va_get (D := (dC, dI)) (ci := 12) (v := .int 0) (C := RX12) (T := TX12) (N := 42) hx hb hwd inlX12 hown hK hP 0 rfl rfl 5 (by decide) (hwd _ kr9_1) (fun _ h9 => h9) rfl dX12_feed_67 ?_
  refine lv_iload hx hb dX12_feed_70 (lv_at hl 0 rfl) ?_
  refine lv_iadd hx hb dX12_feed_72 ?_
  refine lv_topi (nm_r (e' := (8)) (by decide +kernel) ?_)
  refine lv_aload_n hx hb dX12_feed_73 rfl (lv_at hl 1 rfl) ?_
  refine va_get (D := (dC, dI)) (ci := 12) (v := .ref (u 6)) (C := RX12) (T := TX12) (N := 42) hx hb hwd inlX12 hown hK hP 0 rfl rfl 6 (by decide) (hwd _ kr7_7) (fun _ h9 => h9) rfl dX12_feed_74 ?_
  refine lv_iload hx hb dX12_feed_77 (lv_at hl 0 rfl) ?_
  refine lv_iconst (v := 4) hx hb dX12_feed_79 (by decide) ?_
  refine lv_idiv hx hb dX12_feed_80 (by decide) ?_
  refine lv_topi (nm_r (e' := (2)) (by decide +kernel) ?_)
  refine va_iald hx hb hK hP 2 0 rfl rfl (vin (by decide)) dX12_feed_81 ?_
  refine lv_topi (fun x48 ex48 => ?_)
  refine lv_bipush (v := 24) hx hb dX12_feed_82 (by decide) ?_
  refine lv_bipush (v := 8) hx hb dX12_feed_84 (by decide) ?_
  refine lv_iload hx hb dX12_feed_86 (lv_at hl 0 rfl) ?_
  refine lv_iconst (v := 4) hx hb dX12_feed_88 (by decide) ?_
  refine lv_irem hx hb dX12_feed_89 (by decide) ?_
  refine lv_topi (nm_r (e' := (0)) (by decide +kernel) ?_)
  refine lv_imul hx hb dX12_feed_90 ?_
  refine lv_topi (nm_r (e' := (0)) (by decide +kernel) ?_)
  refine lv_isub hx hb dX12_feed_91 ?_
  refine lv_topi (nm_r (e' := (24)) (by decide +kernel) ?_)
  refine lv_ishr hx hb dX12_feed_92 ?_
  refine lv_topi (fun x49 ex49 => ?_)
  refine lv_i2b hx hb dX12_feed_93 rfl ?_
  refine lv_topi (fun x50 ex50 => ?_)
  refine va_bast hx hb hK hP hD hS 1 2 rfl rfl (vin (by decide)) dX12_feed_94 (fun H locs hP hD hS => ?_)
  obtain ⟨f51, ef51⟩ : ∃ f, f = upd f46 (8 : Int32).toNatClampNeg (vp_nar .byte x50) := ⟨_, rfl⟩
  have hP : va_P (dC, dI) vwCl [(h0, .inr (12, [.int 0, .ref (u 1), .ref (u 2), .ref (u 3), .ref (u 4), .int 0, .ref (u 6), .int 0, .int 0, .int 0, .int 0, .int 0, .int 0, .int (-1), .ref (u 14), .ref (u 15), .ref (u 16), .ref (u 17), .ref (u 18), .ref (u 19), .ref (u 20), .int 0, .ref (u 22), .int 0, .ref (u 24), .ref (u 25), .int 0, .ref (u 27), .ref (u 28), .ref (u 29), .ref (u 30), .int 0, .int 0, .int 0, .int 0, .int 0, .ref (u 36), .long 0, .ref (u 38), .ref (u 39), .ref (u 40), .ref (u 41)])), (u 4, .inl (cB, 1600, .inl f51)), (u 6, .inl (cI, 5, .inl f6))] H := by rw [ef51]; exact hP
  have hD : va_D A [(h0, .inr (12, [.int 0, .ref (u 1), .ref (u 2), .ref (u 3), .ref (u 4), .int 0, .ref (u 6), .int 0, .int 0, .int 0, .int 0, .int 0, .int 0, .int (-1), .ref (u 14), .ref (u 15), .ref (u 16), .ref (u 17), .ref (u 18), .ref (u 19), .ref (u 20), .int 0, .ref (u 22), .int 0, .ref (u 24), .ref (u 25), .int 0, .ref (u 27), .ref (u 28), .ref (u 29), .ref (u 30), .int 0, .int 0, .int 0, .int 0, .int 0, .ref (u 36), .long 0, .ref (u 38), .ref (u 39), .ref (u 40), .ref (u 41)])), (u 4, .inl (cB, 1600, .inl f51)), (u 6, .inl (cI, 5, .inl f6))] := by rw [ef51]; exact hD
  refine lv_iinc (v := 9) (lv' := [(6, .int 9), (0, .ref h0), (1, .int p0), (2, .int p1), (3, .int p2), (4, .int p3), (5, .int p4)]) hx hb dX12_feed_95 hl (k := 0) rfl (by decide) (by decide) rfl (fun ls hl => ?_)
  refine lv_goto (tgt := 55) hx hb dX12_feed_98 (by decide) ?_
  refine lv_iload hx hb dX12_feed_55 (lv_at hl 0 rfl) ?_
  refine lv_bipush (v := 20) hx hb dX12_feed_57 (by decide) ?_
  refine lv_icmp_ge (tgt := 101) hx hb dX12_feed_59 (by decide) (fun c52 => absurd c52 (by decide)) (fun c52 => ?_)
  refine lv_aload_n hx hb dX12_feed_62 rfl (lv_at hl 1 rfl) ?_
  refine va_get (D := (dC, dI)) (ci := 12) (v := .ref (u 4)) (C := RX12) (T := TX12) (N := 42) hx hb hwd inlX12 hown hK hP 0 rfl rfl 4 (by decide) (hwd _ kr7_6) (fun _ h9 => h9) rfl dX12_feed_63 ?_
  refine lv_aload_n hx hb dX12_feed_66 rfl (lv_at hl 1 rfl) ?_
  refine va_get (D := (dC, dI)) (ci := 12) (v := .int 0) (C := RX12) (T := TX12) (N := 42) hx hb hwd inlX12 hown hK hP 0 rfl rfl 5 (by decide) (hwd _ kr9_1) (fun _ h9 => h9) rfl dX12_feed_67 ?_
  refine lv_iload hx hb dX12_feed_70 (lv_at hl 0 rfl) ?_
  refine lv_iadd hx hb dX12_feed_72 ?_
  refine lv_topi (nm_r (e' := (9)) (by decide +kernel) ?_)
  refine lv_aload_n hx hb dX12_feed_73 rfl (lv_at hl 1 rfl) ?_
  refine va_get (D := (dC, dI)) (ci := 12) (v := .ref (u 6)) (C := RX12) (T := TX12) (N := 42) hx hb hwd inlX12 hown hK hP 0 rfl rfl 6 (by decide) (hwd _ kr7_7) (fun _ h9 => h9) rfl dX12_feed_74 ?_
  refine lv_iload hx hb dX12_feed_77 (lv_at hl 0 rfl) ?_
  refine lv_iconst (v := 4) hx hb dX12_feed_79 (by decide) ?_
  refine lv_idiv hx hb dX12_feed_80 (by decide) ?_
  refine lv_topi (nm_r (e' := (2)) (by decide +kernel) ?_)
  refine va_iald hx hb hK hP 2 0 rfl rfl (vin (by decide)) dX12_feed_81 ?_
  refine lv_topi (fun x53 ex53 => ?_)
  refine lv_bipush (v := 24) hx hb dX12_feed_82 (by decide) ?_
  refine lv_bipush (v := 8) hx hb dX12_feed_84 (by decide) ?_
  refine lv_iload hx hb dX12_feed_86 (lv_at hl 0 rfl) ?_
  refine lv_iconst (v := 4) hx hb dX12_feed_88 (by decide) ?_
  refine lv_irem hx hb dX12_feed_89 (by decide) ?_
  refine lv_topi (nm_r (e' := (1)) (by decide +kernel) ?_)
  refine lv_imul hx hb dX12_feed_90 ?_
  refine lv_topi (nm_r (e' := (8)) (by decide +kernel) ?_)
  refine lv_isub hx hb dX12_feed_91 ?_
  refine lv_topi (nm_r (e' := (16)) (by decide +kernel) ?_)
  refine lv_ishr hx hb dX12_feed_92 ?_
  refine lv_topi (fun x54 ex54 => ?_)
  refine lv_i2b hx hb dX12_feed_93 rfl ?_
  refine lv_topi (fun x55 ex55 => ?_)
  refine va_bast hx hb hK hP hD hS 1 2 rfl rfl (vin (by decide)) dX12_feed_94 (fun H locs hP hD hS => ?_)
  obtain ⟨f56, ef56⟩ : ∃ f, f = upd f51 (9 : Int32).toNatClampNeg (vp_nar .byte x55) := ⟨_, rfl⟩
  have hP : va_P (dC, dI) vwCl [(h0, .inr (12, [.int 0, .ref (u 1), .ref (u 2), .ref (u 3), .ref (u 4), .int 0, .ref (u 6), .int 0, .int 0, .int 0, .int 0, .int 0, .int 0, .int (-1), .ref (u 14), .ref (u 15), .ref (u 16), .ref (u 17), .ref (u 18), .ref (u 19), .ref (u 20), .int 0, .ref (u 22), .int 0, .ref (u 24), .ref (u 25), .int 0, .ref (u 27), .ref (u 28), .ref (u 29), .ref (u 30), .int 0, .int 0, .int 0, .int 0, .int 0, .ref (u 36), .long 0, .ref (u 38), .ref (u 39), .ref (u 40), .ref (u 41)])), (u 4, .inl (cB, 1600, .inl f56)), (u 6, .inl (cI, 5, .inl f6))] H := by rw [ef56]; exact hP
  have hD : va_D A [(h0, .inr (12, [.int 0, .ref (u 1), .ref (u 2), .ref (u 3), .ref (u 4), .int 0, .ref (u 6), .int 0, .int 0, .int 0, .int 0, .int 0, .int 0, .int (-1), .ref (u 14), .ref (u 15), .ref (u 16), .ref (u 17), .ref (u 18), .ref (u 19), .ref (u 20), .int 0, .ref (u 22), .int 0, .ref (u 24), .ref (u 25), .int 0, .ref (u 27), .ref (u 28), .ref (u 29), .ref (u 30), .int 0, .int 0, .int 0, .int 0, .int 0, .ref (u 36), .long 0, .ref (u 38), .ref (u 39), .ref (u 40), .ref (u 41)])), (u 4, .inl (cB, 1600, .inl f56)), (u 6, .inl (cI, 5, .inl f6))] := by rw [ef56]; exact hD
  refine lv_iinc (v := 10) (lv' := [(6, .int 10), (0, .ref h0), (1, .int p0), (2, .int p1), (3, .int p2), (4, .int p3), (5, .int p4)]) hx hb dX12_feed_95 hl (k := 0) rfl (by decide) (by decide) rfl (fun ls hl => ?_)
  refine lv_goto (tgt := 55) hx hb dX12_feed_98 (by decide) ?_
  refine lv_iload hx hb dX12_feed_55 (lv_at hl 0 rfl) ?_
  refine lv_bipush (v := 20) hx hb dX12_feed_57 (by decide) ?_
  refine lv_icmp_ge (tgt := 101) hx hb dX12_feed_59 (by decide) (fun c57 => absurd c57 (by decide)) (fun c57 => ?_)
  refine lv_aload_n hx hb dX12_feed_62 rfl (lv_at hl 1 rfl) ?_
  refine va_get (D := (dC, dI)) (ci := 12) (v := .ref (u 4)) (C := RX12) (T := TX12) (N := 42) hx hb hwd inlX12 hown hK hP 0 rfl rfl 4 (by decide) (hwd _ kr7_6) (fun _ h9 => h9) rfl dX12_feed_63 ?_
  refine lv_aload_n hx hb dX12_feed_66 rfl (lv_at hl 1 rfl) ?_
  refine va_get (D := (dC, dI)) (ci := 12) (v := .int 0) (C := RX12) (T := TX12) (N := 42) hx hb hwd inlX12 hown hK hP 0 rfl rfl 5 (by decide) (hwd _ kr9_1) (fun _ h9 => h9) rfl dX12_feed_67 ?_
  refine lv_iload hx hb dX12_feed_70 (lv_at hl 0 rfl) ?_
  refine lv_iadd hx hb dX12_feed_72 ?_
  refine lv_topi (nm_r (e' := (10)) (by decide +kernel) ?_)
  refine lv_aload_n hx hb dX12_feed_73 rfl (lv_at hl 1 rfl) ?_
  refine va_get (D := (dC, dI)) (ci := 12) (v := .ref (u 6)) (C := RX12) (T := TX12) (N := 42) hx hb hwd inlX12 hown hK hP 0 rfl rfl 6 (by decide) (hwd _ kr7_7) (fun _ h9 => h9) rfl dX12_feed_74 ?_
  refine lv_iload hx hb dX12_feed_77 (lv_at hl 0 rfl) ?_
  refine lv_iconst (v := 4) hx hb dX12_feed_79 (by decide) ?_
  refine lv_idiv hx hb dX12_feed_80 (by decide) ?_
  refine lv_topi (nm_r (e' := (2)) (by decide +kernel) ?_)
  refine va_iald hx hb hK hP 2 0 rfl rfl (vin (by decide)) dX12_feed_81 ?_
  refine lv_topi (fun x58 ex58 => ?_)
  refine lv_bipush (v := 24) hx hb dX12_feed_82 (by decide) ?_
  refine lv_bipush (v := 8) hx hb dX12_feed_84 (by decide) ?_
  refine lv_iload hx hb dX12_feed_86 (lv_at hl 0 rfl) ?_
  refine lv_iconst (v := 4) hx hb dX12_feed_88 (by decide) ?_
  refine lv_irem hx hb dX12_feed_89 (by decide) ?_
  refine lv_topi (nm_r (e' := (2)) (by decide +kernel) ?_)
  refine lv_imul hx hb dX12_feed_90 ?_
  refine lv_topi (nm_r (e' := (16)) (by decide +kernel) ?_)
  refine lv_isub hx hb dX12_feed_91 ?_
  refine lv_topi (nm_r (e' := (8)) (by decide +kernel) ?_)
  refine lv_ishr hx hb dX12_feed_92 ?_
  refine lv_topi (fun x59 ex59 => ?_)
  refine lv_i2b hx hb dX12_feed_93 rfl ?_
  refine lv_topi (fun x60 ex60 => ?_)
  refine va_bast hx hb hK hP hD hS 1 2 rfl rfl (vin (by decide)) dX12_feed_94 (fun H locs hP hD hS => ?_)
  obtain ⟨f61, ef61⟩ : ∃ f, f = upd f56 (10 : Int32).toNatClampNeg (vp_nar .byte x60) := ⟨_, rfl⟩
  have hP : va_P (dC, dI) vwCl [(h0, .inr (12, [.int 0, .ref (u 1), .ref (u 2), .ref (u 3), .ref (u 4), .int 0, .ref (u 6), .int 0, .int 0, .int 0, .int 0, .int 0, .int 0, .int (-1), .ref (u 14), .ref (u 15), .ref (u 16), .ref (u 17), .ref (u 18), .ref (u 19), .ref (u 20), .int 0, .ref (u 22), .int 0, .ref (u 24), .ref (u 25), .int 0, .ref (u 27), .ref (u 28), .ref (u 29), .ref (u 30), .int 0, .int 0, .int 0, .int 0, .int 0, .ref (u 36), .long 0, .ref (u 38), .ref (u 39), .ref (u 40), .ref (u 41)])), (u 4, .inl (cB, 1600, .inl f61)), (u 6, .inl (cI, 5, .inl f6))] H := by rw [ef61]; exact hP
  have hD : va_D A [(h0, .inr (12, [.int 0, .ref (u 1), .ref (u 2), .ref (u 3), .ref (u 4), .int 0, .ref (u 6), .int 0, .int 0, .int 0, .int 0, .int 0, .int 0, .int (-1), .ref (u 14), .ref (u 15), .ref (u 16), .ref (u 17), .ref (u 18), .ref (u 19), .ref (u 20), .int 0, .ref (u 22), .int 0, .ref (u 24), .ref (u 25), .int 0, .ref (u 27), .ref (u 28), .ref (u 29), .ref (u 30), .int 0, .int 0, .int 0, .int 0, .int 0, .ref (u 36), .long 0, .ref (u 38), .ref (u 39), .ref (u 40), .ref (u 41)])), (u 4, .inl (cB, 1600, .inl f61)), (u 6, .inl (cI, 5, .inl f6))] := by rw [ef61]; exact hD
  refine lv_iinc (v := 11) (lv' := [(6, .int 11), (0, .ref h0), (1, .int p0), (2, .int p1), (3, .int p2), (4, .int p3), (5, .int p4)]) hx hb dX12_feed_95 hl (k := 0) rfl (by decide) (by decide) rfl (fun ls hl => ?_)
  refine lv_goto (tgt := 55) hx hb dX12_feed_98 (by decide) ?_
  refine lv_iload hx hb dX12_feed_55 (lv_at hl 0 rfl) ?_
  refine lv_bipush (v := 20) hx hb dX12_feed_57 (by decide) ?_
  refine lv_icmp_ge (tgt := 101) hx hb dX12_feed_59 (by decide) (fun c62 => absurd c62 (by decide)) (fun c62 => ?_)
  refine lv_aload_n hx hb dX12_feed_62 rfl (lv_at hl 1 rfl) ?_
  refine va_get (D := (dC, dI)) (ci := 12) (v := .ref (u 4)) (C := RX12) (T := TX12) (N := 42) hx hb hwd inlX12 hown hK hP 0 rfl rfl 4 (by decide) (hwd _ kr7_6) (fun _ h9 => h9) rfl dX12_feed_63 ?_
  refine lv_aload_n hx hb dX12_feed_66 rfl (lv_at hl 1 rfl) ?_
  refine va_get (D := (dC, dI)) (ci := 12) (v := .int 0) (C := RX12) (T := TX12) (N := 42) hx hb hwd inlX12 hown hK hP 0 rfl rfl 5 (by decide) (hwd _ kr9_1) (fun _ h9 => h9) rfl dX12_feed_67 ?_
  refine lv_iload hx hb dX12_feed_70 (lv_at hl 0 rfl) ?_
  refine lv_iadd hx hb dX12_feed_72 ?_
  refine lv_topi (nm_r (e' := (11)) (by decide +kernel) ?_)
  refine lv_aload_n hx hb dX12_feed_73 rfl (lv_at hl 1 rfl) ?_
  refine va_get (D := (dC, dI)) (ci := 12) (v := .ref (u 6)) (C := RX12) (T := TX12) (N := 42) hx hb hwd inlX12 hown hK hP 0 rfl rfl 6 (by decide) (hwd _ kr7_7) (fun _ h9 => h9) rfl dX12_feed_74 ?_
  refine lv_iload hx hb dX12_feed_77 (lv_at hl 0 rfl) ?_
  refine lv_iconst (v := 4) hx hb dX12_feed_79 (by decide) ?_
  refine lv_idiv hx hb dX12_feed_80 (by decide) ?_
  refine lv_topi (nm_r (e' := (2)) (by decide +kernel) ?_)
  refine va_iald hx hb hK hP 2 0 rfl rfl (vin (by decide)) dX12_feed_81 ?_
  refine lv_topi (fun x63 ex63 => ?_)
  refine lv_bipush (v := 24) hx hb dX12_feed_82 (by decide) ?_
  refine lv_bipush (v := 8) hx hb dX12_feed_84 (by decide) ?_
  refine lv_iload hx hb dX12_feed_86 (lv_at hl 0 rfl) ?_
  refine lv_iconst (v := 4) hx hb dX12_feed_88 (by decide) ?_
  refine lv_irem hx hb dX12_feed_89 (by decide) ?_
  refine lv_topi (nm_r (e' := (3)) (by decide +kernel) ?_)
  refine lv_imul hx hb dX12_feed_90 ?_
  refine lv_topi (nm_r (e' := (24)) (by decide +kernel) ?_)
  refine lv_isub hx hb dX12_feed_91 ?_
  refine lv_topi (nm_r (e' := (0)) (by decide +kernel) ?_)
  refine lv_ishr hx hb dX12_feed_92 ?_
  refine lv_topi (fun x64 ex64 => ?_)
  refine lv_i2b hx hb dX12_feed_93 rfl ?_
  refine lv_topi (fun x65 ex65 => ?_)
  refine va_bast hx hb hK hP hD hS 1 2 rfl rfl (vin (by decide)) dX12_feed_94 (fun H locs hP hD hS => ?_)
  obtain ⟨f66, ef66⟩ : ∃ f, f = upd f61 (11 : Int32).toNatClampNeg (vp_nar .byte x65) := ⟨_, rfl⟩
  have hP : va_P (dC, dI) vwCl [(h0, .inr (12, [.int 0, .ref (u 1), .ref (u 2), .ref (u 3), .ref (u 4), .int 0, .ref (u 6), .int 0, .int 0, .int 0, .int 0, .int 0, .int 0, .int (-1), .ref (u 14), .ref (u 15), .ref (u 16), .ref (u 17), .ref (u 18), .ref (u 19), .ref (u 20), .int 0, .ref (u 22), .int 0, .ref (u 24), .ref (u 25), .int 0, .ref (u 27), .ref (u 28), .ref (u 29), .ref (u 30), .int 0, .int 0, .int 0, .int 0, .int 0, .ref (u 36), .long 0, .ref (u 38), .ref (u 39), .ref (u 40), .ref (u 41)])), (u 4, .inl (cB, 1600, .inl f66)), (u 6, .inl (cI, 5, .inl f6))] H := by rw [ef66]; exact hP
  have hD : va_D A [(h0, .inr (12, [.int 0, .ref (u 1), .ref (u 2), .ref (u 3), .ref (u 4), .int 0, .ref (u 6), .int 0, .int 0, .int 0, .int 0, .int 0, .int 0, .int (-1), .ref (u 14), .ref (u 15), .ref (u 16), .ref (u 17), .ref (u 18), .ref (u 19), .ref (u 20), .int 0, .ref (u 22), .int 0, .ref (u 24), .ref (u 25), .int 0, .ref (u 27), .ref (u 28), .ref (u 29), .ref (u 30), .int 0, .int 0, .int 0, .int 0, .int 0, .ref (u 36), .long 0, .ref (u 38), .ref (u 39), .ref (u 40), .ref (u 41)])), (u 4, .inl (cB, 1600, .inl f66)), (u 6, .inl (cI, 5, .inl f6))] := by rw [ef66]; exact hD
  refine lv_iinc (v := 12) (lv' := [(6, .int 12), (0, .ref h0), (1, .int p0), (2, .int p1), (3, .int p2), (4, .int p3), (5, .int p4)]) hx hb dX12_feed_95 hl (k := 0) rfl (by decide) (by decide) rfl (fun ls hl => ?_)
  refine lv_goto (tgt := 55) hx hb dX12_feed_98 (by decide) ?_
  refine lv_iload hx hb dX12_feed_55 (lv_at hl 0 rfl) ?_
  refine lv_bipush (v := 20) hx hb dX12_feed_57 (by decide) ?_
  refine lv_icmp_ge (tgt := 101) hx hb dX12_feed_59 (by decide) (fun c67 => absurd c67 (by decide)) (fun c67 => ?_)
  refine lv_aload_n hx hb dX12_feed_62 rfl (lv_at hl 1 rfl) ?_
  refine va_get (D := (dC, dI)) (ci := 12) (v := .ref (u 4)) (C := RX12) (T := TX12) (N := 42) hx hb hwd inlX12 hown hK hP 0 rfl rfl 4 (by decide) (hwd _ kr7_6) (fun _ h9 => h9) rfl dX12_feed_63 ?_
  refine lv_aload_n hx hb dX12_feed_66 rfl (lv_at hl 1 rfl) ?_
  refine va_get (D := (dC, dI)) (ci := 12) (v := .int 0) (C := RX12) (T := TX12) (N := 42) hx hb hwd inlX12 hown hK hP 0 rfl rfl 5 (by decide) (hwd _ kr9_1) (fun _ h9 => h9) rfl dX12_feed_67 ?_
  refine lv_iload hx hb dX12_feed_70 (lv_at hl 0 rfl) ?_
  refine lv_iadd hx hb dX12_feed_72 ?_
  refine lv_topi (nm_r (e' := (12)) (by decide +kernel) ?_)
  refine lv_aload_n hx hb dX12_feed_73 rfl (lv_at hl 1 rfl) ?_
  refine va_get (D := (dC, dI)) (ci := 12) (v := .ref (u 6)) (C := RX12) (T := TX12) (N := 42) hx hb hwd inlX12 hown hK hP 0 rfl rfl 6 (by decide) (hwd _ kr7_7) (fun _ h9 => h9) rfl dX12_feed_74 ?_
  refine lv_iload hx hb dX12_feed_77 (lv_at hl 0 rfl) ?_
  refine lv_iconst (v := 4) hx hb dX12_feed_79 (by decide) ?_
  refine lv_idiv hx hb dX12_feed_80 (by decide) ?_
  refine lv_topi (nm_r (e' := (3)) (by decide +kernel) ?_)
  refine va_iald hx hb hK hP 2 0 rfl rfl (vin (by decide)) dX12_feed_81 ?_
  refine lv_topi (fun x68 ex68 => ?_)
  refine lv_bipush (v := 24) hx hb dX12_feed_82 (by decide) ?_
  refine lv_bipush (v := 8) hx hb dX12_feed_84 (by decide) ?_
  refine lv_iload hx hb dX12_feed_86 (lv_at hl 0 rfl) ?_
  refine lv_iconst (v := 4) hx hb dX12_feed_88 (by decide) ?_
  refine lv_irem hx hb dX12_feed_89 (by decide) ?_
  refine lv_topi (nm_r (e' := (0)) (by decide +kernel) ?_)
  refine lv_imul hx hb dX12_feed_90 ?_
  refine lv_topi (nm_r (e' := (0)) (by decide +kernel) ?_)
  refine lv_isub hx hb dX12_feed_91 ?_
  refine lv_topi (nm_r (e' := (24)) (by decide +kernel) ?_)
  refine lv_ishr hx hb dX12_feed_92 ?_
  refine lv_topi (fun x69 ex69 => ?_)
  refine lv_i2b hx hb dX12_feed_93 rfl ?_
  refine lv_topi (fun x70 ex70 => ?_)
  refine va_bast hx hb hK hP hD hS 1 2 rfl rfl (vin (by decide)) dX12_feed_94 (fun H locs hP hD hS => ?_)
  obtain ⟨f71, ef71⟩ : ∃ f, f = upd f66 (12 : Int32).toNatClampNeg (vp_nar .byte x70) := ⟨_, rfl⟩
  have hP : va_P (dC, dI) vwCl [(h0, .inr (12, [.int 0, .ref (u 1), .ref (u 2), .ref (u 3), .ref (u 4), .int 0, .ref (u 6), .int 0, .int 0, .int 0, .int 0, .int 0, .int 0, .int (-1), .ref (u 14), .ref (u 15), .ref (u 16), .ref (u 17), .ref (u 18), .ref (u 19), .ref (u 20), .int 0, .ref (u 22), .int 0, .ref (u 24), .ref (u 25), .int 0, .ref (u 27), .ref (u 28), .ref (u 29), .ref (u 30), .int 0, .int 0, .int 0, .int 0, .int 0, .ref (u 36), .long 0, .ref (u 38), .ref (u 39), .ref (u 40), .ref (u 41)])), (u 4, .inl (cB, 1600, .inl f71)), (u 6, .inl (cI, 5, .inl f6))] H := by rw [ef71]; exact hP
  have hD : va_D A [(h0, .inr (12, [.int 0, .ref (u 1), .ref (u 2), .ref (u 3), .ref (u 4), .int 0, .ref (u 6), .int 0, .int 0, .int 0, .int 0, .int 0, .int 0, .int (-1), .ref (u 14), .ref (u 15), .ref (u 16), .ref (u 17), .ref (u 18), .ref (u 19), .ref (u 20), .int 0, .ref (u 22), .int 0, .ref (u 24), .ref (u 25), .int 0, .ref (u 27), .ref (u 28), .ref (u 29), .ref (u 30), .int 0, .int 0, .int 0, .int 0, .int 0, .ref (u 36), .long 0, .ref (u 38), .ref (u 39), .ref (u 40), .ref (u 41)])), (u 4, .inl (cB, 1600, .inl f71)), (u 6, .inl (cI, 5, .inl f6))] := by rw [ef71]; exact hD
  refine lv_iinc (v := 13) (lv' := [(6, .int 13), (0, .ref h0), (1, .int p0), (2, .int p1), (3, .int p2), (4, .int p3), (5, .int p4)]) hx hb dX12_feed_95 hl (k := 0) rfl (by decide) (by decide) rfl (fun ls hl => ?_)
  refine lv_goto (tgt := 55) hx hb dX12_feed_98 (by decide) ?_
  refine lv_iload hx hb dX12_feed_55 (lv_at hl 0 rfl) ?_
  refine lv_bipush (v := 20) hx hb dX12_feed_57 (by decide) ?_
  refine lv_icmp_ge (tgt := 101) hx hb dX12_feed_59 (by decide) (fun c72 => absurd c72 (by decide)) (fun c72 => ?_)
  refine lv_aload_n hx hb dX12_feed_62 rfl (lv_at hl 1 rfl) ?_
  refine va_get (D := (dC, dI)) (ci := 12) (v := .ref (u 4)) (C := RX12) (T := TX12) (N := 42) hx hb hwd inlX12 hown hK hP 0 rfl rfl 4 (by decide) (hwd _ kr7_6) (fun _ h9 => h9) rfl dX12_feed_63 ?_
  refine lv_aload_n hx hb dX12_feed_66 rfl (lv_at hl 1 rfl) ?_
  refine va_get (D := (dC, dI)) (ci := 12) (v := .int 0) (C := RX12) (T := TX12) (N := 42) hx hb hwd inlX12 hown hK hP 0 rfl rfl 5 (by decide) (hwd _ kr9_1) (fun _ h9 => h9) rfl dX12_feed_67 ?_
  refine lv_iload hx hb dX12_feed_70 (lv_at hl 0 rfl) ?_
  refine lv_iadd hx hb dX12_feed_72 ?_
  refine lv_topi (nm_r (e' := (13)) (by decide +kernel) ?_)
  refine lv_aload_n hx hb dX12_feed_73 rfl (lv_at hl 1 rfl) ?_
  refine va_get (D := (dC, dI)) (ci := 12) (v := .ref (u 6)) (C := RX12) (T := TX12) (N := 42) hx hb hwd inlX12 hown hK hP 0 rfl rfl 6 (by decide) (hwd _ kr7_7) (fun _ h9 => h9) rfl dX12_feed_74 ?_
  refine lv_iload hx hb dX12_feed_77 (lv_at hl 0 rfl) ?_
  refine lv_iconst (v := 4) hx hb dX12_feed_79 (by decide) ?_
  refine lv_idiv hx hb dX12_feed_80 (by decide) ?_
  refine lv_topi (nm_r (e' := (3)) (by decide +kernel) ?_)
  refine va_iald hx hb hK hP 2 0 rfl rfl (vin (by decide)) dX12_feed_81 ?_
  refine lv_topi (fun x73 ex73 => ?_)
  refine lv_bipush (v := 24) hx hb dX12_feed_82 (by decide) ?_
  refine lv_bipush (v := 8) hx hb dX12_feed_84 (by decide) ?_
  refine lv_iload hx hb dX12_feed_86 (lv_at hl 0 rfl) ?_
  refine lv_iconst (v := 4) hx hb dX12_feed_88 (by decide) ?_
  refine lv_irem hx hb dX12_feed_89 (by decide) ?_
  refine lv_topi (nm_r (e' := (1)) (by decide +kernel) ?_)
  refine lv_imul hx hb dX12_feed_90 ?_
  refine lv_topi (nm_r (e' := (8)) (by decide +kernel) ?_)
  refine lv_isub hx hb dX12_feed_91 ?_
  refine lv_topi (nm_r (e' := (16)) (by decide +kernel) ?_)
  refine lv_ishr hx hb dX12_feed_92 ?_
  refine lv_topi (fun x74 ex74 => ?_)
  refine lv_i2b hx hb dX12_feed_93 rfl ?_
  refine lv_topi (fun x75 ex75 => ?_)
  refine va_bast hx hb hK hP hD hS 1 2 rfl rfl (vin (by decide)) dX12_feed_94 (fun H locs hP hD hS => ?_)
  obtain ⟨f76, ef76⟩ : ∃ f, f = upd f71 (13 : Int32).toNatClampNeg (vp_nar .byte x75) := ⟨_, rfl⟩
  have hP : va_P (dC, dI) vwCl [(h0, .inr (12, [.int 0, .ref (u 1), .ref (u 2), .ref (u 3), .ref (u 4), .int 0, .ref (u 6), .int 0, .int 0, .int 0, .int 0, .int 0, .int 0, .int (-1), .ref (u 14), .ref (u 15), .ref (u 16), .ref (u 17), .ref (u 18), .ref (u 19), .ref (u 20), .int 0, .ref (u 22), .int 0, .ref (u 24), .ref (u 25), .int 0, .ref (u 27), .ref (u 28), .ref (u 29), .ref (u 30), .int 0, .int 0, .int 0, .int 0, .int 0, .ref (u 36), .long 0, .ref (u 38), .ref (u 39), .ref (u 40), .ref (u 41)])), (u 4, .inl (cB, 1600, .inl f76)), (u 6, .inl (cI, 5, .inl f6))] H := by rw [ef76]; exact hP
  have hD : va_D A [(h0, .inr (12, [.int 0, .ref (u 1), .ref (u 2), .ref (u 3), .ref (u 4), .int 0, .ref (u 6), .int 0, .int 0, .int 0, .int 0, .int 0, .int 0, .int (-1), .ref (u 14), .ref (u 15), .ref (u 16), .ref (u 17), .ref (u 18), .ref (u 19), .ref (u 20), .int 0, .ref (u 22), .int 0, .ref (u 24), .ref (u 25), .int 0, .ref (u 27), .ref (u 28), .ref (u 29), .ref (u 30), .int 0, .int 0, .int 0, .int 0, .int 0, .ref (u 36), .long 0, .ref (u 38), .ref (u 39), .ref (u 40), .ref (u 41)])), (u 4, .inl (cB, 1600, .inl f76)), (u 6, .inl (cI, 5, .inl f6))] := by rw [ef76]; exact hD
  refine lv_iinc (v := 14) (lv' := [(6, .int 14), (0, .ref h0), (1, .int p0), (2, .int p1), (3, .int p2), (4, .int p3), (5, .int p4)]) hx hb dX12_feed_95 hl (k := 0) rfl (by decide) (by decide) rfl (fun ls hl => ?_)
  refine lv_goto (tgt := 55) hx hb dX12_feed_98 (by decide) ?_
  refine lv_iload hx hb dX12_feed_55 (lv_at hl 0 rfl) ?_
  refine lv_bipush (v := 20) hx hb dX12_feed_57 (by decide) ?_
  refine lv_icmp_ge (tgt := 101) hx hb dX12_feed_59 (by decide) (fun c77 => absurd c77 (by decide)) (fun c77 => ?_)
  refine lv_aload_n hx hb dX12_feed_62 rfl (lv_at hl 1 rfl) ?_
  refine va_get (D := (dC, dI)) (ci := 12) (v := .ref (u 4)) (C := RX12) (T := TX12) (N := 42) hx hb hwd inlX12 hown hK hP 0 rfl rfl 4 (by decide) (hwd _ kr7_6) (fun _ h9 => h9) rfl dX12_feed_63 ?_
  refine lv_aload_n hx hb dX12_feed_66 rfl (lv_at hl 1 rfl) ?_
  refine va_get (D := (dC, dI)) (ci := 12) (v := .int 0) (C := RX12) (T := TX12) (N := 42) hx hb hwd inlX12 hown hK hP 0 rfl rfl 5 (by decide) (hwd _ kr9_1) (fun _ h9 => h9) rfl dX12_feed_67 ?_
  refine lv_iload hx hb dX12_feed_70 (lv_at hl 0 rfl) ?_
  refine lv_iadd hx hb dX12_feed_72 ?_
  refine lv_topi (nm_r (e' := (14)) (by decide +kernel) ?_)
  refine lv_aload_n hx hb dX12_feed_73 rfl (lv_at hl 1 rfl) ?_
  refine va_get (D := (dC, dI)) (ci := 12) (v := .ref (u 6)) (C := RX12) (T := TX12) (N := 42) hx hb hwd inlX12 hown hK hP 0 rfl rfl 6 (by decide) (hwd _ kr7_7) (fun _ h9 => h9) rfl dX12_feed_74 ?_
  refine lv_iload hx hb dX12_feed_77 (lv_at hl 0 rfl) ?_
  refine lv_iconst (v := 4) hx hb dX12_feed_79 (by decide) ?_
  refine lv_idiv hx hb dX12_feed_80 (by decide) ?_
  refine lv_topi (nm_r (e' := (3)) (by decide +kernel) ?_)
  refine va_iald hx hb hK hP 2 0 rfl rfl (vin (by decide)) dX12_feed_81 ?_
  refine lv_topi (fun x78 ex78 => ?_)
  refine lv_bipush (v := 24) hx hb dX12_feed_82 (by decide) ?_
  refine lv_bipush (v := 8) hx hb dX12_feed_84 (by decide) ?_
  refine lv_iload hx hb dX12_feed_86 (lv_at hl 0 rfl) ?_
  refine lv_iconst (v := 4) hx hb dX12_feed_88 (by decide) ?_
  refine lv_irem hx hb dX12_feed_89 (by decide) ?_
  refine lv_topi (nm_r (e' := (2)) (by decide +kernel) ?_)
  refine lv_imul hx hb dX12_feed_90 ?_
  refine lv_topi (nm_r (e' := (16)) (by decide +kernel) ?_)
  refine lv_isub hx hb dX12_feed_91 ?_
  refine lv_topi (nm_r (e' := (8)) (by decide +kernel) ?_)
  refine lv_ishr hx hb dX12_feed_92 ?_
  refine lv_topi (fun x79 ex79 => ?_)
  refine lv_i2b hx hb dX12_feed_93 rfl ?_
  refine lv_topi (fun x80 ex80 => ?_)
  refine va_bast hx hb hK hP hD hS 1 2 rfl rfl (vin (by decide)) dX12_feed_94 (fun H locs hP hD hS => ?_)
  obtain ⟨f81, ef81⟩ : ∃ f, f = upd f76 (14 : Int32).toNatClampNeg (vp_nar .byte x80) := ⟨_, rfl⟩
  have hP : va_P (dC, dI) vwCl [(h0, .inr (12, [.int 0, .ref (u 1), .ref (u 2), .ref (u 3), .ref (u 4), .int 0, .ref (u 6), .int 0, .int 0, .int 0, .int 0, .int 0, .int 0, .int (-1), .ref (u 14), .ref (u 15), .ref (u 16), .ref (u 17), .ref (u 18), .ref (u 19), .ref (u 20), .int 0, .ref (u 22), .int 0, .ref (u 24), .ref (u 25), .int 0, .ref (u 27), .ref (u 28), .ref (u 29), .ref (u 30), .int 0, .int 0, .int 0, .int 0, .int 0, .ref (u 36), .long 0, .ref (u 38), .ref (u 39), .ref (u 40), .ref (u 41)])), (u 4, .inl (cB, 1600, .inl f81)), (u 6, .inl (cI, 5, .inl f6))] H := by rw [ef81]; exact hP
  have hD : va_D A [(h0, .inr (12, [.int 0, .ref (u 1), .ref (u 2), .ref (u 3), .ref (u 4), .int 0, .ref (u 6), .int 0, .int 0, .int 0, .int 0, .int 0, .int 0, .int (-1), .ref (u 14), .ref (u 15), .ref (u 16), .ref (u 17), .ref (u 18), .ref (u 19), .ref (u 20), .int 0, .ref (u 22), .int 0, .ref (u 24), .ref (u 25), .int 0, .ref (u 27), .ref (u 28), .ref (u 29), .ref (u 30), .int 0, .int 0, .int 0, .int 0, .int 0, .ref (u 36), .long 0, .ref (u 38), .ref (u 39), .ref (u 40), .ref (u 41)])), (u 4, .inl (cB, 1600, .inl f81)), (u 6, .inl (cI, 5, .inl f6))] := by rw [ef81]; exact hD
  refine lv_iinc (v := 15) (lv' := [(6, .int 15), (0, .ref h0), (1, .int p0), (2, .int p1), (3, .int p2), (4, .int p3), (5, .int p4)]) hx hb dX12_feed_95 hl (k := 0) rfl (by decide) (by decide) rfl (fun ls hl => ?_)
  refine lv_goto (tgt := 55) hx hb dX12_feed_98 (by decide) ?_
  refine lv_iload hx hb dX12_feed_55 (lv_at hl 0 rfl) ?_
  refine lv_bipush (v := 20) hx hb dX12_feed_57 (by decide) ?_
  refine lv_icmp_ge (tgt := 101) hx hb dX12_feed_59 (by decide) (fun c82 => absurd c82 (by decide)) (fun c82 => ?_)
  refine lv_aload_n hx hb dX12_feed_62 rfl (lv_at hl 1 rfl) ?_
  refine va_get (D := (dC, dI)) (ci := 12) (v := .ref (u 4)) (C := RX12) (T := TX12) (N := 42) hx hb hwd inlX12 hown hK hP 0 rfl rfl 4 (by decide) (hwd _ kr7_6) (fun _ h9 => h9) rfl dX12_feed_63 ?_
  refine lv_aload_n hx hb dX12_feed_66 rfl (lv_at hl 1 rfl) ?_
  refine va_get (D := (dC, dI)) (ci := 12) (v := .int 0) (C := RX12) (T := TX12) (N := 42) hx hb hwd inlX12 hown hK hP 0 rfl rfl 5 (by decide) (hwd _ kr9_1) (fun _ h9 => h9) rfl dX12_feed_67 ?_
  refine lv_iload hx hb dX12_feed_70 (lv_at hl 0 rfl) ?_
  refine lv_iadd hx hb dX12_feed_72 ?_
  refine lv_topi (nm_r (e' := (15)) (by decide +kernel) ?_)
  refine lv_aload_n hx hb dX12_feed_73 rfl (lv_at hl 1 rfl) ?_
  refine va_get (D := (dC, dI)) (ci := 12) (v := .ref (u 6)) (C := RX12) (T := TX12) (N := 42) hx hb hwd inlX12 hown hK hP 0 rfl rfl 6 (by decide) (hwd _ kr7_7) (fun _ h9 => h9) rfl dX12_feed_74 ?_
  refine lv_iload hx hb dX12_feed_77 (lv_at hl 0 rfl) ?_
  refine lv_iconst (v := 4) hx hb dX12_feed_79 (by decide) ?_
  refine lv_idiv hx hb dX12_feed_80 (by decide) ?_
  refine lv_topi (nm_r (e' := (3)) (by decide +kernel) ?_)
  refine va_iald hx hb hK hP 2 0 rfl rfl (vin (by decide)) dX12_feed_81 ?_
  refine lv_topi (fun x83 ex83 => ?_)
  refine lv_bipush (v := 24) hx hb dX12_feed_82 (by decide) ?_
  refine lv_bipush (v := 8) hx hb dX12_feed_84 (by decide) ?_
  refine lv_iload hx hb dX12_feed_86 (lv_at hl 0 rfl) ?_
  refine lv_iconst (v := 4) hx hb dX12_feed_88 (by decide) ?_
  refine lv_irem hx hb dX12_feed_89 (by decide) ?_
  refine lv_topi (nm_r (e' := (3)) (by decide +kernel) ?_)
  refine lv_imul hx hb dX12_feed_90 ?_
  refine lv_topi (nm_r (e' := (24)) (by decide +kernel) ?_)
  refine lv_isub hx hb dX12_feed_91 ?_
  refine lv_topi (nm_r (e' := (0)) (by decide +kernel) ?_)
  refine lv_ishr hx hb dX12_feed_92 ?_
  refine lv_topi (fun x84 ex84 => ?_)
  refine lv_i2b hx hb dX12_feed_93 rfl ?_
  refine lv_topi (fun x85 ex85 => ?_)
  refine va_bast hx hb hK hP hD hS 1 2 rfl rfl (vin (by decide)) dX12_feed_94 (fun H locs hP hD hS => ?_)
  obtain ⟨f86, ef86⟩ : ∃ f, f = upd f81 (15 : Int32).toNatClampNeg (vp_nar .byte x85) := ⟨_, rfl⟩
  have hP : va_P (dC, dI) vwCl [(h0, .inr (12, [.int 0, .ref (u 1), .ref (u 2), .ref (u 3), .ref (u 4), .int 0, .ref (u 6), .int 0, .int 0, .int 0, .int 0, .int 0, .int 0, .int (-1), .ref (u 14), .ref (u 15), .ref (u 16), .ref (u 17), .ref (u 18), .ref (u 19), .ref (u 20), .int 0, .ref (u 22), .int 0, .ref (u 24), .ref (u 25), .int 0, .ref (u 27), .ref (u 28), .ref (u 29), .ref (u 30), .int 0, .int 0, .int 0, .int 0, .int 0, .ref (u 36), .long 0, .ref (u 38), .ref (u 39), .ref (u 40), .ref (u 41)])), (u 4, .inl (cB, 1600, .inl f86)), (u 6, .inl (cI, 5, .inl f6))] H := by rw [ef86]; exact hP
  have hD : va_D A [(h0, .inr (12, [.int 0, .ref (u 1), .ref (u 2), .ref (u 3), .ref (u 4), .int 0, .ref (u 6), .int 0, .int 0, .int 0, .int 0, .int 0, .int 0, .int (-1), .ref (u 14), .ref (u 15), .ref (u 16), .ref (u 17), .ref (u 18), .ref (u 19), .ref (u 20), .int 0, .ref (u 22), .int 0, .ref (u 24), .ref (u 25), .int 0, .ref (u 27), .ref (u 28), .ref (u 29), .ref (u 30), .int 0, .int 0, .int 0, .int 0, .int 0, .ref (u 36), .long 0, .ref (u 38), .ref (u 39), .ref (u 40), .ref (u 41)])), (u 4, .inl (cB, 1600, .inl f86)), (u 6, .inl (cI, 5, .inl f6))] := by rw [ef86]; exact hD
  refine lv_iinc (v := 16) (lv' := [(6, .int 16), (0, .ref h0), (1, .int p0), (2, .int p1), (3, .int p2), (4, .int p3), (5, .int p4)]) hx hb dX12_feed_95 hl (k := 0) rfl (by decide) (by decide) rfl (fun ls hl => ?_)
  refine lv_goto (tgt := 55) hx hb dX12_feed_98 (by decide) ?_
  refine lv_iload hx hb dX12_feed_55 (lv_at hl 0 rfl) ?_
  refine lv_bipush (v := 20) hx hb dX12_feed_57 (by decide) ?_
  refine lv_icmp_ge (tgt := 101) hx hb dX12_feed_59 (by decide) (fun c87 => absurd c87 (by decide)) (fun c87 => ?_)
  refine lv_aload_n hx hb dX12_feed_62 rfl (lv_at hl 1 rfl) ?_
  refine va_get (D := (dC, dI)) (ci := 12) (v := .ref (u 4)) (C := RX12) (T := TX12) (N := 42) hx hb hwd inlX12 hown hK hP 0 rfl rfl 4 (by decide) (hwd _ kr7_6) (fun _ h9 => h9) rfl dX12_feed_63 ?_
  refine lv_aload_n hx hb dX12_feed_66 rfl (lv_at hl 1 rfl) ?_
  refine va_get (D := (dC, dI)) (ci := 12) (v := .int 0) (C := RX12) (T := TX12) (N := 42) hx hb hwd inlX12 hown hK hP 0 rfl rfl 5 (by decide) (hwd _ kr9_1) (fun _ h9 => h9) rfl dX12_feed_67 ?_
  refine lv_iload hx hb dX12_feed_70 (lv_at hl 0 rfl) ?_
  refine lv_iadd hx hb dX12_feed_72 ?_
  refine lv_topi (nm_r (e' := (16)) (by decide +kernel) ?_)
  refine lv_aload_n hx hb dX12_feed_73 rfl (lv_at hl 1 rfl) ?_
  refine va_get (D := (dC, dI)) (ci := 12) (v := .ref (u 6)) (C := RX12) (T := TX12) (N := 42) hx hb hwd inlX12 hown hK hP 0 rfl rfl 6 (by decide) (hwd _ kr7_7) (fun _ h9 => h9) rfl dX12_feed_74 ?_
  refine lv_iload hx hb dX12_feed_77 (lv_at hl 0 rfl) ?_
  refine lv_iconst (v := 4) hx hb dX12_feed_79 (by decide) ?_
  refine lv_idiv hx hb dX12_feed_80 (by decide) ?_
  refine lv_topi (nm_r (e' := (4)) (by decide +kernel) ?_)
  refine va_iald hx hb hK hP 2 0 rfl rfl (vin (by decide)) dX12_feed_81 ?_
  refine lv_topi (fun x88 ex88 => ?_)
  refine lv_bipush (v := 24) hx hb dX12_feed_82 (by decide) ?_
  refine lv_bipush (v := 8) hx hb dX12_feed_84 (by decide) ?_
  refine lv_iload hx hb dX12_feed_86 (lv_at hl 0 rfl) ?_
  refine lv_iconst (v := 4) hx hb dX12_feed_88 (by decide) ?_
  refine lv_irem hx hb dX12_feed_89 (by decide) ?_
  refine lv_topi (nm_r (e' := (0)) (by decide +kernel) ?_)
  refine lv_imul hx hb dX12_feed_90 ?_
  refine lv_topi (nm_r (e' := (0)) (by decide +kernel) ?_)
  refine lv_isub hx hb dX12_feed_91 ?_
  refine lv_topi (nm_r (e' := (24)) (by decide +kernel) ?_)
  refine lv_ishr hx hb dX12_feed_92 ?_
  refine lv_topi (fun x89 ex89 => ?_)
  refine lv_i2b hx hb dX12_feed_93 rfl ?_
  refine lv_topi (fun x90 ex90 => ?_)
  refine va_bast hx hb hK hP hD hS 1 2 rfl rfl (vin (by decide)) dX12_feed_94 (fun H locs hP hD hS => ?_)
  obtain ⟨f91, ef91⟩ : ∃ f, f = upd f86 (16 : Int32).toNatClampNeg (vp_nar .byte x90) := ⟨_, rfl⟩
  have hP : va_P (dC, dI) vwCl [(h0, .inr (12, [.int 0, .ref (u 1), .ref (u 2), .ref (u 3), .ref (u 4), .int 0, .ref (u 6), .int 0, .int 0, .int 0, .int 0, .int 0, .int 0, .int (-1), .ref (u 14), .ref (u 15), .ref (u 16), .ref (u 17), .ref (u 18), .ref (u 19), .ref (u 20), .int 0, .ref (u 22), .int 0, .ref (u 24), .ref (u 25), .int 0, .ref (u 27), .ref (u 28), .ref (u 29), .ref (u 30), .int 0, .int 0, .int 0, .int 0, .int 0, .ref (u 36), .long 0, .ref (u 38), .ref (u 39), .ref (u 40), .ref (u 41)])), (u 4, .inl (cB, 1600, .inl f91)), (u 6, .inl (cI, 5, .inl f6))] H := by rw [ef91]; exact hP
  have hD : va_D A [(h0, .inr (12, [.int 0, .ref (u 1), .ref (u 2), .ref (u 3), .ref (u 4), .int 0, .ref (u 6), .int 0, .int 0, .int 0, .int 0, .int 0, .int 0, .int (-1), .ref (u 14), .ref (u 15), .ref (u 16), .ref (u 17), .ref (u 18), .ref (u 19), .ref (u 20), .int 0, .ref (u 22), .int 0, .ref (u 24), .ref (u 25), .int 0, .ref (u 27), .ref (u 28), .ref (u 29), .ref (u 30), .int 0, .int 0, .int 0, .int 0, .int 0, .ref (u 36), .long 0, .ref (u 38), .ref (u 39), .ref (u 40), .ref (u 41)])), (u 4, .inl (cB, 1600, .inl f91)), (u 6, .inl (cI, 5, .inl f6))] := by rw [ef91]; exact hD
  refine lv_iinc (v := 17) (lv' := [(6, .int 17), (0, .ref h0), (1, .int p0), (2, .int p1), (3, .int p2), (4, .int p3), (5, .int p4)]) hx hb dX12_feed_95 hl (k := 0) rfl (by decide) (by decide) rfl (fun ls hl => ?_)
  refine lv_goto (tgt := 55) hx hb dX12_feed_98 (by decide) ?_
  refine lv_iload hx hb dX12_feed_55 (lv_at hl 0 rfl) ?_
  refine lv_bipush (v := 20) hx hb dX12_feed_57 (by decide) ?_
  refine lv_icmp_ge (tgt := 101) hx hb dX12_feed_59 (by decide) (fun c92 => absurd c92 (by decide)) (fun c92 => ?_)
  refine lv_aload_n hx hb dX12_feed_62 rfl (lv_at hl 1 rfl) ?_
  refine va_get (D := (dC, dI)) (ci := 12) (v := .ref (u 4)) (C := RX12) (T := TX12) (N := 42) hx hb hwd inlX12 hown hK hP 0 rfl rfl 4 (by decide) (hwd _ kr7_6) (fun _ h9 => h9) rfl dX12_feed_63 ?_
  refine lv_aload_n hx hb dX12_feed_66 rfl (lv_at hl 1 rfl) ?_
  refine va_get (D := (dC, dI)) (ci := 12) (v := .int 0) (C := RX12) (T := TX12) (N := 42) hx hb hwd inlX12 hown hK hP 0 rfl rfl 5 (by decide) (hwd _ kr9_1) (fun _ h9 => h9) rfl dX12_feed_67 ?_
  refine lv_iload hx hb dX12_feed_70 (lv_at hl 0 rfl) ?_
  refine lv_iadd hx hb dX12_feed_72 ?_
  refine lv_topi (nm_r (e' := (17)) (by decide +kernel) ?_)
  refine lv_aload_n hx hb dX12_feed_73 rfl (lv_at hl 1 rfl) ?_
  refine va_get (D := (dC, dI)) (ci := 12) (v := .ref (u 6)) (C := RX12) (T := TX12) (N := 42) hx hb hwd inlX12 hown hK hP 0 rfl rfl 6 (by decide) (hwd _ kr7_7) (fun _ h9 => h9) rfl dX12_feed_74 ?_
  refine lv_iload hx hb dX12_feed_77 (lv_at hl 0 rfl) ?_
  refine lv_iconst (v := 4) hx hb dX12_feed_79 (by decide) ?_
  refine lv_idiv hx hb dX12_feed_80 (by decide) ?_
  refine lv_topi (nm_r (e' := (4)) (by decide +kernel) ?_)
  refine va_iald hx hb hK hP 2 0 rfl rfl (vin (by decide)) dX12_feed_81 ?_
  refine lv_topi (fun x93 ex93 => ?_)
  refine lv_bipush (v := 24) hx hb dX12_feed_82 (by decide) ?_
  refine lv_bipush (v := 8) hx hb dX12_feed_84 (by decide) ?_
  refine lv_iload hx hb dX12_feed_86 (lv_at hl 0 rfl) ?_
  refine lv_iconst (v := 4) hx hb dX12_feed_88 (by decide) ?_
  refine lv_irem hx hb dX12_feed_89 (by decide) ?_
  refine lv_topi (nm_r (e' := (1)) (by decide +kernel) ?_)
  refine lv_imul hx hb dX12_feed_90 ?_
  refine lv_topi (nm_r (e' := (8)) (by decide +kernel) ?_)
  refine lv_isub hx hb dX12_feed_91 ?_
  refine lv_topi (nm_r (e' := (16)) (by decide +kernel) ?_)
  refine lv_ishr hx hb dX12_feed_92 ?_
  refine lv_topi (fun x94 ex94 => ?_)
  refine lv_i2b hx hb dX12_feed_93 rfl ?_
  refine lv_topi (fun x95 ex95 => ?_)
  refine va_bast hx hb hK hP hD hS 1 2 rfl rfl (vin (by decide)) dX12_feed_94 (fun H locs hP hD hS => ?_)
  obtain ⟨f96, ef96⟩ : ∃ f, f = upd f91 (17 : Int32).toNatClampNeg (vp_nar .byte x95) := ⟨_, rfl⟩
  have hP : va_P (dC, dI) vwCl [(h0, .inr (12, [.int 0, .ref (u 1), .ref (u 2), .ref (u 3), .ref (u 4), .int 0, .ref (u 6), .int 0, .int 0, .int 0, .int 0, .int 0, .int 0, .int (-1), .ref (u 14), .ref (u 15), .ref (u 16), .ref (u 17), .ref (u 18), .ref (u 19), .ref (u 20), .int 0, .ref (u 22), .int 0, .ref (u 24), .ref (u 25), .int 0, .ref (u 27), .ref (u 28), .ref (u 29), .ref (u 30), .int 0, .int 0, .int 0, .int 0, .int 0, .ref (u 36), .long 0, .ref (u 38), .ref (u 39), .ref (u 40), .ref (u 41)])), (u 4, .inl (cB, 1600, .inl f96)), (u 6, .inl (cI, 5, .inl f6))] H := by rw [ef96]; exact hP
  have hD : va_D A [(h0, .inr (12, [.int 0, .ref (u 1), .ref (u 2), .ref (u 3), .ref (u 4), .int 0, .ref (u 6), .int 0, .int 0, .int 0, .int 0, .int 0, .int 0, .int (-1), .ref (u 14), .ref (u 15), .ref (u 16), .ref (u 17), .ref (u 18), .ref (u 19), .ref (u 20), .int 0, .ref (u 22), .int 0, .ref (u 24), .ref (u 25), .int 0, .ref (u 27), .ref (u 28), .ref (u 29), .ref (u 30), .int 0, .int 0, .int 0, .int 0, .int 0, .ref (u 36), .long 0, .ref (u 38), .ref (u 39), .ref (u 40), .ref (u 41)])), (u 4, .inl (cB, 1600, .inl f96)), (u 6, .inl (cI, 5, .inl f6))] := by rw [ef96]; exact hD
  refine lv_iinc (v := 18) (lv' := [(6, .int 18), (0, .ref h0), (1, .int p0), (2, .int p1), (3, .int p2), (4, .int p3), (5, .int p4)]) hx hb dX12_feed_95 hl (k := 0) rfl (by decide) (by decide) rfl (fun ls hl => ?_)
  refine lv_goto (tgt := 55) hx hb dX12_feed_98 (by decide) ?_
  refine lv_iload hx hb dX12_feed_55 (lv_at hl 0 rfl) ?_
  refine lv_bipush (v := 20) hx hb dX12_feed_57 (by decide) ?_
  refine lv_icmp_ge (tgt := 101) hx hb dX12_feed_59 (by decide) (fun c97 => absurd c97 (by decide)) (fun c97 => ?_)
  refine lv_aload_n hx hb dX12_feed_62 rfl (lv_at hl 1 rfl) ?_
  refine va_get (D := (dC, dI)) (ci := 12) (v := .ref (u 4)) (C := RX12) (T := TX12) (N := 42) hx hb hwd inlX12 hown hK hP 0 rfl rfl 4 (by decide) (hwd _ kr7_6) (fun _ h9 => h9) rfl dX12_feed_63 ?_
  refine lv_aload_n hx hb dX12_feed_66 rfl (lv_at hl 1 rfl) ?_
  refine va_get (D := (dC, dI)) (ci := 12) (v := .int 0) (C := RX12) (T := TX12) (N := 42) hx hb hwd inlX12 hown hK hP 0 rfl rfl 5 (by decide) (hwd _ kr9_1) (fun _ h9 => h9) rfl dX12_feed_67 ?_
  refine lv_iload hx hb dX12_feed_70 (lv_at hl 0 rfl) ?_
  refine lv_iadd hx hb dX12_feed_72 ?_
  refine lv_topi (nm_r (e' := (18)) (by decide +kernel) ?_)
  refine lv_aload_n hx hb dX12_feed_73 rfl (lv_at hl 1 rfl) ?_
  refine va_get (D := (dC, dI)) (ci := 12) (v := .ref (u 6)) (C := RX12) (T := TX12) (N := 42) hx hb hwd inlX12 hown hK hP 0 rfl rfl 6 (by decide) (hwd _ kr7_7) (fun _ h9 => h9) rfl dX12_feed_74 ?_
  refine lv_iload hx hb dX12_feed_77 (lv_at hl 0 rfl) ?_
  refine lv_iconst (v := 4) hx hb dX12_feed_79 (by decide) ?_
  refine lv_idiv hx hb dX12_feed_80 (by decide) ?_
  refine lv_topi (nm_r (e' := (4)) (by decide +kernel) ?_)
  refine va_iald hx hb hK hP 2 0 rfl rfl (vin (by decide)) dX12_feed_81 ?_
  refine lv_topi (fun x98 ex98 => ?_)
  refine lv_bipush (v := 24) hx hb dX12_feed_82 (by decide) ?_
  refine lv_bipush (v := 8) hx hb dX12_feed_84 (by decide) ?_
  refine lv_iload hx hb dX12_feed_86 (lv_at hl 0 rfl) ?_
  refine lv_iconst (v := 4) hx hb dX12_feed_88 (by decide) ?_
  refine lv_irem hx hb dX12_feed_89 (by decide) ?_
  refine lv_topi (nm_r (e' := (2)) (by decide +kernel) ?_)
  refine lv_imul hx hb dX12_feed_90 ?_
  refine lv_topi (nm_r (e' := (16)) (by decide +kernel) ?_)
  refine lv_isub hx hb dX12_feed_91 ?_
  refine lv_topi (nm_r (e' := (8)) (by decide +kernel) ?_)
  refine lv_ishr hx hb dX12_feed_92 ?_
  refine lv_topi (fun x99 ex99 => ?_)
  refine lv_i2b hx hb dX12_feed_93 rfl ?_
  refine lv_topi (fun x100 ex100 => ?_)
  refine va_bast hx hb hK hP hD hS 1 2 rfl rfl (vin (by decide)) dX12_feed_94 (fun H locs hP hD hS => ?_)
  obtain ⟨f101, ef101⟩ : ∃ f, f = upd f96 (18 : Int32).toNatClampNeg (vp_nar .byte x100) := ⟨_, rfl⟩
  have hP : va_P (dC, dI) vwCl [(h0, .inr (12, [.int 0, .ref (u 1), .ref (u 2), .ref (u 3), .ref (u 4), .int 0, .ref (u 6), .int 0, .int 0, .int 0, .int 0, .int 0, .int 0, .int (-1), .ref (u 14), .ref (u 15), .ref (u 16), .ref (u 17), .ref (u 18), .ref (u 19), .ref (u 20), .int 0, .ref (u 22), .int 0, .ref (u 24), .ref (u 25), .int 0, .ref (u 27), .ref (u 28), .ref (u 29), .ref (u 30), .int 0, .int 0, .int 0, .int 0, .int 0, .ref (u 36), .long 0, .ref (u 38), .ref (u 39), .ref (u 40), .ref (u 41)])), (u 4, .inl (cB, 1600, .inl f101)), (u 6, .inl (cI, 5, .inl f6))] H := by rw [ef101]; exact hP
  have hD : va_D A [(h0, .inr (12, [.int 0, .ref (u 1), .ref (u 2), .ref (u 3), .ref (u 4), .int 0, .ref (u 6), .int 0, .int 0, .int 0, .int 0, .int 0, .int 0, .int (-1), .ref (u 14), .ref (u 15), .ref (u 16), .ref (u 17), .ref (u 18), .ref (u 19), .ref (u 20), .int 0, .ref (u 22), .int 0, .ref (u 24), .ref (u 25), .int 0, .ref (u 27), .ref (u 28), .ref (u 29), .ref (u 30), .int 0, .int 0, .int 0, .int 0, .int 0, .ref (u 36), .long 0, .ref (u 38), .ref (u 39), .ref (u 40), .ref (u 41)])), (u 4, .inl (cB, 1600, .inl f101)), (u 6, .inl (cI, 5, .inl f6))] := by rw [ef101]; exact hD
  refine lv_iinc (v := 19) (lv' := [(6, .int 19), (0, .ref h0), (1, .int p0), (2, .int p1), (3, .int p2), (4, .int p3), (5, .int p4)]) hx hb dX12_feed_95 hl (k := 0) rfl (by decide) (by decide) rfl (fun ls hl => ?_)
  refine lv_goto (tgt := 55) hx hb dX12_feed_98 (by decide) ?_
  refine lv_iload hx hb dX12_feed_55 (lv_at hl 0 rfl) ?_
  refine lv_bipush (v := 20) hx hb dX12_feed_57 (by decide) ?_
  refine lv_icmp_ge (tgt := 101) hx hb dX12_feed_59 (by decide) (fun c102 => absurd c102 (by decide)) (fun c102 => ?_)
  refine lv_aload_n hx hb dX12_feed_62 rfl (lv_at hl 1 rfl) ?_
  refine va_get (D := (dC, dI)) (ci := 12) (v := .ref (u 4)) (C := RX12) (T := TX12) (N := 42) hx hb hwd inlX12 hown hK hP 0 rfl rfl 4 (by decide) (hwd _ kr7_6) (fun _ h9 => h9) rfl dX12_feed_63 ?_
  refine lv_aload_n hx hb dX12_feed_66 rfl (lv_at hl 1 rfl) ?_
  refine va_get (D := (dC, dI)) (ci := 12) (v := .int 0) (C := RX12) (T := TX12) (N := 42) hx hb hwd inlX12 hown hK hP 0 rfl rfl 5 (by decide) (hwd _ kr9_1) (fun _ h9 => h9) rfl dX12_feed_67 ?_
  refine lv_iload hx hb dX12_feed_70 (lv_at hl 0 rfl) ?_
  refine lv_iadd hx hb dX12_feed_72 ?_
  refine lv_topi (nm_r (e' := (19)) (by decide +kernel) ?_)
  refine lv_aload_n hx hb dX12_feed_73 rfl (lv_at hl 1 rfl) ?_
  refine va_get (D := (dC, dI)) (ci := 12) (v := .ref (u 6)) (C := RX12) (T := TX12) (N := 42) hx hb hwd inlX12 hown hK hP 0 rfl rfl 6 (by decide) (hwd _ kr7_7) (fun _ h9 => h9) rfl dX12_feed_74 ?_
  refine lv_iload hx hb dX12_feed_77 (lv_at hl 0 rfl) ?_
  refine lv_iconst (v := 4) hx hb dX12_feed_79 (by decide) ?_
  refine lv_idiv hx hb dX12_feed_80 (by decide) ?_
  refine lv_topi (nm_r (e' := (4)) (by decide +kernel) ?_)
  refine va_iald hx hb hK hP 2 0 rfl rfl (vin (by decide)) dX12_feed_81 ?_
  refine lv_topi (fun x103 ex103 => ?_)
  refine lv_bipush (v := 24) hx hb dX12_feed_82 (by decide) ?_
  refine lv_bipush (v := 8) hx hb dX12_feed_84 (by decide) ?_
  refine lv_iload hx hb dX12_feed_86 (lv_at hl 0 rfl) ?_
  refine lv_iconst (v := 4) hx hb dX12_feed_88 (by decide) ?_
  refine lv_irem hx hb dX12_feed_89 (by decide) ?_
  refine lv_topi (nm_r (e' := (3)) (by decide +kernel) ?_)
  refine lv_imul hx hb dX12_feed_90 ?_
  refine lv_topi (nm_r (e' := (24)) (by decide +kernel) ?_)
  refine lv_isub hx hb dX12_feed_91 ?_
  refine lv_topi (nm_r (e' := (0)) (by decide +kernel) ?_)
  refine lv_ishr hx hb dX12_feed_92 ?_
  refine lv_topi (fun x104 ex104 => ?_)
  refine lv_i2b hx hb dX12_feed_93 rfl ?_
  refine lv_topi (fun x105 ex105 => ?_)
  refine va_bast hx hb hK hP hD hS 1 2 rfl rfl (vin (by decide)) dX12_feed_94 (fun H locs hP hD hS => ?_)
  obtain ⟨f106, ef106⟩ : ∃ f, f = upd f101 (19 : Int32).toNatClampNeg (vp_nar .byte x105) := ⟨_, rfl⟩
  have hP : va_P (dC, dI) vwCl [(h0, .inr (12, [.int 0, .ref (u 1), .ref (u 2), .ref (u 3), .ref (u 4), .int 0, .ref (u 6), .int 0, .int 0, .int 0, .int 0, .int 0, .int 0, .int (-1), .ref (u 14), .ref (u 15), .ref (u 16), .ref (u 17), .ref (u 18), .ref (u 19), .ref (u 20), .int 0, .ref (u 22), .int 0, .ref (u 24), .ref (u 25), .int 0, .ref (u 27), .ref (u 28), .ref (u 29), .ref (u 30), .int 0, .int 0, .int 0, .int 0, .int 0, .ref (u 36), .long 0, .ref (u 38), .ref (u 39), .ref (u 40), .ref (u 41)])), (u 4, .inl (cB, 1600, .inl f106)), (u 6, .inl (cI, 5, .inl f6))] H := by rw [ef106]; exact hP
  have hD : va_D A [(h0, .inr (12, [.int 0, .ref (u 1), .ref (u 2), .ref (u 3), .ref (u 4), .int 0, .ref (u 6), .int 0, .int 0, .int 0, .int 0, .int 0, .int 0, .int (-1), .ref (u 14), .ref (u 15), .ref (u 16), .ref (u 17), .ref (u 18), .ref (u 19), .ref (u 20), .int 0, .ref (u 22), .int 0, .ref (u 24), .ref (u 25), .int 0, .ref (u 27), .ref (u 28), .ref (u 29), .ref (u 30), .int 0, .int 0, .int 0, .int 0, .int 0, .ref (u 36), .long 0, .ref (u 38), .ref (u 39), .ref (u 40), .ref (u 41)])), (u 4, .inl (cB, 1600, .inl f106)), (u 6, .inl (cI, 5, .inl f6))] := by rw [ef106]; exact hD
  refine lv_iinc (v := 20) (lv' := [(6, .int 20), (0, .ref h0), (1, .int p0), (2, .int p1), (3, .int p2), (4, .int p3), (5, .int p4)]) hx hb dX12_feed_95 hl (k := 0) rfl (by decide) (by decide) rfl (fun ls hl => ?_)
  refine lv_goto (tgt := 55) hx hb dX12_feed_98 (by decide) ?_
  refine lv_iload hx hb dX12_feed_55 (lv_at hl 0 rfl) ?_
  refine lv_bipush (v := 20) hx hb dX12_feed_57 (by decide) ?_
  refine lv_icmp_ge (tgt := 101) hx hb dX12_feed_59 (by decide) (fun c107 => ?_) (fun c107 => absurd c107 (by decide))
  refine lv_aload_n hx hb dX12_feed_101 rfl (lv_at hl 1 rfl) ?_
  refine lv_dup hx hb dX12_feed_102 rfl ?_
  refine va_get (D := (dC, dI)) (ci := 12) (v := .int 0) (C := RX12) (T := TX12) (N := 42) hx hb hwd inlX12 hown hK hP 0 rfl rfl 5 (by decide) (hwd _ kr9_1) (fun _ h9 => h9) rfl dX12_feed_103 ?_
  refine lv_bipush (v := 20) hx hb dX12_feed_106 (by decide) ?_
  refine lv_iadd hx hb dX12_feed_108 ?_
  refine lv_topi (nm_r (e' := (20)) (by decide +kernel) ?_)
  refine va_put (D := (dC, dI)) (ci := 12) (v := .int 20) (ty := .int) (C := RX12) (T := TX12) (N := 42) hx hb hwd inlX12 tyX12 tyX12_ok nmX12 hown hK hP hD hS 0 rfl rfl 5 (by decide) (hwd _ kr9_1) (fun _ h9 => h9) rfl (by decide +kernel) rfl rfl (Nat.le_of_ble_eq_true rfl) dX12_feed_109 (fun H locs hP hD hS => ?_)
  have hP : va_P (dC, dI) vwCl [(h0, .inr (12, [.int 0, .ref (u 1), .ref (u 2), .ref (u 3), .ref (u 4), .int 20, .ref (u 6), .int 0, .int 0, .int 0, .int 0, .int 0, .int 0, .int (-1), .ref (u 14), .ref (u 15), .ref (u 16), .ref (u 17), .ref (u 18), .ref (u 19), .ref (u 20), .int 0, .ref (u 22), .int 0, .ref (u 24), .ref (u 25), .int 0, .ref (u 27), .ref (u 28), .ref (u 29), .ref (u 30), .int 0, .int 0, .int 0, .int 0, .int 0, .ref (u 36), .long 0, .ref (u 38), .ref (u 39), .ref (u 40), .ref (u 41)])), (u 4, .inl (cB, 1600, .inl f106)), (u 6, .inl (cI, 5, .inl f6))] H := hP
  have hD : va_D A [(h0, .inr (12, [.int 0, .ref (u 1), .ref (u 2), .ref (u 3), .ref (u 4), .int 20, .ref (u 6), .int 0, .int 0, .int 0, .int 0, .int 0, .int 0, .int (-1), .ref (u 14), .ref (u 15), .ref (u 16), .ref (u 17), .ref (u 18), .ref (u 19), .ref (u 20), .int 0, .ref (u 22), .int 0, .ref (u 24), .ref (u 25), .int 0, .ref (u 27), .ref (u 28), .ref (u 29), .ref (u 30), .int 0, .int 0, .int 0, .int 0, .int 0, .ref (u 36), .long 0, .ref (u 38), .ref (u 39), .ref (u 40), .ref (u 41)])), (u 4, .inl (cB, 1600, .inl f106)), (u 6, .inl (cI, 5, .inl f6))] := hD
  refine lv_aload_n hx hb dX12_feed_112 rfl (lv_at hl 1 rfl) ?_
  refine va_get (D := (dC, dI)) (ci := 12) (v := .int 20) (C := RX12) (T := TX12) (N := 42) hx hb hwd inlX12 hown hK hP 0 rfl rfl 5 (by decide) (hwd _ kr9_1) (fun _ h9 => h9) rfl dX12_feed_113 ?_
  exact W.iret (v := 20) hx hb hr (fun t ht hW => ⟨⟨20, (), rfl, rfl, trivial⟩, hS.F ht⟩) hS.2.2 dX12_feed_116
set_option maxHeartbeats 4000000 in
set_option maxRecDepth 100000 in
theorem lp_c_X12_drum_0 {p : Program} {l : Launch} {e : Env} {R : Room} {s : State} {m : MethodId} {args : Array Value} {below : List Frame} {meth : Method} {c : Code} {A : Nat → Prop} {cells slots : Nat} {Q : State → Prop} {dC : Nat → ClassId} {dI : Nat → Nat → Nat} {cI cZ cB cJ cM : ClassId} {h0 : Nat} {u : Nat → Nat}  (hx : p.tables.exec = Jvm.exec) (hb : c.code = cX12_drum) (hown : s.vm.findClass RX12 = some m.cls) (hwd : ∀ wd ∈ wsL_law, wd.before args s = true) (hK : va_K (dC, dI) vwCl [(cI, .int), (cZ, .boolean), (cB, .byte), (cJ, .long), (cM, .object RX2)] s) (kx : ∀ (H : Heap) (locs : List Loc) (ls : Array Slot), va_P (dC, dI) vwCl [(u 1, .inl (cI, 544, .inl (upd (upd (upd (fun _ => 0) 8 1) 9 1) 17 (-1)))), (u 14, .inl (cI, 544, .inl (upd (upd (upd (fun _ => 0) 8 1) 9 1) 17 (-1)))), (h0, .inr (12, [.int 0, .ref (u 1), .ref (u 2), .ref (u 3), .ref (u 4), .int 0, .ref (u 6), .int 0, .int 0, .int 0, .int 0, .int 0, .int 0, .int (-1), .ref (u 14), .ref (u 15), .ref (u 16), .ref (u 17), .ref (u 18), .ref (u 19), .ref (u 20), .int 0, .ref (u 22), .int 0, .ref (u 24), .ref (u 25), .int 0, .ref (u 27), .ref (u 28), .ref (u 29), .ref (u 30), .int 0, .int 0, .int 0, .int 0, .int 0, .ref (u 36), .long 0, .ref (u 38), .ref (u 39), .ref (u 40), .ref (u 41)]))] H → va_D A [(u 1, .inl (cI, 544, .inl (upd (upd (upd (fun _ => 0) 8 1) 9 1) 17 (-1)))), (u 14, .inl (cI, 544, .inl (upd (upd (upd (fun _ => 0) 8 1) 9 1) 17 (-1)))), (h0, .inr (12, [.int 0, .ref (u 1), .ref (u 2), .ref (u 3), .ref (u 4), .int 0, .ref (u 6), .int 0, .int 0, .int 0, .int 0, .int 0, .int 0, .int (-1), .ref (u 14), .ref (u 15), .ref (u 16), .ref (u 17), .ref (u 18), .ref (u 19), .ref (u 20), .int 0, .ref (u 22), .int 0, .ref (u 24), .ref (u 25), .int 0, .ref (u 27), .ref (u 28), .ref (u 29), .ref (u 30), .int 0, .int 0, .int 0, .int 0, .int 0, .ref (u 36), .long 0, .ref (u 38), .ref (u 39), .ref (u 40), .ref (u 41)]))] → va_S A s.heap H locs → lv_has ls 2 [(0, .ref h0), (1, .int (nI 544))] → W p l e R s m args below meth c H locs cells slots Q (F0 m 100 ls [])) : ∀ (d i : Nat), i + d = 544 → ∀ (H : Heap) (locs : List Loc) (ls : Array Slot), va_P (dC, dI) vwCl [(u 1, .inl (cI, 544, .inl (upd (upd (upd (fun _ => 0) 8 1) 9 1) 17 (-1)))), (u 14, .inl (cI, 544, .inl (upd (upd (upd (fun _ => 0) 8 1) 9 1) 17 (-1)))), (h0, .inr (12, [.int 0, .ref (u 1), .ref (u 2), .ref (u 3), .ref (u 4), .int 0, .ref (u 6), .int 0, .int 0, .int 0, .int 0, .int 0, .int 0, .int (-1), .ref (u 14), .ref (u 15), .ref (u 16), .ref (u 17), .ref (u 18), .ref (u 19), .ref (u 20), .int 0, .ref (u 22), .int 0, .ref (u 24), .ref (u 25), .int 0, .ref (u 27), .ref (u 28), .ref (u 29), .ref (u 30), .int 0, .int 0, .int 0, .int 0, .int 0, .ref (u 36), .long 0, .ref (u 38), .ref (u 39), .ref (u 40), .ref (u 41)]))] H → va_D A [(u 1, .inl (cI, 544, .inl (upd (upd (upd (fun _ => 0) 8 1) 9 1) 17 (-1)))), (u 14, .inl (cI, 544, .inl (upd (upd (upd (fun _ => 0) 8 1) 9 1) 17 (-1)))), (h0, .inr (12, [.int 0, .ref (u 1), .ref (u 2), .ref (u 3), .ref (u 4), .int 0, .ref (u 6), .int 0, .int 0, .int 0, .int 0, .int 0, .int 0, .int (-1), .ref (u 14), .ref (u 15), .ref (u 16), .ref (u 17), .ref (u 18), .ref (u 19), .ref (u 20), .int 0, .ref (u 22), .int 0, .ref (u 24), .ref (u 25), .int 0, .ref (u 27), .ref (u 28), .ref (u 29), .ref (u 30), .int 0, .int 0, .int 0, .int 0, .int 0, .ref (u 36), .long 0, .ref (u 38), .ref (u 39), .ref (u 40), .ref (u 41)]))] → va_S A s.heap H locs → lv_has ls 2 [(0, .ref h0), (1, .int (nI i))] → W p l e R s m args below meth c H locs cells slots Q (F0 m 75 ls []) := by
  intro d
  induction d with
  | zero =>
    intro i h1 H locs ls hP hD hS hl
    obtain rfl : i = 544 := by omega
    refine lv_iload_n hx hb dX12_drum_75 rfl (lv_at hl 1 rfl) ?_
    refine lv_sipush (v := 544) hx hb dX12_drum_76 (by decide) ?_
    refine lv_icmp_ge (tgt := 100) hx hb dX12_drum_79 (by decide) (fun c1 => ?_) (fun c1 => absurd c1 (by decide))
    exact kx H locs ls hP hD hS hl
  | succ d ih =>
    intro i h1 H locs ls hP hD hS hl
    have hi : i < 544 := by omega
    refine lv_iload_n hx hb dX12_drum_75 rfl (lv_at hl 1 rfl) ?_
    refine lv_sipush (v := 544) hx hb dX12_drum_76 (by decide) ?_
    refine lv_icmp_ge (tgt := 100) hx hb dX12_drum_79 (by decide) (fun c1 => absurd c1 (show ¬ nI 544 ≤ nI i from nI_ge hi (by decide))) (fun c1 => ?_)
    refine lv_aload_n hx hb dX12_drum_82 rfl (lv_at hl 0 rfl) ?_
    refine va_get (D := (dC, dI)) (ci := 12) (v := .ref (u 1)) (C := RX12) (T := TX12) (N := 42) hx hb hwd inlX12 hown hK hP 2 rfl rfl 1 (by decide) (hwd _ kr7_3) (fun _ h9 => h9) rfl dX12_drum_83 ?_
    refine lv_iload_n hx hb dX12_drum_86 rfl (lv_at hl 1 rfl) ?_
    refine lv_aload_n hx hb dX12_drum_87 rfl (lv_at hl 0 rfl) ?_
    refine va_get (D := (dC, dI)) (ci := 12) (v := .ref (u 14)) (C := RX12) (T := TX12) (N := 42) hx hb hwd inlX12 hown hK hP 2 rfl rfl 14 (by decide) (hwd _ kr7_9) (fun _ h9 => h9) rfl dX12_drum_88 ?_
    refine lv_iload_n hx hb dX12_drum_91 rfl (lv_at hl 1 rfl) ?_
    refine va_iald hx hb hK hP 1 0 rfl rfl (vp_in_nI hi (by decide)) dX12_drum_92 ?_
    refine lv_topi (fun x112 ex112 => ?_)
    refine va_iast hx hb hK hP hD hS 0 0 rfl rfl (vp_in_nI hi (by decide)) dX12_drum_93 (fun H locs hP hD hS => ?_)
    rw [ex112, upd_id] at hP hD
    have hP : va_P (dC, dI) vwCl [(u 1, .inl (cI, 544, .inl (upd (upd (upd (fun _ => 0) 8 1) 9 1) 17 (-1)))), (u 14, .inl (cI, 544, .inl (upd (upd (upd (fun _ => 0) 8 1) 9 1) 17 (-1)))), (h0, .inr (12, [.int 0, .ref (u 1), .ref (u 2), .ref (u 3), .ref (u 4), .int 0, .ref (u 6), .int 0, .int 0, .int 0, .int 0, .int 0, .int 0, .int (-1), .ref (u 14), .ref (u 15), .ref (u 16), .ref (u 17), .ref (u 18), .ref (u 19), .ref (u 20), .int 0, .ref (u 22), .int 0, .ref (u 24), .ref (u 25), .int 0, .ref (u 27), .ref (u 28), .ref (u 29), .ref (u 30), .int 0, .int 0, .int 0, .int 0, .int 0, .ref (u 36), .long 0, .ref (u 38), .ref (u 39), .ref (u 40), .ref (u 41)]))] H := hP
    have hD : va_D A [(u 1, .inl (cI, 544, .inl (upd (upd (upd (fun _ => 0) 8 1) 9 1) 17 (-1)))), (u 14, .inl (cI, 544, .inl (upd (upd (upd (fun _ => 0) 8 1) 9 1) 17 (-1)))), (h0, .inr (12, [.int 0, .ref (u 1), .ref (u 2), .ref (u 3), .ref (u 4), .int 0, .ref (u 6), .int 0, .int 0, .int 0, .int 0, .int 0, .int 0, .int (-1), .ref (u 14), .ref (u 15), .ref (u 16), .ref (u 17), .ref (u 18), .ref (u 19), .ref (u 20), .int 0, .ref (u 22), .int 0, .ref (u 24), .ref (u 25), .int 0, .ref (u 27), .ref (u 28), .ref (u 29), .ref (u 30), .int 0, .int 0, .int 0, .int 0, .int 0, .ref (u 36), .long 0, .ref (u 38), .ref (u 39), .ref (u 40), .ref (u 41)]))] := hD
    refine lv_iinc (v := nI (i + 1)) (lv' := [(1, .int (nI (i + 1))), (0, .ref h0)]) hx hb dX12_drum_94 hl (k := 1) rfl (nI_1 i) (by decide) rfl (fun ls hl => ?_)
    refine lv_goto (tgt := 75) hx hb dX12_drum_97 (by decide) ?_
    exact ih (i + 1) (by omega) H locs ls hP hD hS (lv_sub hl [1, 0] rfl)
set_option maxHeartbeats 4000000 in
set_option maxRecDepth 100000 in
theorem c_X12_drum (l : Launch) (dC : Nat → ClassId) (dI : Nat → Nat → Nat) (cI cZ cB cJ cM : ClassId) (h0 : Nat) (u : Nat → Nat)  (sz : Nat) : Met l yX12_drum (kw yX12_drum cX12_drum 2 (some .int)) ({ frames := 3, cells := 0, slots := 0, locals := 62 }) (va_Pc [.ref h0] (kPre dC dI [(cI, .int), (cZ, .boolean), (cB, .byte), (cJ, .long), (cM, .object RX2)] [(h0, .inr (12, [.int 0, .ref (u 1), .ref (u 2), .ref (u 3), .ref (u 4), .int 0, .ref (u 6), .int 0, .int 0, .int 0, .int 0, .int 0, .int 0, .int (-1), .ref (u 14), .ref (u 15), .ref (u 16), .ref (u 17), .ref (u 18), .ref (u 19), .ref (u 20), .int 0, .ref (u 22), .int 0, .ref (u 24), .ref (u 25), .int 0, .ref (u 27), .ref (u 28), .ref (u 29), .ref (u 30), .int 0, .int 0, .int 0, .int 0, .int 0, .ref (u 36), .long 0, .ref (u 38), .ref (u 39), .ref (u 40), .ref (u 41)])), (u 1, .inl (cI, 544, .inl (upd (upd (upd (fun _ => 0) 8 1) 9 1) 17 (-1)))), (u 14, .inl (cI, 544, .inl (fun _ => 0)))] sz)) (va_Qi (fun (r : Int32) (_ : Unit) => r = 0) (fun _ _ => True) (va_A [(h0, .inr (12, [.int 0, .ref (u 1), .ref (u 2), .ref (u 3), .ref (u 4), .int 0, .ref (u 6), .int 0, .int 0, .int 0, .int 0, .int 0, .int 0, .int (-1), .ref (u 14), .ref (u 15), .ref (u 16), .ref (u 17), .ref (u 18), .ref (u 19), .ref (u 20), .int 0, .ref (u 22), .int 0, .ref (u 24), .ref (u 25), .int 0, .ref (u 27), .ref (u 28), .ref (u 29), .ref (u 30), .int 0, .int 0, .int 0, .int 0, .int 0, .ref (u 36), .long 0, .ref (u 38), .ref (u 39), .ref (u 40), .ref (u 41)])), (u 1, .inl (cI, 544, .inl (upd (upd (upd (fun _ => 0) 8 1) 9 1) 17 (-1)))), (u 14, .inl (cI, 544, .inl (fun _ => 0)))] sz)) 0 0 (va_A [(h0, .inr (12, [.int 0, .ref (u 1), .ref (u 2), .ref (u 3), .ref (u 4), .int 0, .ref (u 6), .int 0, .int 0, .int 0, .int 0, .int 0, .int 0, .int (-1), .ref (u 14), .ref (u 15), .ref (u 16), .ref (u 17), .ref (u 18), .ref (u 19), .ref (u 20), .int 0, .ref (u 22), .int 0, .ref (u 24), .ref (u 25), .int 0, .ref (u 27), .ref (u 28), .ref (u 29), .ref (u 30), .int 0, .int 0, .int 0, .int 0, .int 0, .ref (u 36), .long 0, .ref (u 38), .ref (u 39), .ref (u 40), .ref (u 41)])), (u 1, .inl (cI, 544, .inl (upd (upd (upd (fun _ => 0) 8 1) 9 1) 17 (-1)))), (u 14, .inl (cI, 544, .inl (fun _ => 0)))] sz) := by
  refine kEnter (by decide) (Nat.le_of_ble_eq_true rfl) ?_
  intro p e s m below meth c ls hx hb hr hml hown hlocks hin hwd hsz hP hK hD hl
  subst hsz
  generalize hAe : va_A [(h0, .inr (12, [.int 0, .ref (u 1), .ref (u 2), .ref (u 3), .ref (u 4), .int 0, .ref (u 6), .int 0, .int 0, .int 0, .int 0, .int 0, .int 0, .int (-1), .ref (u 14), .ref (u 15), .ref (u 16), .ref (u 17), .ref (u 18), .ref (u 19), .ref (u 20), .int 0, .ref (u 22), .int 0, .ref (u 24), .ref (u 25), .int 0, .ref (u 27), .ref (u 28), .ref (u 29), .ref (u 30), .int 0, .int 0, .int 0, .int 0, .int 0, .ref (u 36), .long 0, .ref (u 38), .ref (u 39), .ref (u 40), .ref (u 41)])), (u 1, .inl (cI, 544, .inl (upd (upd (upd (fun _ => 0) 8 1) 9 1) 17 (-1)))), (u 14, .inl (cI, 544, .inl (fun _ => 0)))] s.heap.size = A at hD ⊢
  have hA : ∀ q : Nat, s.heap.size ≤ q → A q := fun q h => by rw [← hAe]; exact Or.inr h
  have hS : va_S A s.heap s.heap [] := va_S.rf
  have hl : lv_has ls 2 [(0, .ref h0)] := hl
  refine lv_aload_n hx hb dX12_drum_0 rfl (lv_at hl 0 rfl) ?_
  have hPc := hP.sub (ws' := [(h0, .inr (12, [.int 0, .ref (u 1), .ref (u 2), .ref (u 3), .ref (u 4), .int 0, .ref (u 6), .int 0, .int 0, .int 0, .int 0, .int 0, .int 0, .int (-1), .ref (u 14), .ref (u 15), .ref (u 16), .ref (u 17), .ref (u 18), .ref (u 19), .ref (u 20), .int 0, .ref (u 22), .int 0, .ref (u 24), .ref (u 25), .int 0, .ref (u 27), .ref (u 28), .ref (u 29), .ref (u 30), .int 0, .int 0, .int 0, .int 0, .int 0, .ref (u 36), .long 0, .ref (u 38), .ref (u 39), .ref (u 40), .ref (u 41)]))]) [0] rfl
  have hDc := hD.sub (ws' := [(h0, .inr (12, [.int 0, .ref (u 1), .ref (u 2), .ref (u 3), .ref (u 4), .int 0, .ref (u 6), .int 0, .int 0, .int 0, .int 0, .int 0, .int 0, .int (-1), .ref (u 14), .ref (u 15), .ref (u 16), .ref (u 17), .ref (u 18), .ref (u 19), .ref (u 20), .int 0, .ref (u 22), .int 0, .ref (u 24), .ref (u 25), .int 0, .ref (u 27), .ref (u 28), .ref (u 29), .ref (u 30), .int 0, .int 0, .int 0, .int 0, .int 0, .ref (u 36), .long 0, .ref (u 38), .ref (u 39), .ref (u 40), .ref (u 41)]))]) [0] (by decide) rfl
  have hFc := va_free (wc := [(h0, .inr (12, [.int 0, .ref (u 1), .ref (u 2), .ref (u 3), .ref (u 4), .int 0, .ref (u 6), .int 0, .int 0, .int 0, .int 0, .int 0, .int 0, .int (-1), .ref (u 14), .ref (u 15), .ref (u 16), .ref (u 17), .ref (u 18), .ref (u 19), .ref (u 20), .int 0, .ref (u 22), .int 0, .ref (u 24), .ref (u 25), .int 0, .ref (u 27), .ref (u 28), .ref (u 29), .ref (u 30), .int 0, .int 0, .int 0, .int 0, .int 0, .ref (u 36), .long 0, .ref (u 38), .ref (u 39), .ref (u 40), .ref (u 41)]))]) hD hS hA [0] rfl
  refine va_callv (va_runV (As := []) (rest := []) ⟨hx, hb, hml, hown, hwd⟩ (c_X12_begins l dC dI cI cZ cB cJ cM h0 u s.heap.size) (cwV 0 hwd (gV kr13_16 kr13_17 kr13_18 kr1_5 kr13_19) rfl rfl rfl (by decide +kernel) ⟨Nat.le_of_ble_eq_true rfl, Nat.le_of_ble_eq_true rfl⟩) (kPreV hPc hK hDc (ci := 12) (q0 := 0) rfl rfl) rfl rfl hl.1 rfl (lv_room (Nat.le_of_ble_eq_true rfl)) dX12_drum_1 ⟨Nat.le_of_ble_eq_true rfl, Nat.le_of_ble_eq_true rfl⟩) hS (fun q _ h => hFc q h) hFc (fun u2 t H1 locs ht9 hvm hw hB hz1 hk1 hS => ?_)
  obtain ⟨hP1, hD1⟩ := hB
  rw [ht9] at hP1
  obtain ⟨hP, hD⟩ := va_join (wr := [(u 1, .inl (cI, 544, .inl (upd (upd (upd (fun _ => 0) 8 1) 9 1) 17 (-1)))), (u 14, .inl (cI, 544, .inl (fun _ => 0)))]) (w1 := [(h0, .inr (12, [.int 0, .ref (u 1), .ref (u 2), .ref (u 3), .ref (u 4), .int 0, .ref (u 6), .int 0, .int 0, .int 0, .int 0, .int 0, .int 0, .int (-1), .ref (u 14), .ref (u 15), .ref (u 16), .ref (u 17), .ref (u 18), .ref (u 19), .ref (u 20), .int 0, .ref (u 22), .int 0, .ref (u 24), .ref (u 25), .int 0, .ref (u 27), .ref (u 28), .ref (u 29), .ref (u 30), .int 0, .int 0, .int 0, .int 0, .int 0, .ref (u 36), .long 0, .ref (u 38), .ref (u 39), .ref (u 40), .ref (u 41)]))]) hP hD [0] [1, 2] rfl rfl (by decide) (by decide) hk1 hFc hP1 hD1
  generalize H1 = H at hP hS ⊢
  have hP : va_P (dC, dI) vwCl [(u 1, .inl (cI, 544, .inl (upd (upd (upd (fun _ => 0) 8 1) 9 1) 17 (-1)))), (u 14, .inl (cI, 544, .inl (fun _ => 0))), (h0, .inr (12, [.int 0, .ref (u 1), .ref (u 2), .ref (u 3), .ref (u 4), .int 0, .ref (u 6), .int 0, .int 0, .int 0, .int 0, .int 0, .int 0, .int (-1), .ref (u 14), .ref (u 15), .ref (u 16), .ref (u 17), .ref (u 18), .ref (u 19), .ref (u 20), .int 0, .ref (u 22), .int 0, .ref (u 24), .ref (u 25), .int 0, .ref (u 27), .ref (u 28), .ref (u 29), .ref (u 30), .int 0, .int 0, .int 0, .int 0, .int 0, .ref (u 36), .long 0, .ref (u 38), .ref (u 39), .ref (u 40), .ref (u 41)]))] H := hP
  have hD : va_D A [(u 1, .inl (cI, 544, .inl (upd (upd (upd (fun _ => 0) 8 1) 9 1) 17 (-1)))), (u 14, .inl (cI, 544, .inl (fun _ => 0))), (h0, .inr (12, [.int 0, .ref (u 1), .ref (u 2), .ref (u 3), .ref (u 4), .int 0, .ref (u 6), .int 0, .int 0, .int 0, .int 0, .int 0, .int 0, .int (-1), .ref (u 14), .ref (u 15), .ref (u 16), .ref (u 17), .ref (u 18), .ref (u 19), .ref (u 20), .int 0, .ref (u 22), .int 0, .ref (u 24), .ref (u 25), .int 0, .ref (u 27), .ref (u 28), .ref (u 29), .ref (u 30), .int 0, .int 0, .int 0, .int 0, .int 0, .ref (u 36), .long 0, .ref (u 38), .ref (u 39), .ref (u 40), .ref (u 41)]))] := hD
  refine lv_aload_n hx hb dX12_drum_4 rfl (lv_at hl 0 rfl) ?_
  refine va_get (D := (dC, dI)) (ci := 12) (v := .ref (u 14)) (C := RX12) (T := TX12) (N := 42) hx hb hwd inlX12 hown hK hP 2 rfl rfl 14 (by decide) (hwd _ kr7_9) (fun _ h9 => h9) rfl dX12_drum_5 ?_
  have hPc := hP.sub (ws' := [(u 14, .inl (cI, 544, .inl (fun _ => 0)))]) [1] rfl
  have hDc := hD.sub (ws' := [(u 14, .inl (cI, 544, .inl (fun _ => 0)))]) [1] (by decide) rfl
  have hFc := va_free (wc := [(u 14, .inl (cI, 544, .inl (fun _ => 0)))]) hD hS hA [1] rfl
  refine va_callv (va_runS (As := [.ref (u 14)]) (rest := []) ⟨hx, hb, hml, hown, hwd⟩ (c_X12_empties l dC dI cI cZ cB cJ cM (u 14) H.size) (cwS 1 hwd (gS kr8_4 kr8_5 kr1_5 kr8_6) rfl rfl rfl (by decide +kernel) ⟨Nat.le_of_ble_eq_true rfl, Nat.le_of_ble_eq_true rfl⟩) (kPreS hPc hK hDc) rfl rfl hl.1 rfl (lv_room (Nat.le_of_ble_eq_true rfl)) dX12_drum_8 ⟨Nat.le_of_ble_eq_true rfl, Nat.le_of_ble_eq_true rfl⟩) hS (fun q _ h => hFc q h) hFc (fun u4 t H1 locs ht9 hvm hw hB hz1 hk1 hS => ?_)
  obtain ⟨hP1, hD1⟩ := hB
  rw [ht9] at hP1
  obtain ⟨hP, hD⟩ := va_join (wr := [(u 1, .inl (cI, 544, .inl (upd (upd (upd (fun _ => 0) 8 1) 9 1) 17 (-1)))), (h0, .inr (12, [.int 0, .ref (u 1), .ref (u 2), .ref (u 3), .ref (u 4), .int 0, .ref (u 6), .int 0, .int 0, .int 0, .int 0, .int 0, .int 0, .int (-1), .ref (u 14), .ref (u 15), .ref (u 16), .ref (u 17), .ref (u 18), .ref (u 19), .ref (u 20), .int 0, .ref (u 22), .int 0, .ref (u 24), .ref (u 25), .int 0, .ref (u 27), .ref (u 28), .ref (u 29), .ref (u 30), .int 0, .int 0, .int 0, .int 0, .int 0, .ref (u 36), .long 0, .ref (u 38), .ref (u 39), .ref (u 40), .ref (u 41)]))]) (w1 := [(u 14, .inl (cI, 544, .inl (upd (upd (upd (fun _ => 0) 8 1) 9 1) 17 (-1))))]) hP hD [1] [0, 2] rfl rfl (by decide) (by decide) hk1 hFc hP1 hD1
  generalize H1 = H at hP hS ⊢
  have hP : va_P (dC, dI) vwCl [(u 1, .inl (cI, 544, .inl (upd (upd (upd (fun _ => 0) 8 1) 9 1) 17 (-1)))), (h0, .inr (12, [.int 0, .ref (u 1), .ref (u 2), .ref (u 3), .ref (u 4), .int 0, .ref (u 6), .int 0, .int 0, .int 0, .int 0, .int 0, .int 0, .int (-1), .ref (u 14), .ref (u 15), .ref (u 16), .ref (u 17), .ref (u 18), .ref (u 19), .ref (u 20), .int 0, .ref (u 22), .int 0, .ref (u 24), .ref (u 25), .int 0, .ref (u 27), .ref (u 28), .ref (u 29), .ref (u 30), .int 0, .int 0, .int 0, .int 0, .int 0, .ref (u 36), .long 0, .ref (u 38), .ref (u 39), .ref (u 40), .ref (u 41)])), (u 14, .inl (cI, 544, .inl (upd (upd (upd (fun _ => 0) 8 1) 9 1) 17 (-1))))] H := hP
  have hD : va_D A [(u 1, .inl (cI, 544, .inl (upd (upd (upd (fun _ => 0) 8 1) 9 1) 17 (-1)))), (h0, .inr (12, [.int 0, .ref (u 1), .ref (u 2), .ref (u 3), .ref (u 4), .int 0, .ref (u 6), .int 0, .int 0, .int 0, .int 0, .int 0, .int 0, .int (-1), .ref (u 14), .ref (u 15), .ref (u 16), .ref (u 17), .ref (u 18), .ref (u 19), .ref (u 20), .int 0, .ref (u 22), .int 0, .ref (u 24), .ref (u 25), .int 0, .ref (u 27), .ref (u 28), .ref (u 29), .ref (u 30), .int 0, .int 0, .int 0, .int 0, .int 0, .ref (u 36), .long 0, .ref (u 38), .ref (u 39), .ref (u 40), .ref (u 41)])), (u 14, .inl (cI, 544, .inl (upd (upd (upd (fun _ => 0) 8 1) 9 1) 17 (-1))))] := hD
  refine lv_aload_n hx hb dX12_drum_11 rfl (lv_at hl 0 rfl) ?_
  have hPc := hP.sub (ws' := [(h0, .inr (12, [.int 0, .ref (u 1), .ref (u 2), .ref (u 3), .ref (u 4), .int 0, .ref (u 6), .int 0, .int 0, .int 0, .int 0, .int 0, .int 0, .int (-1), .ref (u 14), .ref (u 15), .ref (u 16), .ref (u 17), .ref (u 18), .ref (u 19), .ref (u 20), .int 0, .ref (u 22), .int 0, .ref (u 24), .ref (u 25), .int 0, .ref (u 27), .ref (u 28), .ref (u 29), .ref (u 30), .int 0, .int 0, .int 0, .int 0, .int 0, .ref (u 36), .long 0, .ref (u 38), .ref (u 39), .ref (u 40), .ref (u 41)]))]) [1] rfl
  have hDc := hD.sub (ws' := [(h0, .inr (12, [.int 0, .ref (u 1), .ref (u 2), .ref (u 3), .ref (u 4), .int 0, .ref (u 6), .int 0, .int 0, .int 0, .int 0, .int 0, .int 0, .int (-1), .ref (u 14), .ref (u 15), .ref (u 16), .ref (u 17), .ref (u 18), .ref (u 19), .ref (u 20), .int 0, .ref (u 22), .int 0, .ref (u 24), .ref (u 25), .int 0, .ref (u 27), .ref (u 28), .ref (u 29), .ref (u 30), .int 0, .int 0, .int 0, .int 0, .int 0, .ref (u 36), .long 0, .ref (u 38), .ref (u 39), .ref (u 40), .ref (u 41)]))]) [1] (by decide) rfl
  have hFc := va_free (wc := [(h0, .inr (12, [.int 0, .ref (u 1), .ref (u 2), .ref (u 3), .ref (u 4), .int 0, .ref (u 6), .int 0, .int 0, .int 0, .int 0, .int 0, .int 0, .int (-1), .ref (u 14), .ref (u 15), .ref (u 16), .ref (u 17), .ref (u 18), .ref (u 19), .ref (u 20), .int 0, .ref (u 22), .int 0, .ref (u 24), .ref (u 25), .int 0, .ref (u 27), .ref (u 28), .ref (u 29), .ref (u 30), .int 0, .int 0, .int 0, .int 0, .int 0, .ref (u 36), .long 0, .ref (u 38), .ref (u 39), .ref (u 40), .ref (u 41)]))]) hD hS hA [1] rfl
  refine va_calli (va_runV (As := []) (rest := []) ⟨hx, hb, hml, hown, hwd⟩ (c_X12_good l dC dI cI cZ cB cJ cM h0 u H.size) (cwV 0 hwd (gV kr14_8 kr14_9 kr14_10 kr1_5 kr14_11) rfl rfl rfl (by decide +kernel) ⟨Nat.le_of_ble_eq_true rfl, Nat.le_of_ble_eq_true rfl⟩) (kPreV hPc hK hDc (ci := 12) (q0 := 0) rfl rfl) rfl rfl hl.1 rfl (lv_room (Nat.le_of_ble_eq_true rfl)) dX12_drum_12 ⟨Nat.le_of_ble_eq_true rfl, Nat.le_of_ble_eq_true rfl⟩) hS (fun q _ h => hFc q h) hFc (fun r5 u6 t H1 locs ht9 hvm hw hB hz1 hk1 hS => ?_)
  obtain ⟨hP1, hD1⟩ := hB
  rw [ht9] at hP1
  obtain ⟨hP, hD⟩ := va_join (wr := [(u 1, .inl (cI, 544, .inl (upd (upd (upd (fun _ => 0) 8 1) 9 1) 17 (-1)))), (u 14, .inl (cI, 544, .inl (upd (upd (upd (fun _ => 0) 8 1) 9 1) 17 (-1))))]) (w1 := [(h0, .inr (12, [.int 0, .ref (u 1), .ref (u 2), .ref (u 3), .ref (u 4), .int 0, .ref (u 6), .int 0, .int 0, .int 0, .int 0, .int 0, .int 0, .int (-1), .ref (u 14), .ref (u 15), .ref (u 16), .ref (u 17), .ref (u 18), .ref (u 19), .ref (u 20), .int 0, .ref (u 22), .int 0, .ref (u 24), .ref (u 25), .int 0, .ref (u 27), .ref (u 28), .ref (u 29), .ref (u 30), .int 0, .int 0, .int 0, .int 0, .int 0, .ref (u 36), .long 0, .ref (u 38), .ref (u 39), .ref (u 40), .ref (u 41)]))]) hP hD [1] [0, 2] rfl rfl (by decide) (by decide) hk1 hFc hP1 hD1
  generalize H1 = H at hP hS ⊢
  have hP : va_P (dC, dI) vwCl [(u 1, .inl (cI, 544, .inl (upd (upd (upd (fun _ => 0) 8 1) 9 1) 17 (-1)))), (u 14, .inl (cI, 544, .inl (upd (upd (upd (fun _ => 0) 8 1) 9 1) 17 (-1)))), (h0, .inr (12, [.int 0, .ref (u 1), .ref (u 2), .ref (u 3), .ref (u 4), .int 0, .ref (u 6), .int 0, .int 0, .int 0, .int 0, .int 0, .int 0, .int (-1), .ref (u 14), .ref (u 15), .ref (u 16), .ref (u 17), .ref (u 18), .ref (u 19), .ref (u 20), .int 0, .ref (u 22), .int 0, .ref (u 24), .ref (u 25), .int 0, .ref (u 27), .ref (u 28), .ref (u 29), .ref (u 30), .int 0, .int 0, .int 0, .int 0, .int 0, .ref (u 36), .long 0, .ref (u 38), .ref (u 39), .ref (u 40), .ref (u 41)]))] H := hP
  have hD : va_D A [(u 1, .inl (cI, 544, .inl (upd (upd (upd (fun _ => 0) 8 1) 9 1) 17 (-1)))), (u 14, .inl (cI, 544, .inl (upd (upd (upd (fun _ => 0) 8 1) 9 1) 17 (-1)))), (h0, .inr (12, [.int 0, .ref (u 1), .ref (u 2), .ref (u 3), .ref (u 4), .int 0, .ref (u 6), .int 0, .int 0, .int 0, .int 0, .int 0, .int 0, .int (-1), .ref (u 14), .ref (u 15), .ref (u 16), .ref (u 17), .ref (u 18), .ref (u 19), .ref (u 20), .int 0, .ref (u 22), .int 0, .ref (u 24), .ref (u 25), .int 0, .ref (u 27), .ref (u 28), .ref (u 29), .ref (u 30), .int 0, .int 0, .int 0, .int 0, .int 0, .ref (u 36), .long 0, .ref (u 38), .ref (u 39), .ref (u 40), .ref (u 41)]))] := hD
  subst hw
  refine lv_if_eq (tgt := 63) hx hb dX12_drum_15 (by decide) (fun c7 => absurd c7 (by decide)) (fun c7 => ?_)
  refine lv_aload_n hx hb dX12_drum_18 rfl (lv_at hl 0 rfl) ?_
  refine va_get (D := (dC, dI)) (ci := 12) (v := .int 0) (C := RX12) (T := TX12) (N := 42) hx hb hwd inlX12 hown hK hP 2 rfl rfl 10 (by decide) (hwd _ kr13_15) (fun _ h9 => h9) rfl dX12_drum_19 ?_
  refine lv_if_eq (tgt := 63) hx hb dX12_drum_22 (by decide) (fun c8 => ?_) (fun c8 => absurd c8 (by decide))
  refine lv_aload_n hx hb dX12_drum_63 rfl (lv_at hl 0 rfl) ?_
  have hPc := hP.sub (ws' := [(h0, .inr (12, [.int 0, .ref (u 1), .ref (u 2), .ref (u 3), .ref (u 4), .int 0, .ref (u 6), .int 0, .int 0, .int 0, .int 0, .int 0, .int 0, .int (-1), .ref (u 14), .ref (u 15), .ref (u 16), .ref (u 17), .ref (u 18), .ref (u 19), .ref (u 20), .int 0, .ref (u 22), .int 0, .ref (u 24), .ref (u 25), .int 0, .ref (u 27), .ref (u 28), .ref (u 29), .ref (u 30), .int 0, .int 0, .int 0, .int 0, .int 0, .ref (u 36), .long 0, .ref (u 38), .ref (u 39), .ref (u 40), .ref (u 41)]))]) [2] rfl
  have hDc := hD.sub (ws' := [(h0, .inr (12, [.int 0, .ref (u 1), .ref (u 2), .ref (u 3), .ref (u 4), .int 0, .ref (u 6), .int 0, .int 0, .int 0, .int 0, .int 0, .int 0, .int (-1), .ref (u 14), .ref (u 15), .ref (u 16), .ref (u 17), .ref (u 18), .ref (u 19), .ref (u 20), .int 0, .ref (u 22), .int 0, .ref (u 24), .ref (u 25), .int 0, .ref (u 27), .ref (u 28), .ref (u 29), .ref (u 30), .int 0, .int 0, .int 0, .int 0, .int 0, .ref (u 36), .long 0, .ref (u 38), .ref (u 39), .ref (u 40), .ref (u 41)]))]) [2] (by decide) rfl
  have hFc := va_free (wc := [(h0, .inr (12, [.int 0, .ref (u 1), .ref (u 2), .ref (u 3), .ref (u 4), .int 0, .ref (u 6), .int 0, .int 0, .int 0, .int 0, .int 0, .int 0, .int (-1), .ref (u 14), .ref (u 15), .ref (u 16), .ref (u 17), .ref (u 18), .ref (u 19), .ref (u 20), .int 0, .ref (u 22), .int 0, .ref (u 24), .ref (u 25), .int 0, .ref (u 27), .ref (u 28), .ref (u 29), .ref (u 30), .int 0, .int 0, .int 0, .int 0, .int 0, .ref (u 36), .long 0, .ref (u 38), .ref (u 39), .ref (u 40), .ref (u 41)]))]) hD hS hA [2] rfl
  refine va_calli (va_runV (As := []) (rest := []) ⟨hx, hb, hml, hown, hwd⟩ (c_X12_good l dC dI cI cZ cB cJ cM h0 u H.size) (cwV 0 hwd (gV kr14_8 kr14_9 kr14_10 kr1_5 kr14_11) rfl rfl rfl (by decide +kernel) ⟨Nat.le_of_ble_eq_true rfl, Nat.le_of_ble_eq_true rfl⟩) (kPreV hPc hK hDc (ci := 12) (q0 := 0) rfl rfl) rfl rfl hl.1 rfl (lv_room (Nat.le_of_ble_eq_true rfl)) dX12_drum_64 ⟨Nat.le_of_ble_eq_true rfl, Nat.le_of_ble_eq_true rfl⟩) hS (fun q _ h => hFc q h) hFc (fun r9 u10 t H1 locs ht9 hvm hw hB hz1 hk1 hS => ?_)
  obtain ⟨hP1, hD1⟩ := hB
  rw [ht9] at hP1
  obtain ⟨hP, hD⟩ := va_join (wr := [(u 1, .inl (cI, 544, .inl (upd (upd (upd (fun _ => 0) 8 1) 9 1) 17 (-1)))), (u 14, .inl (cI, 544, .inl (upd (upd (upd (fun _ => 0) 8 1) 9 1) 17 (-1))))]) (w1 := [(h0, .inr (12, [.int 0, .ref (u 1), .ref (u 2), .ref (u 3), .ref (u 4), .int 0, .ref (u 6), .int 0, .int 0, .int 0, .int 0, .int 0, .int 0, .int (-1), .ref (u 14), .ref (u 15), .ref (u 16), .ref (u 17), .ref (u 18), .ref (u 19), .ref (u 20), .int 0, .ref (u 22), .int 0, .ref (u 24), .ref (u 25), .int 0, .ref (u 27), .ref (u 28), .ref (u 29), .ref (u 30), .int 0, .int 0, .int 0, .int 0, .int 0, .ref (u 36), .long 0, .ref (u 38), .ref (u 39), .ref (u 40), .ref (u 41)]))]) hP hD [2] [0, 1] rfl rfl (by decide) (by decide) hk1 hFc hP1 hD1
  generalize H1 = H at hP hS ⊢
  have hP : va_P (dC, dI) vwCl [(u 1, .inl (cI, 544, .inl (upd (upd (upd (fun _ => 0) 8 1) 9 1) 17 (-1)))), (u 14, .inl (cI, 544, .inl (upd (upd (upd (fun _ => 0) 8 1) 9 1) 17 (-1)))), (h0, .inr (12, [.int 0, .ref (u 1), .ref (u 2), .ref (u 3), .ref (u 4), .int 0, .ref (u 6), .int 0, .int 0, .int 0, .int 0, .int 0, .int 0, .int (-1), .ref (u 14), .ref (u 15), .ref (u 16), .ref (u 17), .ref (u 18), .ref (u 19), .ref (u 20), .int 0, .ref (u 22), .int 0, .ref (u 24), .ref (u 25), .int 0, .ref (u 27), .ref (u 28), .ref (u 29), .ref (u 30), .int 0, .int 0, .int 0, .int 0, .int 0, .ref (u 36), .long 0, .ref (u 38), .ref (u 39), .ref (u 40), .ref (u 41)]))] H := hP
  have hD : va_D A [(u 1, .inl (cI, 544, .inl (upd (upd (upd (fun _ => 0) 8 1) 9 1) 17 (-1)))), (u 14, .inl (cI, 544, .inl (upd (upd (upd (fun _ => 0) 8 1) 9 1) 17 (-1)))), (h0, .inr (12, [.int 0, .ref (u 1), .ref (u 2), .ref (u 3), .ref (u 4), .int 0, .ref (u 6), .int 0, .int 0, .int 0, .int 0, .int 0, .int 0, .int (-1), .ref (u 14), .ref (u 15), .ref (u 16), .ref (u 17), .ref (u 18), .ref (u 19), .ref (u 20), .int 0, .ref (u 22), .int 0, .ref (u 24), .ref (u 25), .int 0, .ref (u 27), .ref (u 28), .ref (u 29), .ref (u 30), .int 0, .int 0, .int 0, .int 0, .int 0, .ref (u 36), .long 0, .ref (u 38), .ref (u 39), .ref (u 40), .ref (u 41)]))] := hD
  subst hw
  refine lv_if_ne (tgt := 73) hx hb dX12_drum_67 (by decide) (fun c11 => ?_) (fun c11 => absurd c11 (by decide))
  refine lv_iconst (v := 0) hx hb dX12_drum_73 (by decide) ?_
  refine lv_istore_n (lv' := [(1, .int 0), (0, .ref h0)]) hx hb dX12_drum_74 rfl hl (by decide) rfl (fun ls hl => ?_)
  have hl0 : lv_has ls 2 [(0, .ref h0), (1, .int (nI 0))] := lv_sub hl [1, 0] rfl
  refine lp_c_X12_drum_0 hx hb hown hwd hK (fun H locs ls hP hD hS hl => ?_) 544 0 (by omega) _ _ ls hP hD hS hl0
  refine lv_aload_n hx hb dX12_drum_100 rfl (lv_at hl 0 rfl) ?_
  have hPc := hP.sub (ws' := [(h0, .inr (12, [.int 0, .ref (u 1), .ref (u 2), .ref (u 3), .ref (u 4), .int 0, .ref (u 6), .int 0, .int 0, .int 0, .int 0, .int 0, .int 0, .int (-1), .ref (u 14), .ref (u 15), .ref (u 16), .ref (u 17), .ref (u 18), .ref (u 19), .ref (u 20), .int 0, .ref (u 22), .int 0, .ref (u 24), .ref (u 25), .int 0, .ref (u 27), .ref (u 28), .ref (u 29), .ref (u 30), .int 0, .int 0, .int 0, .int 0, .int 0, .ref (u 36), .long 0, .ref (u 38), .ref (u 39), .ref (u 40), .ref (u 41)])), (u 1, .inl (cI, 544, .inl (upd (upd (upd (fun _ => 0) 8 1) 9 1) 17 (-1))))]) [2, 0] rfl
  have hDc := hD.sub (ws' := [(h0, .inr (12, [.int 0, .ref (u 1), .ref (u 2), .ref (u 3), .ref (u 4), .int 0, .ref (u 6), .int 0, .int 0, .int 0, .int 0, .int 0, .int 0, .int (-1), .ref (u 14), .ref (u 15), .ref (u 16), .ref (u 17), .ref (u 18), .ref (u 19), .ref (u 20), .int 0, .ref (u 22), .int 0, .ref (u 24), .ref (u 25), .int 0, .ref (u 27), .ref (u 28), .ref (u 29), .ref (u 30), .int 0, .int 0, .int 0, .int 0, .int 0, .ref (u 36), .long 0, .ref (u 38), .ref (u 39), .ref (u 40), .ref (u 41)])), (u 1, .inl (cI, 544, .inl (upd (upd (upd (fun _ => 0) 8 1) 9 1) 17 (-1))))]) [2, 0] (by decide) rfl
  have hFc := va_free (wc := [(h0, .inr (12, [.int 0, .ref (u 1), .ref (u 2), .ref (u 3), .ref (u 4), .int 0, .ref (u 6), .int 0, .int 0, .int 0, .int 0, .int 0, .int 0, .int (-1), .ref (u 14), .ref (u 15), .ref (u 16), .ref (u 17), .ref (u 18), .ref (u 19), .ref (u 20), .int 0, .ref (u 22), .int 0, .ref (u 24), .ref (u 25), .int 0, .ref (u 27), .ref (u 28), .ref (u 29), .ref (u 30), .int 0, .int 0, .int 0, .int 0, .int 0, .ref (u 36), .long 0, .ref (u 38), .ref (u 39), .ref (u 40), .ref (u 41)])), (u 1, .inl (cI, 544, .inl (upd (upd (upd (fun _ => 0) 8 1) 9 1) 17 (-1))))]) hD hS hA [2, 0] rfl
  refine va_calli (va_runV (As := []) (rest := []) ⟨hx, hb, hml, hown, hwd⟩ (c_X12_isDrum l dC dI cI cZ cB cJ cM h0 u H.size) (cwV 0 hwd (gV kr14_12 kr14_13 kr14_14 kr1_5 kr14_15) rfl rfl rfl (by decide +kernel) ⟨Nat.le_of_ble_eq_true rfl, Nat.le_of_ble_eq_true rfl⟩) (kPreV hPc hK hDc (ci := 12) (q0 := 0) rfl rfl) rfl rfl hl.1 rfl (lv_room (Nat.le_of_ble_eq_true rfl)) dX12_drum_101 ⟨Nat.le_of_ble_eq_true rfl, Nat.le_of_ble_eq_true rfl⟩) hS (fun q _ h => hFc q h) hFc (fun r12 u13 t H1 locs ht9 hvm hw hB hz1 hk1 hS => ?_)
  obtain ⟨hP1, hD1⟩ := hB
  rw [ht9] at hP1
  obtain ⟨hP, hD⟩ := va_join (wr := [(u 14, .inl (cI, 544, .inl (upd (upd (upd (fun _ => 0) 8 1) 9 1) 17 (-1))))]) (w1 := [(h0, .inr (12, [.int 0, .ref (u 1), .ref (u 2), .ref (u 3), .ref (u 4), .int 0, .ref (u 6), .int 0, .int 0, .int 0, .int 0, .int 0, .int 0, .int (-1), .ref (u 14), .ref (u 15), .ref (u 16), .ref (u 17), .ref (u 18), .ref (u 19), .ref (u 20), .int 0, .ref (u 22), .int 0, .ref (u 24), .ref (u 25), .int 0, .ref (u 27), .ref (u 28), .ref (u 29), .ref (u 30), .int 0, .int 0, .int 0, .int 0, .int 0, .ref (u 36), .long 0, .ref (u 38), .ref (u 39), .ref (u 40), .ref (u 41)])), (u 1, .inl (cI, 544, .inl (upd (upd (upd (fun _ => 0) 8 1) 9 1) 17 (-1))))]) hP hD [2, 0] [1] rfl rfl (by decide) (by decide) hk1 hFc hP1 hD1
  generalize H1 = H at hP hS ⊢
  have hP : va_P (dC, dI) vwCl [(u 14, .inl (cI, 544, .inl (upd (upd (upd (fun _ => 0) 8 1) 9 1) 17 (-1)))), (h0, .inr (12, [.int 0, .ref (u 1), .ref (u 2), .ref (u 3), .ref (u 4), .int 0, .ref (u 6), .int 0, .int 0, .int 0, .int 0, .int 0, .int 0, .int (-1), .ref (u 14), .ref (u 15), .ref (u 16), .ref (u 17), .ref (u 18), .ref (u 19), .ref (u 20), .int 0, .ref (u 22), .int 0, .ref (u 24), .ref (u 25), .int 0, .ref (u 27), .ref (u 28), .ref (u 29), .ref (u 30), .int 0, .int 0, .int 0, .int 0, .int 0, .ref (u 36), .long 0, .ref (u 38), .ref (u 39), .ref (u 40), .ref (u 41)])), (u 1, .inl (cI, 544, .inl (upd (upd (upd (fun _ => 0) 8 1) 9 1) 17 (-1))))] H := hP
  have hD : va_D A [(u 14, .inl (cI, 544, .inl (upd (upd (upd (fun _ => 0) 8 1) 9 1) 17 (-1)))), (h0, .inr (12, [.int 0, .ref (u 1), .ref (u 2), .ref (u 3), .ref (u 4), .int 0, .ref (u 6), .int 0, .int 0, .int 0, .int 0, .int 0, .int 0, .int (-1), .ref (u 14), .ref (u 15), .ref (u 16), .ref (u 17), .ref (u 18), .ref (u 19), .ref (u 20), .int 0, .ref (u 22), .int 0, .ref (u 24), .ref (u 25), .int 0, .ref (u 27), .ref (u 28), .ref (u 29), .ref (u 30), .int 0, .int 0, .int 0, .int 0, .int 0, .ref (u 36), .long 0, .ref (u 38), .ref (u 39), .ref (u 40), .ref (u 41)])), (u 1, .inl (cI, 544, .inl (upd (upd (upd (fun _ => 0) 8 1) 9 1) 17 (-1))))] := hD
  subst hw
  refine lv_if_eq (tgt := 111) hx hb dX12_drum_104 (by decide) (fun c14 => ?_) (fun c14 => absurd c14 (by decide))
  refine lv_aload_n hx hb dX12_drum_111 rfl (lv_at hl 0 rfl) ?_
  refine va_get (D := (dC, dI)) (ci := 12) (v := .ref (u 1)) (C := RX12) (T := TX12) (N := 42) hx hb hwd inlX12 hown hK hP 1 rfl rfl 1 (by decide) (hwd _ kr7_3) (fun _ h9 => h9) rfl dX12_drum_112 ?_
  refine lv_iconst (v := 0) hx hb dX12_drum_115 (by decide) ?_
  refine va_iald hx hb hK hP 2 0 rfl rfl (vin (by decide)) dX12_drum_116 ?_
  refine lv_topi (nm_r (e' := (0)) (by decide +kernel) ?_)
  exact W.iret (v := 0) hx hb hr (fun t ht hW => ⟨⟨0, (), rfl, rfl, trivial⟩, hS.F ht⟩) hS.2.2 dX12_drum_117
