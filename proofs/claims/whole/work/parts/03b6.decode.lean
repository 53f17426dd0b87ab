theorem dR_removeFile_47 : decode (m_C mR_removeFile) 47 = .ok (.return_, 1) := by decide +kernel
theorem dR_move_0 : decode (m_C mR_move) 0 = .ok (.aload_n 0, 1) := by decide +kernel
theorem dR_move_1 : decode (m_C mR_move) 1 = .ok (.invokevirtual 101, 3) := by decide +kernel
theorem dR_move_4 : decode (m_C mR_move) 4 = .ok (.istore_n 1, 1) := by decide +kernel
theorem dR_move_5 : decode (m_C mR_move) 5 = .ok (.aload_n 0, 1) := by decide +kernel
theorem dR_move_6 : decode (m_C mR_move) 6 = .ok (.iconst 0, 1) := by decide +kernel
theorem dR_move_7 : decode (m_C mR_move) 7 = .ok (.putfield 44, 3) := by decide +kernel
theorem dR_move_10 : decode (m_C mR_move) 10 = .ok (.iload_n 1, 1) := by decide +kernel
theorem dR_move_11 : decode (m_C mR_move) 11 = .ok (.ireturn, 1) := by decide +kernel
theorem dR_moved_0 : decode (m_C mR_moved) 0 = .ok (.aload_n 0, 1) := by decide +kernel
theorem dR_moved_1 : decode (m_C mR_moved) 1 = .ok (.getfield 32, 3) := by decide +kernel
theorem dR_moved_4 : decode (m_C mR_moved) 4 = .ok (.ifCond .lt 10, 3) := by decide +kernel
theorem dR_moved_7 : decode (m_C mR_moved) 7 = .ok (.aload_n 0, 1) := by decide +kernel
theorem dR_moved_8 : decode (m_C mR_moved) 8 = .ok (.getfield 83, 3) := by decide +kernel
theorem dR_moved_11 : decode (m_C mR_moved) 11 = .ok (.ifCond .eq 5, 3) := by decide +kernel
theorem dR_moved_14 : decode (m_C mR_moved) 14 = .ok (.iconst 0, 1) := by decide +kernel
theorem dR_moved_15 : decode (m_C mR_moved) 15 = .ok (.ireturn, 1) := by decide +kernel
theorem dR_moved_16 : decode (m_C mR_moved) 16 = .ok (.aload_n 0, 1) := by decide +kernel
theorem dR_moved_17 : decode (m_C mR_moved) 17 = .ok (.aload_n 0, 1) := by decide +kernel
theorem dR_moved_18 : decode (m_C mR_moved) 18 = .ok (.getfield 44, 3) := by decide +kernel
theorem dR_moved_21 : decode (m_C mR_moved) 21 = .ok (.invokevirtual 65, 3) := by decide +kernel
theorem dR_moved_24 : decode (m_C mR_moved) 24 = .ok (.istore_n 1, 1) := by decide +kernel
theorem dR_moved_25 : decode (m_C mR_moved) 25 = .ok (.iload_n 1, 1) := by decide +kernel
theorem dR_moved_26 : decode (m_C mR_moved) 26 = .ok (.ifCond .lt 17, 3) := by decide +kernel
theorem dR_moved_29 : decode (m_C mR_moved) 29 = .ok (.aload_n 0, 1) := by decide +kernel
theorem dR_moved_30 : decode (m_C mR_moved) 30 = .ok (.getfield 13, 3) := by decide +kernel
theorem dR_moved_33 : decode (m_C mR_moved) 33 = .ok (.iload_n 1, 1) := by decide +kernel
theorem dR_moved_34 : decode (m_C mR_moved) 34 = .ok (.iaload, 1) := by decide +kernel
theorem dR_moved_35 : decode (m_C mR_moved) 35 = .ok (.iconst 2, 1) := by decide +kernel
theorem dR_moved_36 : decode (m_C mR_moved) 36 = .ok (.if_icmp .ne 7, 3) := by decide +kernel
theorem dR_moved_39 : decode (m_C mR_moved) 39 = .ok (.iconst 1, 1) := by decide +kernel
theorem dR_moved_40 : decode (m_C mR_moved) 40 = .ok (.goto 4, 3) := by decide +kernel
theorem dR_moved_43 : decode (m_C mR_moved) 43 = .ok (.iconst 0, 1) := by decide +kernel
theorem dR_moved_44 : decode (m_C mR_moved) 44 = .ok (.istore_n 2, 1) := by decide +kernel
theorem dR_moved_45 : decode (m_C mR_moved) 45 = .ok (.iload_n 2, 1) := by decide +kernel
theorem dR_moved_46 : decode (m_C mR_moved) 46 = .ok (.ifCond .eq 7, 3) := by decide +kernel
theorem dR_moved_49 : decode (m_C mR_moved) 49 = .ok (.iload_n 1, 1) := by decide +kernel
theorem dR_moved_50 : decode (m_C mR_moved) 50 = .ok (.goto 7, 3) := by decide +kernel
theorem dR_moved_53 : decode (m_C mR_moved) 53 = .ok (.aload_n 0, 1) := by decide +kernel
theorem dR_moved_54 : decode (m_C mR_moved) 54 = .ok (.invokevirtual 69, 3) := by decide +kernel
theorem dR_moved_57 : decode (m_C mR_moved) 57 = .ok (.istore_n 3, 1) := by decide +kernel
theorem dR_moved_58 : decode (m_C mR_moved) 58 = .ok (.iload_n 3, 1) := by decide +kernel
theorem dR_moved_59 : decode (m_C mR_moved) 59 = .ok (.ifCond .lt 14, 3) := by decide +kernel
theorem dR_moved_62 : decode (m_C mR_moved) 62 = .ok (.iload_n 2, 1) := by decide +kernel
theorem dR_moved_63 : decode (m_C mR_moved) 63 = .ok (.ifCond .ne 12, 3) := by decide +kernel
theorem dR_moved_66 : decode (m_C mR_moved) 66 = .ok (.aload_n 0, 1) := by decide +kernel
theorem dR_moved_67 : decode (m_C mR_moved) 67 = .ok (.invokevirtual 72, 3) := by decide +kernel
theorem dR_moved_70 : decode (m_C mR_moved) 70 = .ok (.ifCond .ne 5, 3) := by decide +kernel
theorem dR_moved_73 : decode (m_C mR_moved) 73 = .ok (.iconst 0, 1) := by decide +kernel
theorem dR_moved_74 : decode (m_C mR_moved) 74 = .ok (.ireturn, 1) := by decide +kernel
theorem dR_moved_75 : decode (m_C mR_moved) 75 = .ok (.iload_n 2, 1) := by decide +kernel
theorem dR_moved_76 : decode (m_C mR_moved) 76 = .ok (.ifCond .eq 15, 3) := by decide +kernel
theorem dR_moved_79 : decode (m_C mR_moved) 79 = .ok (.aload_n 0, 1) := by decide +kernel
theorem dR_moved_80 : decode (m_C mR_moved) 80 = .ok (.iload_n 3, 1) := by decide +kernel
theorem dR_moved_81 : decode (m_C mR_moved) 81 = .ok (.aload_n 0, 1) := by decide +kernel
theorem dR_moved_82 : decode (m_C mR_moved) 82 = .ok (.getfield 32, 3) := by decide +kernel
theorem dR_moved_85 : decode (m_C mR_moved) 85 = .ok (.invokevirtual 97, 3) := by decide +kernel
theorem dR_moved_88 : decode (m_C mR_moved) 88 = .ok (.goto 16, 3) := by decide +kernel
theorem dR_moved_91 : decode (m_C mR_moved) 91 = .ok (.aload_n 0, 1) := by decide +kernel
theorem dR_moved_92 : decode (m_C mR_moved) 92 = .ok (.iload_n 3, 1) := by decide +kernel
theorem dR_moved_93 : decode (m_C mR_moved) 93 = .ok (.aload_n 0, 1) := by decide +kernel
theorem dR_moved_94 : decode (m_C mR_moved) 94 = .ok (.invokevirtual 61, 3) := by decide +kernel
theorem dR_moved_97 : decode (m_C mR_moved) 97 = .ok (.aload_n 0, 1) := by decide +kernel
theorem dR_moved_98 : decode (m_C mR_moved) 98 = .ok (.getfield 44, 3) := by decide +kernel
theorem dR_moved_101 : decode (m_C mR_moved) 101 = .ok (.invokevirtual 51, 3) := by decide +kernel
theorem dR_moved_104 : decode (m_C mR_moved) 104 = .ok (.istore 4, 2) := by decide +kernel
theorem dR_moved_106 : decode (m_C mR_moved) 106 = .ok (.iload 4, 2) := by decide +kernel
theorem dR_moved_108 : decode (m_C mR_moved) 108 = .ok (.aload_n 0, 1) := by decide +kernel
theorem dR_moved_109 : decode (m_C mR_moved) 109 = .ok (.getfield 32, 3) := by decide +kernel
theorem dR_moved_112 : decode (m_C mR_moved) 112 = .ok (.if_icmp .eq 19, 3) := by decide +kernel
theorem dR_moved_115 : decode (m_C mR_moved) 115 = .ok (.iload 4, 2) := by decide +kernel
theorem dR_moved_117 : decode (m_C mR_moved) 117 = .ok (.ifCond .lt 16, 3) := by decide +kernel
theorem dR_moved_120 : decode (m_C mR_moved) 120 = .ok (.aload_n 0, 1) := by decide +kernel
theorem dR_moved_121 : decode (m_C mR_moved) 121 = .ok (.getfield 13, 3) := by decide +kernel
theorem dR_moved_124 : decode (m_C mR_moved) 124 = .ok (.iload 4, 2) := by decide +kernel
theorem dR_moved_126 : decode (m_C mR_moved) 126 = .ok (.iaload, 1) := by decide +kernel
theorem dR_moved_127 : decode (m_C mR_moved) 127 = .ok (.iconst 2, 1) := by decide +kernel
theorem dR_moved_128 : decode (m_C mR_moved) 128 = .ok (.if_icmp .ne 5, 3) := by decide +kernel
theorem dR_moved_131 : decode (m_C mR_moved) 131 = .ok (.iconst 0, 1) := by decide +kernel
theorem dR_moved_132 : decode (m_C mR_moved) 132 = .ok (.ireturn, 1) := by decide +kernel
theorem dR_moved_133 : decode (m_C mR_moved) 133 = .ok (.iload 4, 2) := by decide +kernel
theorem dR_moved_135 : decode (m_C mR_moved) 135 = .ok (.ifCond .lt 9, 3) := by decide +kernel
theorem dR_moved_138 : decode (m_C mR_moved) 138 = .ok (.aload_n 0, 1) := by decide +kernel
theorem dR_moved_139 : decode (m_C mR_moved) 139 = .ok (.iload 4, 2) := by decide +kernel
theorem dR_moved_141 : decode (m_C mR_moved) 141 = .ok (.invokevirtual 93, 3) := by decide +kernel
theorem dR_moved_144 : decode (m_C mR_moved) 144 = .ok (.iload_n 2, 1) := by decide +kernel
theorem dR_moved_145 : decode (m_C mR_moved) 145 = .ok (.ifCond .eq 16, 3) := by decide +kernel
theorem dR_moved_148 : decode (m_C mR_moved) 148 = .ok (.aload_n 0, 1) := by decide +kernel
theorem dR_moved_149 : decode (m_C mR_moved) 149 = .ok (.getfield 16, 3) := by decide +kernel
theorem dR_moved_152 : decode (m_C mR_moved) 152 = .ok (.aload_n 0, 1) := by decide +kernel
theorem dR_moved_153 : decode (m_C mR_moved) 153 = .ok (.getfield 32, 3) := by decide +kernel
theorem dR_moved_156 : decode (m_C mR_moved) 156 = .ok (.iload_n 3, 1) := by decide +kernel
theorem dR_moved_157 : decode (m_C mR_moved) 157 = .ok (.iastore, 1) := by decide +kernel
theorem dR_moved_158 : decode (m_C mR_moved) 158 = .ok (.goto 12, 3) := by decide +kernel
theorem dR_moved_161 : decode (m_C mR_moved) 161 = .ok (.aload_n 0, 1) := by decide +kernel
theorem dR_moved_162 : decode (m_C mR_moved) 162 = .ok (.aload_n 0, 1) := by decide +kernel
theorem dR_moved_163 : decode (m_C mR_moved) 163 = .ok (.getfield 32, 3) := by decide +kernel
theorem dR_moved_166 : decode (m_C mR_moved) 166 = .ok (.iload_n 3, 1) := by decide +kernel
theorem dR_moved_167 : decode (m_C mR_moved) 167 = .ok (.invokevirtual 76, 3) := by decide +kernel
theorem dR_moved_170 : decode (m_C mR_moved) 170 = .ok (.iconst 1, 1) := by decide +kernel
theorem dR_moved_171 : decode (m_C mR_moved) 171 = .ok (.ireturn, 1) := by decide +kernel
theorem dR_namesake_0 : decode (m_C mR_namesake) 0 = .ok (.iconst 1, 1) := by decide +kernel
theorem dR_namesake_1 : decode (m_C mR_namesake) 1 = .ok (.istore_n 3, 1) := by decide +kernel
theorem dR_namesake_2 : decode (m_C mR_namesake) 2 = .ok (.iload_n 3, 1) := by decide +kernel
theorem dR_namesake_3 : decode (m_C mR_namesake) 3 = .ok (.sipush 300, 3) := by decide +kernel
theorem dR_namesake_6 : decode (m_C mR_namesake) 6 = .ok (.if_icmp .ge 116, 3) := by decide +kernel
theorem dR_namesake_9 : decode (m_C mR_namesake) 9 = .ok (.aload_n 0, 1) := by decide +kernel
theorem dR_namesake_10 : decode (m_C mR_namesake) 10 = .ok (.getfield 13, 3) := by decide +kernel
theorem dR_namesake_13 : decode (m_C mR_namesake) 13 = .ok (.iload_n 3, 1) := by decide +kernel
theorem dR_namesake_14 : decode (m_C mR_namesake) 14 = .ok (.iaload, 1) := by decide +kernel
theorem dR_namesake_15 : decode (m_C mR_namesake) 15 = .ok (.ifCond .eq 32, 3) := by decide +kernel
theorem dR_namesake_18 : decode (m_C mR_namesake) 18 = .ok (.aload_n 0, 1) := by decide +kernel
theorem dR_namesake_19 : decode (m_C mR_namesake) 19 = .ok (.getfield 16, 3) := by decide +kernel
theorem dR_namesake_22 : decode (m_C mR_namesake) 22 = .ok (.iload_n 3, 1) := by decide +kernel
theorem dR_namesake_23 : decode (m_C mR_namesake) 23 = .ok (.iaload, 1) := by decide +kernel
theorem dR_namesake_24 : decode (m_C mR_namesake) 24 = .ok (.iload_n 1, 1) := by decide +kernel
theorem dR_namesake_25 : decode (m_C mR_namesake) 25 = .ok (.if_icmp .ne 22, 3) := by decide +kernel
theorem dR_namesake_28 : decode (m_C mR_namesake) 28 = .ok (.aload_n 0, 1) := by decide +kernel
theorem dR_namesake_29 : decode (m_C mR_namesake) 29 = .ok (.getfield 22, 3) := by decide +kernel
theorem dR_namesake_32 : decode (m_C mR_namesake) 32 = .ok (.iload_n 3, 1) := by decide +kernel
theorem dR_namesake_33 : decode (m_C mR_namesake) 33 = .ok (.iaload, 1) := by decide +kernel
theorem dR_namesake_34 : decode (m_C mR_namesake) 34 = .ok (.aload_n 0, 1) := by decide +kernel
theorem dR_namesake_35 : decode (m_C mR_namesake) 35 = .ok (.getfield 22, 3) := by decide +kernel
theorem dR_namesake_38 : decode (m_C mR_namesake) 38 = .ok (.iload_n 2, 1) := by decide +kernel
theorem dR_namesake_39 : decode (m_C mR_namesake) 39 = .ok (.iaload, 1) := by decide +kernel
theorem dR_namesake_40 : decode (m_C mR_namesake) 40 = .ok (.if_icmp .ne 7, 3) := by decide +kernel
theorem dR_namesake_43 : decode (m_C mR_namesake) 43 = .ok (.iconst 1, 1) := by decide +kernel
theorem dR_namesake_44 : decode (m_C mR_namesake) 44 = .ok (.goto 4, 3) := by decide +kernel
theorem dR_namesake_47 : decode (m_C mR_namesake) 47 = .ok (.iconst 0, 1) := by decide +kernel
theorem dR_namesake_48 : decode (m_C mR_namesake) 48 = .ok (.istore 4, 2) := by decide +kernel
theorem dR_namesake_50 : decode (m_C mR_namesake) 50 = .ok (.iconst 0, 1) := by decide +kernel
theorem dR_namesake_51 : decode (m_C mR_namesake) 51 = .ok (.istore 5, 2) := by decide +kernel
theorem dR_namesake_53 : decode (m_C mR_namesake) 53 = .ok (.iload 5, 2) := by decide +kernel
theorem dR_namesake_55 : decode (m_C mR_namesake) 55 = .ok (.aload_n 0, 1) := by decide +kernel
theorem dR_namesake_56 : decode (m_C mR_namesake) 56 = .ok (.getfield 22, 3) := by decide +kernel
theorem dR_namesake_59 : decode (m_C mR_namesake) 59 = .ok (.iload_n 2, 1) := by decide +kernel
theorem dR_namesake_60 : decode (m_C mR_namesake) 60 = .ok (.iaload, 1) := by decide +kernel
theorem dR_namesake_61 : decode (m_C mR_namesake) 61 = .ok (.if_icmp .ge 48, 3) := by decide +kernel
theorem dR_namesake_64 : decode (m_C mR_namesake) 64 = .ok (.iload 4, 2) := by decide +kernel
theorem dR_namesake_66 : decode (m_C mR_namesake) 66 = .ok (.ifCond .eq 43, 3) := by decide +kernel
theorem dR_namesake_69 : decode (m_C mR_namesake) 69 = .ok (.aload_n 0, 1) := by decide +kernel
theorem dR_namesake_70 : decode (m_C mR_namesake) 70 = .ok (.getfield 25, 3) := by decide +kernel
theorem dR_namesake_73 : decode (m_C mR_namesake) 73 = .ok (.bipush 60, 2) := by decide +kernel
theorem dR_namesake_75 : decode (m_C mR_namesake) 75 = .ok (.iload_n 3, 1) := by decide +kernel
theorem dR_namesake_76 : decode (m_C mR_namesake) 76 = .ok (.imul, 1) := by decide +kernel
theorem dR_namesake_77 : decode (m_C mR_namesake) 77 = .ok (.iload 5, 2) := by decide +kernel
theorem dR_namesake_79 : decode (m_C mR_namesake) 79 = .ok (.iadd, 1) := by decide +kernel
theorem dR_namesake_80 : decode (m_C mR_namesake) 80 = .ok (.iaload, 1) := by decide +kernel
theorem dR_namesake_81 : decode (m_C mR_namesake) 81 = .ok (.aload_n 0, 1) := by decide +kernel
theorem dR_namesake_82 : decode (m_C mR_namesake) 82 = .ok (.getfield 25, 3) := by decide +kernel
theorem dR_namesake_85 : decode (m_C mR_namesake) 85 = .ok (.bipush 60, 2) := by decide +kernel
theorem dR_namesake_87 : decode (m_C mR_namesake) 87 = .ok (.iload_n 2, 1) := by decide +kernel
theorem dR_namesake_88 : decode (m_C mR_namesake) 88 = .ok (.imul, 1) := by decide +kernel
theorem dR_namesake_89 : decode (m_C mR_namesake) 89 = .ok (.iload 5, 2) := by decide +kernel
theorem dR_namesake_91 : decode (m_C mR_namesake) 91 = .ok (.iadd, 1) := by decide +kernel
theorem dR_namesake_92 : decode (m_C mR_namesake) 92 = .ok (.iaload, 1) := by decide +kernel
theorem dR_namesake_93 : decode (m_C mR_namesake) 93 = .ok (.if_icmp .ne 7, 3) := by decide +kernel
theorem dR_namesake_96 : decode (m_C mR_namesake) 96 = .ok (.iconst 1, 1) := by decide +kernel
theorem dR_namesake_97 : decode (m_C mR_namesake) 97 = .ok (.goto 4, 3) := by decide +kernel
theorem dR_namesake_100 : decode (m_C mR_namesake) 100 = .ok (.iconst 0, 1) := by decide +kernel
theorem dR_namesake_101 : decode (m_C mR_namesake) 101 = .ok (.istore 4, 2) := by decide +kernel
theorem dR_namesake_103 : decode (m_C mR_namesake) 103 = .ok (.iinc 5 1, 3) := by decide +kernel
theorem dR_namesake_106 : decode (m_C mR_namesake) 106 = .ok (.goto (-53), 3) := by decide +kernel
theorem dR_namesake_109 : decode (m_C mR_namesake) 109 = .ok (.iload 4, 2) := by decide +kernel
theorem dR_namesake_111 : decode (m_C mR_namesake) 111 = .ok (.ifCond .eq 5, 3) := by decide +kernel
theorem dR_namesake_114 : decode (m_C mR_namesake) 114 = .ok (.iload_n 3, 1) := by decide +kernel
theorem dR_namesake_115 : decode (m_C mR_namesake) 115 = .ok (.ireturn, 1) := by decide +kernel
theorem dR_namesake_116 : decode (m_C mR_namesake) 116 = .ok (.iinc 3 1, 3) := by decide +kernel
theorem dR_namesake_119 : decode (m_C mR_namesake) 119 = .ok (.goto (-117), 3) := by decide +kernel
theorem dR_namesake_122 : decode (m_C mR_namesake) 122 = .ok (.iconst (-1), 1) := by decide +kernel
theorem dR_namesake_123 : decode (m_C mR_namesake) 123 = .ok (.ireturn, 1) := by decide +kernel
theorem dR_name_0 : decode (m_C mR_name) 0 = .ok (.aload_n 0, 1) := by decide +kernel
theorem dR_name_1 : decode (m_C mR_name) 1 = .ok (.iload_n 1, 1) := by decide +kernel
theorem dR_name_2 : decode (m_C mR_name) 2 = .ok (.invokevirtual 108, 3) := by decide +kernel
theorem dR_name_5 : decode (m_C mR_name) 5 = .ok (.istore_n 3, 1) := by decide +kernel
theorem dR_name_6 : decode (m_C mR_name) 6 = .ok (.iload_n 3, 1) := by decide +kernel
theorem dR_name_7 : decode (m_C mR_name) 7 = .ok (.ifCond .lt 17, 3) := by decide +kernel
theorem dR_name_10 : decode (m_C mR_name) 10 = .ok (.iload_n 2, 1) := by decide +kernel
theorem dR_name_11 : decode (m_C mR_name) 11 = .ok (.ifCond .lt 13, 3) := by decide +kernel
theorem dR_name_14 : decode (m_C mR_name) 14 = .ok (.iload_n 2, 1) := by decide +kernel
theorem dR_name_15 : decode (m_C mR_name) 15 = .ok (.aload_n 0, 1) := by decide +kernel
theorem dR_name_16 : decode (m_C mR_name) 16 = .ok (.getfield 22, 3) := by decide +kernel
theorem dR_name_19 : decode (m_C mR_name) 19 = .ok (.iload_n 3, 1) := by decide +kernel
theorem dR_name_20 : decode (m_C mR_name) 20 = .ok (.iaload, 1) := by decide +kernel
theorem dR_name_21 : decode (m_C mR_name) 21 = .ok (.if_icmp .lt 7, 3) := by decide +kernel
theorem dR_name_24 : decode (m_C mR_name) 24 = .ok (.iconst (-1), 1) := by decide +kernel
theorem dR_name_25 : decode (m_C mR_name) 25 = .ok (.goto 14, 3) := by decide +kernel
theorem dR_name_28 : decode (m_C mR_name) 28 = .ok (.aload_n 0, 1) := by decide +kernel
theorem dR_name_29 : decode (m_C mR_name) 29 = .ok (.getfield 25, 3) := by decide +kernel
theorem dR_name_32 : decode (m_C mR_name) 32 = .ok (.bipush 60, 2) := by decide +kernel
theorem dR_name_34 : decode (m_C mR_name) 34 = .ok (.iload_n 3, 1) := by decide +kernel
theorem dR_name_35 : decode (m_C mR_name) 35 = .ok (.imul, 1) := by decide +kernel
theorem dR_name_36 : decode (m_C mR_name) 36 = .ok (.iload_n 2, 1) := by decide +kernel
theorem dR_name_37 : decode (m_C mR_name) 37 = .ok (.iadd, 1) := by decide +kernel
theorem dR_name_38 : decode (m_C mR_name) 38 = .ok (.iaload, 1) := by decide +kernel
theorem dR_name_39 : decode (m_C mR_name) 39 = .ok (.ireturn, 1) := by decide +kernel
theorem dR_inOrder_0 : decode (m_C mR_inOrder) 0 = .ok (.iconst 1, 1) := by decide +kernel
theorem dR_inOrder_1 : decode (m_C mR_inOrder) 1 = .ok (.istore_n 2, 1) := by decide +kernel
theorem dR_inOrder_2 : decode (m_C mR_inOrder) 2 = .ok (.iload_n 2, 1) := by decide +kernel
theorem dR_inOrder_3 : decode (m_C mR_inOrder) 3 = .ok (.sipush 300, 3) := by decide +kernel
theorem dR_inOrder_6 : decode (m_C mR_inOrder) 6 = .ok (.if_icmp .ge 102, 3) := by decide +kernel
theorem dR_inOrder_9 : decode (m_C mR_inOrder) 9 = .ok (.aload_n 0, 1) := by decide +kernel
theorem dR_inOrder_10 : decode (m_C mR_inOrder) 10 = .ok (.getfield 13, 3) := by decide +kernel
theorem dR_inOrder_13 : decode (m_C mR_inOrder) 13 = .ok (.iload_n 2, 1) := by decide +kernel
theorem dR_inOrder_14 : decode (m_C mR_inOrder) 14 = .ok (.iaload, 1) := by decide +kernel
theorem dR_inOrder_15 : decode (m_C mR_inOrder) 15 = .ok (.ifCond .eq 87, 3) := by decide +kernel
theorem dR_inOrder_18 : decode (m_C mR_inOrder) 18 = .ok (.aload_n 0, 1) := by decide +kernel
theorem dR_inOrder_19 : decode (m_C mR_inOrder) 19 = .ok (.getfield 16, 3) := by decide +kernel
theorem dR_inOrder_22 : decode (m_C mR_inOrder) 22 = .ok (.iload_n 2, 1) := by decide +kernel
theorem dR_inOrder_23 : decode (m_C mR_inOrder) 23 = .ok (.iaload, 1) := by decide +kernel
theorem dR_inOrder_24 : decode (m_C mR_inOrder) 24 = .ok (.aload_n 0, 1) := by decide +kernel
theorem dR_inOrder_25 : decode (m_C mR_inOrder) 25 = .ok (.getfield 55, 3) := by decide +kernel
theorem dR_inOrder_28 : decode (m_C mR_inOrder) 28 = .ok (.if_icmp .eq 6, 3) := by decide +kernel
theorem dR_inOrder_31 : decode (m_C mR_inOrder) 31 = .ok (.goto 71, 3) := by decide +kernel
theorem dR_inOrder_34 : decode (m_C mR_inOrder) 34 = .ok (.iconst 0, 1) := by decide +kernel
theorem dR_inOrder_35 : decode (m_C mR_inOrder) 35 = .ok (.istore_n 3, 1) := by decide +kernel
theorem dR_inOrder_36 : decode (m_C mR_inOrder) 36 = .ok (.iconst 1, 1) := by decide +kernel
theorem dR_inOrder_37 : decode (m_C mR_inOrder) 37 = .ok (.istore 4, 2) := by decide +kernel
theorem dR_inOrder_39 : decode (m_C mR_inOrder) 39 = .ok (.iload 4, 2) := by decide +kernel
theorem dR_inOrder_41 : decode (m_C mR_inOrder) 41 = .ok (.sipush 300, 3) := by decide +kernel
theorem dR_inOrder_44 : decode (m_C mR_inOrder) 44 = .ok (.if_icmp .ge 51, 3) := by decide +kernel
theorem dR_inOrder_47 : decode (m_C mR_inOrder) 47 = .ok (.iload_n 3, 1) := by decide +kernel
theorem dR_inOrder_48 : decode (m_C mR_inOrder) 48 = .ok (.aload_n 0, 1) := by decide +kernel
theorem dR_inOrder_49 : decode (m_C mR_inOrder) 49 = .ok (.getfield 13, 3) := by decide +kernel
theorem dR_inOrder_52 : decode (m_C mR_inOrder) 52 = .ok (.iload 4, 2) := by decide +kernel
theorem dR_inOrder_54 : decode (m_C mR_inOrder) 54 = .ok (.iaload, 1) := by decide +kernel
theorem dR_inOrder_55 : decode (m_C mR_inOrder) 55 = .ok (.ifCond .eq 31, 3) := by decide +kernel
theorem dR_inOrder_58 : decode (m_C mR_inOrder) 58 = .ok (.aload_n 0, 1) := by decide +kernel
theorem dR_inOrder_59 : decode (m_C mR_inOrder) 59 = .ok (.getfield 16, 3) := by decide +kernel
theorem dR_inOrder_62 : decode (m_C mR_inOrder) 62 = .ok (.iload 4, 2) := by decide +kernel
theorem dR_inOrder_64 : decode (m_C mR_inOrder) 64 = .ok (.iaload, 1) := by decide +kernel
theorem dR_inOrder_65 : decode (m_C mR_inOrder) 65 = .ok (.aload_n 0, 1) := by decide +kernel
theorem dR_inOrder_66 : decode (m_C mR_inOrder) 66 = .ok (.getfield 55, 3) := by decide +kernel
theorem dR_inOrder_69 : decode (m_C mR_inOrder) 69 = .ok (.if_icmp .ne 17, 3) := by decide +kernel
theorem dR_inOrder_72 : decode (m_C mR_inOrder) 72 = .ok (.aload_n 0, 1) := by decide +kernel
theorem dR_inOrder_73 : decode (m_C mR_inOrder) 73 = .ok (.iload 4, 2) := by decide +kernel
theorem dR_inOrder_75 : decode (m_C mR_inOrder) 75 = .ok (.iload_n 2, 1) := by decide +kernel
theorem dR_inOrder_76 : decode (m_C mR_inOrder) 76 = .ok (.invokevirtual 104, 3) := by decide +kernel
theorem dR_inOrder_79 : decode (m_C mR_inOrder) 79 = .ok (.ifCond .eq 7, 3) := by decide +kernel
theorem dR_inOrder_82 : decode (m_C mR_inOrder) 82 = .ok (.iconst 1, 1) := by decide +kernel
theorem dR_inOrder_83 : decode (m_C mR_inOrder) 83 = .ok (.goto 4, 3) := by decide +kernel
theorem dR_inOrder_86 : decode (m_C mR_inOrder) 86 = .ok (.iconst 0, 1) := by decide +kernel
theorem dR_inOrder_87 : decode (m_C mR_inOrder) 87 = .ok (.iadd, 1) := by decide +kernel
theorem dR_inOrder_88 : decode (m_C mR_inOrder) 88 = .ok (.istore_n 3, 1) := by decide +kernel
theorem dR_inOrder_89 : decode (m_C mR_inOrder) 89 = .ok (.iinc 4 1, 3) := by decide +kernel
theorem dR_inOrder_92 : decode (m_C mR_inOrder) 92 = .ok (.goto (-53), 3) := by decide +kernel
theorem dR_inOrder_95 : decode (m_C mR_inOrder) 95 = .ok (.iload_n 3, 1) := by decide +kernel
theorem dR_inOrder_96 : decode (m_C mR_inOrder) 96 = .ok (.iload_n 1, 1) := by decide +kernel
theorem dR_inOrder_97 : decode (m_C mR_inOrder) 97 = .ok (.if_icmp .ne 5, 3) := by decide +kernel
theorem dR_inOrder_100 : decode (m_C mR_inOrder) 100 = .ok (.iload_n 2, 1) := by decide +kernel
theorem dR_inOrder_101 : decode (m_C mR_inOrder) 101 = .ok (.ireturn, 1) := by decide +kernel
theorem dR_inOrder_102 : decode (m_C mR_inOrder) 102 = .ok (.iinc 2 1, 3) := by decide +kernel
theorem dR_inOrder_105 : decode (m_C mR_inOrder) 105 = .ok (.goto (-103), 3) := by decide +kernel
theorem dR_inOrder_108 : decode (m_C mR_inOrder) 108 = .ok (.iconst (-1), 1) := by decide +kernel
theorem dR_inOrder_109 : decode (m_C mR_inOrder) 109 = .ok (.ireturn, 1) := by decide +kernel
theorem dR_isBefore_0 : decode (m_C mR_isBefore) 0 = .ok (.iconst 0, 1) := by decide +kernel
theorem dR_isBefore_1 : decode (m_C mR_isBefore) 1 = .ok (.istore_n 3, 1) := by decide +kernel
theorem dR_isBefore_2 : decode (m_C mR_isBefore) 2 = .ok (.iload_n 3, 1) := by decide +kernel
theorem dR_isBefore_3 : decode (m_C mR_isBefore) 3 = .ok (.aload_n 0, 1) := by decide +kernel
theorem dR_isBefore_4 : decode (m_C mR_isBefore) 4 = .ok (.getfield 22, 3) := by decide +kernel
theorem dR_isBefore_7 : decode (m_C mR_isBefore) 7 = .ok (.iload_n 1, 1) := by decide +kernel
theorem dR_isBefore_8 : decode (m_C mR_isBefore) 8 = .ok (.iaload, 1) := by decide +kernel
theorem dR_isBefore_9 : decode (m_C mR_isBefore) 9 = .ok (.if_icmp .ge 60, 3) := by decide +kernel
theorem dR_isBefore_12 : decode (m_C mR_isBefore) 12 = .ok (.iload_n 3, 1) := by decide +kernel
theorem dR_isBefore_13 : decode (m_C mR_isBefore) 13 = .ok (.aload_n 0, 1) := by decide +kernel
theorem dR_isBefore_14 : decode (m_C mR_isBefore) 14 = .ok (.getfield 22, 3) := by decide +kernel
theorem dR_isBefore_17 : decode (m_C mR_isBefore) 17 = .ok (.iload_n 2, 1) := by decide +kernel
theorem dR_isBefore_18 : decode (m_C mR_isBefore) 18 = .ok (.iaload, 1) := by decide +kernel
theorem dR_isBefore_19 : decode (m_C mR_isBefore) 19 = .ok (.if_icmp .ge 50, 3) := by decide +kernel
theorem dR_isBefore_22 : decode (m_C mR_isBefore) 22 = .ok (.aload_n 0, 1) := by decide +kernel
theorem dR_isBefore_23 : decode (m_C mR_isBefore) 23 = .ok (.getfield 25, 3) := by decide +kernel
theorem dR_isBefore_26 : decode (m_C mR_isBefore) 26 = .ok (.bipush 60, 2) := by decide +kernel
theorem dR_isBefore_28 : decode (m_C mR_isBefore) 28 = .ok (.iload_n 1, 1) := by decide +kernel
theorem dR_isBefore_29 : decode (m_C mR_isBefore) 29 = .ok (.imul, 1) := by decide +kernel
theorem dR_isBefore_30 : decode (m_C mR_isBefore) 30 = .ok (.iload_n 3, 1) := by decide +kernel
theorem dR_isBefore_31 : decode (m_C mR_isBefore) 31 = .ok (.iadd, 1) := by decide +kernel
theorem dR_isBefore_32 : decode (m_C mR_isBefore) 32 = .ok (.iaload, 1) := by decide +kernel
theorem dR_isBefore_33 : decode (m_C mR_isBefore) 33 = .ok (.aload_n 0, 1) := by decide +kernel
theorem dR_isBefore_34 : decode (m_C mR_isBefore) 34 = .ok (.getfield 25, 3) := by decide +kernel
theorem dR_isBefore_37 : decode (m_C mR_isBefore) 37 = .ok (.bipush 60, 2) := by decide +kernel
theorem dR_isBefore_39 : decode (m_C mR_isBefore) 39 = .ok (.iload_n 2, 1) := by decide +kernel
theorem dR_isBefore_40 : decode (m_C mR_isBefore) 40 = .ok (.imul, 1) := by decide +kernel
theorem dR_isBefore_41 : decode (m_C mR_isBefore) 41 = .ok (.iload_n 3, 1) := by decide +kernel
theorem dR_isBefore_42 : decode (m_C mR_isBefore) 42 = .ok (.iadd, 1) := by decide +kernel
theorem dR_isBefore_43 : decode (m_C mR_isBefore) 43 = .ok (.iaload, 1) := by decide +kernel
theorem dR_isBefore_44 : decode (m_C mR_isBefore) 44 = .ok (.isub, 1) := by decide +kernel
theorem dR_isBefore_45 : decode (m_C mR_isBefore) 45 = .ok (.istore 4, 2) := by decide +kernel
theorem dR_isBefore_47 : decode (m_C mR_isBefore) 47 = .ok (.iload 4, 2) := by decide +kernel
theorem dR_isBefore_49 : decode (m_C mR_isBefore) 49 = .ok (.ifCond .eq 14, 3) := by decide +kernel
theorem dR_isBefore_52 : decode (m_C mR_isBefore) 52 = .ok (.iload 4, 2) := by decide +kernel
theorem dR_isBefore_54 : decode (m_C mR_isBefore) 54 = .ok (.ifCond .ge 7, 3) := by decide +kernel
theorem dR_isBefore_57 : decode (m_C mR_isBefore) 57 = .ok (.iconst 1, 1) := by decide +kernel
theorem dR_isBefore_58 : decode (m_C mR_isBefore) 58 = .ok (.goto 4, 3) := by decide +kernel
theorem dR_isBefore_61 : decode (m_C mR_isBefore) 61 = .ok (.iconst 0, 1) := by decide +kernel
theorem dR_isBefore_62 : decode (m_C mR_isBefore) 62 = .ok (.ireturn, 1) := by decide +kernel
theorem dR_isBefore_63 : decode (m_C mR_isBefore) 63 = .ok (.iinc 3 1, 3) := by decide +kernel
theorem dR_isBefore_66 : decode (m_C mR_isBefore) 66 = .ok (.goto (-64), 3) := by decide +kernel
theorem dR_isBefore_69 : decode (m_C mR_isBefore) 69 = .ok (.aload_n 0, 1) := by decide +kernel
theorem dR_isBefore_70 : decode (m_C mR_isBefore) 70 = .ok (.getfield 22, 3) := by decide +kernel
theorem dR_isBefore_73 : decode (m_C mR_isBefore) 73 = .ok (.iload_n 1, 1) := by decide +kernel
theorem dR_isBefore_74 : decode (m_C mR_isBefore) 74 = .ok (.iaload, 1) := by decide +kernel
theorem dR_isBefore_75 : decode (m_C mR_isBefore) 75 = .ok (.aload_n 0, 1) := by decide +kernel
theorem dR_isBefore_76 : decode (m_C mR_isBefore) 76 = .ok (.getfield 22, 3) := by decide +kernel
theorem dR_isBefore_79 : decode (m_C mR_isBefore) 79 = .ok (.iload_n 2, 1) := by decide +kernel
theorem dR_isBefore_80 : decode (m_C mR_isBefore) 80 = .ok (.iaload, 1) := by decide +kernel
theorem dR_isBefore_81 : decode (m_C mR_isBefore) 81 = .ok (.if_icmp .ge 7, 3) := by decide +kernel
theorem dR_isBefore_84 : decode (m_C mR_isBefore) 84 = .ok (.iconst 1, 1) := by decide +kernel
theorem dR_isBefore_85 : decode (m_C mR_isBefore) 85 = .ok (.goto 4, 3) := by decide +kernel
theorem dR_isBefore_88 : decode (m_C mR_isBefore) 88 = .ok (.iconst 0, 1) := by decide +kernel
theorem dR_isBefore_89 : decode (m_C mR_isBefore) 89 = .ok (.ireturn, 1) := by decide +kernel
theorem dR_count_0 : decode (m_C mR_count) 0 = .ok (.iload_n 1, 1) := by decide +kernel
theorem dR_count_1 : decode (m_C mR_count) 1 = .ok (.tableswitch 107 0 6 #[43, 49, 55, 60, 65, 70, 75], 43) := by decide +kernel
theorem dR_count_44 : decode (m_C mR_count) 44 = .ok (.aload_n 0, 1) := by decide +kernel
theorem dR_count_45 : decode (m_C mR_count) 45 = .ok (.iconst 1, 1) := by decide +kernel
theorem dR_count_46 : decode (m_C mR_count) 46 = .ok (.invokevirtual 111, 3) := by decide +kernel
theorem dR_count_49 : decode (m_C mR_count) 49 = .ok (.ireturn, 1) := by decide +kernel
theorem dR_count_50 : decode (m_C mR_count) 50 = .ok (.aload_n 0, 1) := by decide +kernel
theorem dR_count_51 : decode (m_C mR_count) 51 = .ok (.iconst 2, 1) := by decide +kernel
theorem dR_count_52 : decode (m_C mR_count) 52 = .ok (.invokevirtual 111, 3) := by decide +kernel
theorem dR_count_55 : decode (m_C mR_count) 55 = .ok (.ireturn, 1) := by decide +kernel
theorem dR_count_56 : decode (m_C mR_count) 56 = .ok (.aload_n 0, 1) := by decide +kernel
theorem dR_count_57 : decode (m_C mR_count) 57 = .ok (.getfield 87, 3) := by decide +kernel
theorem dR_count_60 : decode (m_C mR_count) 60 = .ok (.ireturn, 1) := by decide +kernel
theorem dR_count_61 : decode (m_C mR_count) 61 = .ok (.aload_n 0, 1) := by decide +kernel
theorem dR_count_62 : decode (m_C mR_count) 62 = .ok (.invokevirtual 114, 3) := by decide +kernel
theorem dR_count_65 : decode (m_C mR_count) 65 = .ok (.ireturn, 1) := by decide +kernel
theorem dR_count_66 : decode (m_C mR_count) 66 = .ok (.aload_n 0, 1) := by decide +kernel
theorem dR_count_67 : decode (m_C mR_count) 67 = .ok (.invokevirtual 117, 3) := by decide +kernel
theorem dR_count_70 : decode (m_C mR_count) 70 = .ok (.ireturn, 1) := by decide +kernel
theorem dR_count_71 : decode (m_C mR_count) 71 = .ok (.aload_n 0, 1) := by decide +kernel
theorem dR_count_72 : decode (m_C mR_count) 72 = .ok (.getfield 44, 3) := by decide +kernel
theorem dR_count_75 : decode (m_C mR_count) 75 = .ok (.ireturn, 1) := by decide +kernel
theorem dR_count_76 : decode (m_C mR_count) 76 = .ok (.aload_n 0, 1) := by decide +kernel
theorem dR_count_77 : decode (m_C mR_count) 77 = .ok (.getfield 32, 3) := by decide +kernel
theorem dR_count_80 : decode (m_C mR_count) 80 = .ok (.ifCond .ge 7, 3) := by decide +kernel
theorem dR_count_83 : decode (m_C mR_count) 83 = .ok (.iconst (-1), 1) := by decide +kernel
theorem dR_count_84 : decode (m_C mR_count) 84 = .ok (.goto 23, 3) := by decide +kernel
theorem dR_count_87 : decode (m_C mR_count) 87 = .ok (.aload_n 0, 1) := by decide +kernel
theorem dR_count_88 : decode (m_C mR_count) 88 = .ok (.getfield 83, 3) := by decide +kernel
theorem dR_count_91 : decode (m_C mR_count) 91 = .ok (.ifCond .eq 7, 3) := by decide +kernel
theorem dR_count_94 : decode (m_C mR_count) 94 = .ok (.iconst 0, 1) := by decide +kernel
theorem dR_count_95 : decode (m_C mR_count) 95 = .ok (.goto 12, 3) := by decide +kernel
theorem dR_count_98 : decode (m_C mR_count) 98 = .ok (.aload_n 0, 1) := by decide +kernel
theorem dR_count_99 : decode (m_C mR_count) 99 = .ok (.getfield 19, 3) := by decide +kernel
theorem dR_count_102 : decode (m_C mR_count) 102 = .ok (.aload_n 0, 1) := by decide +kernel
theorem dR_count_103 : decode (m_C mR_count) 103 = .ok (.getfield 32, 3) := by decide +kernel
theorem dR_count_106 : decode (m_C mR_count) 106 = .ok (.iaload, 1) := by decide +kernel
theorem dR_count_107 : decode (m_C mR_count) 107 = .ok (.ireturn, 1) := by decide +kernel
theorem dR_count_108 : decode (m_C mR_count) 108 = .ok (.iconst (-1), 1) := by decide +kernel
theorem dR_count_109 : decode (m_C mR_count) 109 = .ok (.ireturn, 1) := by decide +kernel
theorem dR_many_0 : decode (m_C mR_many) 0 = .ok (.iconst 0, 1) := by decide +kernel
theorem dR_many_1 : decode (m_C mR_many) 1 = .ok (.istore_n 2, 1) := by decide +kernel
theorem dR_many_2 : decode (m_C mR_many) 2 = .ok (.iconst 0, 1) := by decide +kernel
theorem dR_many_3 : decode (m_C mR_many) 3 = .ok (.istore_n 3, 1) := by decide +kernel
theorem dR_many_4 : decode (m_C mR_many) 4 = .ok (.iload_n 3, 1) := by decide +kernel
theorem dR_many_5 : decode (m_C mR_many) 5 = .ok (.sipush 300, 3) := by decide +kernel
theorem dR_many_8 : decode (m_C mR_many) 8 = .ok (.if_icmp .ge 27, 3) := by decide +kernel
theorem dR_many_11 : decode (m_C mR_many) 11 = .ok (.iload_n 2, 1) := by decide +kernel
theorem dR_many_12 : decode (m_C mR_many) 12 = .ok (.aload_n 0, 1) := by decide +kernel
theorem dR_many_13 : decode (m_C mR_many) 13 = .ok (.getfield 13, 3) := by decide +kernel
theorem dR_many_16 : decode (m_C mR_many) 16 = .ok (.iload_n 3, 1) := by decide +kernel
theorem dR_many_17 : decode (m_C mR_many) 17 = .ok (.iaload, 1) := by decide +kernel
theorem dR_many_18 : decode (m_C mR_many) 18 = .ok (.iload_n 1, 1) := by decide +kernel
theorem dR_many_19 : decode (m_C mR_many) 19 = .ok (.if_icmp .ne 7, 3) := by decide +kernel
theorem dR_many_22 : decode (m_C mR_many) 22 = .ok (.iconst 1, 1) := by decide +kernel
theorem dR_many_23 : decode (m_C mR_many) 23 = .ok (.goto 4, 3) := by decide +kernel
theorem dR_many_26 : decode (m_C mR_many) 26 = .ok (.iconst 0, 1) := by decide +kernel
theorem dR_many_27 : decode (m_C mR_many) 27 = .ok (.iadd, 1) := by decide +kernel
theorem dR_many_28 : decode (m_C mR_many) 28 = .ok (.istore_n 2, 1) := by decide +kernel
theorem dR_many_29 : decode (m_C mR_many) 29 = .ok (.iinc 3 1, 3) := by decide +kernel
theorem dR_many_32 : decode (m_C mR_many) 32 = .ok (.goto (-28), 3) := by decide +kernel
theorem dR_many_35 : decode (m_C mR_many) 35 = .ok (.iload_n 2, 1) := by decide +kernel
theorem dR_many_36 : decode (m_C mR_many) 36 = .ok (.ireturn, 1) := by decide +kernel
theorem dR_atHand_0 : decode (m_C mR_atHand) 0 = .ok (.iconst 0, 1) := by decide +kernel
theorem dR_atHand_1 : decode (m_C mR_atHand) 1 = .ok (.istore_n 1, 1) := by decide +kernel
theorem dR_atHand_2 : decode (m_C mR_atHand) 2 = .ok (.iconst 1, 1) := by decide +kernel
theorem dR_atHand_3 : decode (m_C mR_atHand) 3 = .ok (.istore_n 2, 1) := by decide +kernel
theorem dR_atHand_4 : decode (m_C mR_atHand) 4 = .ok (.iload_n 2, 1) := by decide +kernel
theorem dR_atHand_5 : decode (m_C mR_atHand) 5 = .ok (.sipush 300, 3) := by decide +kernel
theorem dR_atHand_8 : decode (m_C mR_atHand) 8 = .ok (.if_icmp .ge 39, 3) := by decide +kernel
theorem dR_atHand_11 : decode (m_C mR_atHand) 11 = .ok (.iload_n 1, 1) := by decide +kernel
theorem dR_atHand_12 : decode (m_C mR_atHand) 12 = .ok (.aload_n 0, 1) := by decide +kernel
theorem dR_atHand_13 : decode (m_C mR_atHand) 13 = .ok (.getfield 13, 3) := by decide +kernel
theorem dR_atHand_16 : decode (m_C mR_atHand) 16 = .ok (.iload_n 2, 1) := by decide +kernel
theorem dR_atHand_17 : decode (m_C mR_atHand) 17 = .ok (.iaload, 1) := by decide +kernel
theorem dR_atHand_18 : decode (m_C mR_atHand) 18 = .ok (.ifCond .eq 20, 3) := by decide +kernel
theorem dR_atHand_21 : decode (m_C mR_atHand) 21 = .ok (.aload_n 0, 1) := by decide +kernel
theorem dR_atHand_22 : decode (m_C mR_atHand) 22 = .ok (.getfield 16, 3) := by decide +kernel
theorem dR_atHand_25 : decode (m_C mR_atHand) 25 = .ok (.iload_n 2, 1) := by decide +kernel
theorem dR_atHand_26 : decode (m_C mR_atHand) 26 = .ok (.iaload, 1) := by decide +kernel
theorem dR_atHand_27 : decode (m_C mR_atHand) 27 = .ok (.aload_n 0, 1) := by decide +kernel
theorem dR_atHand_28 : decode (m_C mR_atHand) 28 = .ok (.getfield 55, 3) := by decide +kernel
theorem dR_atHand_31 : decode (m_C mR_atHand) 31 = .ok (.if_icmp .ne 7, 3) := by decide +kernel
theorem dR_atHand_34 : decode (m_C mR_atHand) 34 = .ok (.iconst 1, 1) := by decide +kernel
theorem dR_atHand_35 : decode (m_C mR_atHand) 35 = .ok (.goto 4, 3) := by decide +kernel
theorem dR_atHand_38 : decode (m_C mR_atHand) 38 = .ok (.iconst 0, 1) := by decide +kernel
theorem dR_atHand_39 : decode (m_C mR_atHand) 39 = .ok (.iadd, 1) := by decide +kernel
theorem dR_atHand_40 : decode (m_C mR_atHand) 40 = .ok (.istore_n 1, 1) := by decide +kernel
theorem dR_atHand_41 : decode (m_C mR_atHand) 41 = .ok (.iinc 2 1, 3) := by decide +kernel
theorem dR_atHand_44 : decode (m_C mR_atHand) 44 = .ok (.goto (-40), 3) := by decide +kernel
theorem dR_atHand_47 : decode (m_C mR_atHand) 47 = .ok (.iload_n 1, 1) := by decide +kernel
theorem dR_atHand_48 : decode (m_C mR_atHand) 48 = .ok (.ireturn, 1) := by decide +kernel
theorem dR_above_0 : decode (m_C mR_above) 0 = .ok (.iconst 0, 1) := by decide +kernel
theorem dR_above_1 : decode (m_C mR_above) 1 = .ok (.istore_n 1, 1) := by decide +kernel
theorem dR_above_2 : decode (m_C mR_above) 2 = .ok (.aload_n 0, 1) := by decide +kernel
theorem dR_above_3 : decode (m_C mR_above) 3 = .ok (.getfield 55, 3) := by decide +kernel
theorem dR_above_6 : decode (m_C mR_above) 6 = .ok (.istore_n 2, 1) := by decide +kernel
theorem dR_above_7 : decode (m_C mR_above) 7 = .ok (.iload_n 2, 1) := by decide +kernel
theorem dR_above_8 : decode (m_C mR_above) 8 = .ok (.ifCond .eq 16, 3) := by decide +kernel
theorem dR_above_11 : decode (m_C mR_above) 11 = .ok (.iinc 1 1, 3) := by decide +kernel
theorem dR_above_14 : decode (m_C mR_above) 14 = .ok (.aload_n 0, 1) := by decide +kernel
theorem dR_above_15 : decode (m_C mR_above) 15 = .ok (.getfield 16, 3) := by decide +kernel
theorem dR_above_18 : decode (m_C mR_above) 18 = .ok (.iload_n 2, 1) := by decide +kernel
theorem dR_above_19 : decode (m_C mR_above) 19 = .ok (.iaload, 1) := by decide +kernel
theorem dR_above_20 : decode (m_C mR_above) 20 = .ok (.istore_n 2, 1) := by decide +kernel
theorem dR_above_21 : decode (m_C mR_above) 21 = .ok (.goto (-14), 3) := by decide +kernel
theorem dR_above_24 : decode (m_C mR_above) 24 = .ok (.iload_n 1, 1) := by decide +kernel
theorem dR_above_25 : decode (m_C mR_above) 25 = .ok (.ireturn, 1) := by decide +kernel
