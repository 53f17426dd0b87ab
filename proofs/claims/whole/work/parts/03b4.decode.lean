theorem dD_entryAt_5 : decode (m_C mD_entryAt) 5 = .ok (.aload_n 0, 1) := by decide +kernel
theorem dD_entryAt_6 : decode (m_C mD_entryAt) 6 = .ok (.getfield 13, 3) := by decide +kernel
theorem dD_entryAt_9 : decode (m_C mD_entryAt) 9 = .ok (.if_icmp .lt 5, 3) := by decide +kernel
theorem dD_entryAt_12 : decode (m_C mD_entryAt) 12 = .ok (.aconst_null, 1) := by decide +kernel
theorem dD_entryAt_13 : decode (m_C mD_entryAt) 13 = .ok (.areturn, 1) := by decide +kernel
theorem dD_entryAt_14 : decode (m_C mD_entryAt) 14 = .ok (.aload_n 0, 1) := by decide +kernel
theorem dD_entryAt_15 : decode (m_C mD_entryAt) 15 = .ok (.getfield 7, 3) := by decide +kernel
theorem dD_entryAt_18 : decode (m_C mD_entryAt) 18 = .ok (.astore_n 2, 1) := by decide +kernel
theorem dD_entryAt_19 : decode (m_C mD_entryAt) 19 = .ok (.iconst 0, 1) := by decide +kernel
theorem dD_entryAt_20 : decode (m_C mD_entryAt) 20 = .ok (.istore_n 3, 1) := by decide +kernel
theorem dD_entryAt_21 : decode (m_C mD_entryAt) 21 = .ok (.iload_n 3, 1) := by decide +kernel
theorem dD_entryAt_22 : decode (m_C mD_entryAt) 22 = .ok (.iload_n 1, 1) := by decide +kernel
theorem dD_entryAt_23 : decode (m_C mD_entryAt) 23 = .ok (.if_icmp .ge 18, 3) := by decide +kernel
theorem dD_entryAt_26 : decode (m_C mD_entryAt) 26 = .ok (.aload_n 2, 1) := by decide +kernel
theorem dD_entryAt_27 : decode (m_C mD_entryAt) 27 = .ok (.ifnull 14, 3) := by decide +kernel
theorem dD_entryAt_30 : decode (m_C mD_entryAt) 30 = .ok (.aload_n 2, 1) := by decide +kernel
theorem dD_entryAt_31 : decode (m_C mD_entryAt) 31 = .ok (.getfield 21, 3) := by decide +kernel
theorem dD_entryAt_34 : decode (m_C mD_entryAt) 34 = .ok (.astore_n 2, 1) := by decide +kernel
theorem dD_entryAt_35 : decode (m_C mD_entryAt) 35 = .ok (.iinc 3 1, 3) := by decide +kernel
theorem dD_entryAt_38 : decode (m_C mD_entryAt) 38 = .ok (.goto (-17), 3) := by decide +kernel
theorem dD_entryAt_41 : decode (m_C mD_entryAt) 41 = .ok (.aload_n 2, 1) := by decide +kernel
theorem dD_entryAt_42 : decode (m_C mD_entryAt) 42 = .ok (.areturn, 1) := by decide +kernel
theorem dP_count_0 : decode (m_C mP_count) 0 = .ok (.iload_n 1, 1) := by decide +kernel
theorem dP_count_1 : decode (m_C mP_count) 1 = .ok (.tableswitch 101 0 6 #[43, 48, 53, 58, 66, 74, 82], 43) := by decide +kernel
theorem dP_count_44 : decode (m_C mP_count) 44 = .ok (.aload_n 0, 1) := by decide +kernel
theorem dP_count_45 : decode (m_C mP_count) 45 = .ok (.getfield 32, 3) := by decide +kernel
theorem dP_count_48 : decode (m_C mP_count) 48 = .ok (.ireturn, 1) := by decide +kernel
theorem dP_count_49 : decode (m_C mP_count) 49 = .ok (.aload_n 0, 1) := by decide +kernel
theorem dP_count_50 : decode (m_C mP_count) 50 = .ok (.getfield 36, 3) := by decide +kernel
theorem dP_count_53 : decode (m_C mP_count) 53 = .ok (.ireturn, 1) := by decide +kernel
theorem dP_count_54 : decode (m_C mP_count) 54 = .ok (.aload_n 0, 1) := by decide +kernel
theorem dP_count_55 : decode (m_C mP_count) 55 = .ok (.getfield 39, 3) := by decide +kernel
theorem dP_count_58 : decode (m_C mP_count) 58 = .ok (.ireturn, 1) := by decide +kernel
theorem dP_count_59 : decode (m_C mP_count) 59 = .ok (.aload_n 0, 1) := by decide +kernel
theorem dP_count_60 : decode (m_C mP_count) 60 = .ok (.getfield 25, 3) := by decide +kernel
theorem dP_count_63 : decode (m_C mP_count) 63 = .ok (.getfield 129, 3) := by decide +kernel
theorem dP_count_66 : decode (m_C mP_count) 66 = .ok (.ireturn, 1) := by decide +kernel
theorem dP_count_67 : decode (m_C mP_count) 67 = .ok (.aload_n 0, 1) := by decide +kernel
theorem dP_count_68 : decode (m_C mP_count) 68 = .ok (.getfield 25, 3) := by decide +kernel
theorem dP_count_71 : decode (m_C mP_count) 71 = .ok (.invokevirtual 132, 3) := by decide +kernel
theorem dP_count_74 : decode (m_C mP_count) 74 = .ok (.ireturn, 1) := by decide +kernel
theorem dP_count_75 : decode (m_C mP_count) 75 = .ok (.aload_n 0, 1) := by decide +kernel
theorem dP_count_76 : decode (m_C mP_count) 76 = .ok (.getfield 10, 3) := by decide +kernel
theorem dP_count_79 : decode (m_C mP_count) 79 = .ok (.getfield 54, 3) := by decide +kernel
theorem dP_count_82 : decode (m_C mP_count) 82 = .ok (.ireturn, 1) := by decide +kernel
theorem dP_count_83 : decode (m_C mP_count) 83 = .ok (.aload_n 0, 1) := by decide +kernel
theorem dP_count_84 : decode (m_C mP_count) 84 = .ok (.getfield 28, 3) := by decide +kernel
theorem dP_count_87 : decode (m_C mP_count) 87 = .ok (.ifnonnull 7, 3) := by decide +kernel
theorem dP_count_90 : decode (m_C mP_count) 90 = .ok (.iconst (-1), 1) := by decide +kernel
theorem dP_count_91 : decode (m_C mP_count) 91 = .ok (.goto 10, 3) := by decide +kernel
theorem dP_count_94 : decode (m_C mP_count) 94 = .ok (.aload_n 0, 1) := by decide +kernel
theorem dP_count_95 : decode (m_C mP_count) 95 = .ok (.getfield 28, 3) := by decide +kernel
theorem dP_count_98 : decode (m_C mP_count) 98 = .ok (.getfield 82, 3) := by decide +kernel
theorem dP_count_101 : decode (m_C mP_count) 101 = .ok (.ireturn, 1) := by decide +kernel
theorem dP_count_102 : decode (m_C mP_count) 102 = .ok (.iconst (-1), 1) := by decide +kernel
theorem dP_count_103 : decode (m_C mP_count) 103 = .ok (.ireturn, 1) := by decide +kernel
theorem dD_depth_0 : decode (m_C mD_depth) 0 = .ok (.iconst 0, 1) := by decide +kernel
theorem dD_depth_1 : decode (m_C mD_depth) 1 = .ok (.istore_n 1, 1) := by decide +kernel
theorem dD_depth_2 : decode (m_C mD_depth) 2 = .ok (.aload_n 0, 1) := by decide +kernel
theorem dD_depth_3 : decode (m_C mD_depth) 3 = .ok (.getfield 24, 3) := by decide +kernel
theorem dD_depth_6 : decode (m_C mD_depth) 6 = .ok (.astore_n 2, 1) := by decide +kernel
theorem dD_depth_7 : decode (m_C mD_depth) 7 = .ok (.aload_n 2, 1) := by decide +kernel
theorem dD_depth_8 : decode (m_C mD_depth) 8 = .ok (.ifnull 14, 3) := by decide +kernel
theorem dD_depth_11 : decode (m_C mD_depth) 11 = .ok (.iinc 1 1, 3) := by decide +kernel
theorem dD_depth_14 : decode (m_C mD_depth) 14 = .ok (.aload_n 2, 1) := by decide +kernel
theorem dD_depth_15 : decode (m_C mD_depth) 15 = .ok (.getfield 24, 3) := by decide +kernel
theorem dD_depth_18 : decode (m_C mD_depth) 18 = .ok (.astore_n 2, 1) := by decide +kernel
theorem dD_depth_19 : decode (m_C mD_depth) 19 = .ok (.goto (-12), 3) := by decide +kernel
theorem dD_depth_22 : decode (m_C mD_depth) 22 = .ok (.iload_n 1, 1) := by decide +kernel
theorem dD_depth_23 : decode (m_C mD_depth) 23 = .ok (.ireturn, 1) := by decide +kernel
theorem dR_init_0 : decode (m_C mR_init) 0 = .ok (.aload_n 0, 1) := by decide +kernel
theorem dR_init_1 : decode (m_C mR_init) 1 = .ok (.invokespecial 1, 3) := by decide +kernel
theorem dR_init_4 : decode (m_C mR_init) 4 = .ok (.aload_n 0, 1) := by decide +kernel
theorem dR_init_5 : decode (m_C mR_init) 5 = .ok (.sipush 250, 3) := by decide +kernel
theorem dR_init_8 : decode (m_C mR_init) 8 = .ok (.newarray .int, 2) := by decide +kernel
theorem dR_init_10 : decode (m_C mR_init) 10 = .ok (.putfield 7, 3) := by decide +kernel
theorem dR_init_13 : decode (m_C mR_init) 13 = .ok (.aload_n 0, 1) := by decide +kernel
theorem dR_init_14 : decode (m_C mR_init) 14 = .ok (.sipush 300, 3) := by decide +kernel
theorem dR_init_17 : decode (m_C mR_init) 17 = .ok (.newarray .int, 2) := by decide +kernel
theorem dR_init_19 : decode (m_C mR_init) 19 = .ok (.putfield 13, 3) := by decide +kernel
theorem dR_init_22 : decode (m_C mR_init) 22 = .ok (.aload_n 0, 1) := by decide +kernel
theorem dR_init_23 : decode (m_C mR_init) 23 = .ok (.sipush 300, 3) := by decide +kernel
theorem dR_init_26 : decode (m_C mR_init) 26 = .ok (.newarray .int, 2) := by decide +kernel
theorem dR_init_28 : decode (m_C mR_init) 28 = .ok (.putfield 16, 3) := by decide +kernel
theorem dR_init_31 : decode (m_C mR_init) 31 = .ok (.aload_n 0, 1) := by decide +kernel
theorem dR_init_32 : decode (m_C mR_init) 32 = .ok (.sipush 300, 3) := by decide +kernel
theorem dR_init_35 : decode (m_C mR_init) 35 = .ok (.newarray .int, 2) := by decide +kernel
theorem dR_init_37 : decode (m_C mR_init) 37 = .ok (.putfield 19, 3) := by decide +kernel
theorem dR_init_40 : decode (m_C mR_init) 40 = .ok (.aload_n 0, 1) := by decide +kernel
theorem dR_init_41 : decode (m_C mR_init) 41 = .ok (.sipush 300, 3) := by decide +kernel
theorem dR_init_44 : decode (m_C mR_init) 44 = .ok (.newarray .int, 2) := by decide +kernel
theorem dR_init_46 : decode (m_C mR_init) 46 = .ok (.putfield 22, 3) := by decide +kernel
theorem dR_init_49 : decode (m_C mR_init) 49 = .ok (.aload_n 0, 1) := by decide +kernel
theorem dR_init_50 : decode (m_C mR_init) 50 = .ok (.sipush 18000, 3) := by decide +kernel
theorem dR_init_53 : decode (m_C mR_init) 53 = .ok (.newarray .int, 2) := by decide +kernel
theorem dR_init_55 : decode (m_C mR_init) 55 = .ok (.putfield 25, 3) := by decide +kernel
theorem dR_init_58 : decode (m_C mR_init) 58 = .ok (.aload_n 0, 1) := by decide +kernel
theorem dR_init_59 : decode (m_C mR_init) 59 = .ok (.iconst 1, 1) := by decide +kernel
theorem dR_init_60 : decode (m_C mR_init) 60 = .ok (.putfield 28, 3) := by decide +kernel
theorem dR_init_63 : decode (m_C mR_init) 63 = .ok (.aload_n 0, 1) := by decide +kernel
theorem dR_init_64 : decode (m_C mR_init) 64 = .ok (.iconst (-1), 1) := by decide +kernel
theorem dR_init_65 : decode (m_C mR_init) 65 = .ok (.putfield 32, 3) := by decide +kernel
theorem dR_init_68 : decode (m_C mR_init) 68 = .ok (.aload_n 0, 1) := by decide +kernel
theorem dR_init_69 : decode (m_C mR_init) 69 = .ok (.ldc 35, 2) := by decide +kernel
theorem dR_init_71 : decode (m_C mR_init) 71 = .ok (.newarray .byte, 2) := by decide +kernel
theorem dR_init_73 : decode (m_C mR_init) 73 = .ok (.putfield 36, 3) := by decide +kernel
theorem dR_init_76 : decode (m_C mR_init) 76 = .ok (.aload_n 0, 1) := by decide +kernel
theorem dR_init_77 : decode (m_C mR_init) 77 = .ok (.ldc 35, 2) := by decide +kernel
theorem dR_init_79 : decode (m_C mR_init) 79 = .ok (.newarray .short, 2) := by decide +kernel
theorem dR_init_81 : decode (m_C mR_init) 81 = .ok (.putfield 40, 3) := by decide +kernel
theorem dR_init_84 : decode (m_C mR_init) 84 = .ok (.aload_n 0, 1) := by decide +kernel
theorem dR_init_85 : decode (m_C mR_init) 85 = .ok (.getfield 13, 3) := by decide +kernel
theorem dR_init_88 : decode (m_C mR_init) 88 = .ok (.iconst 0, 1) := by decide +kernel
theorem dR_init_89 : decode (m_C mR_init) 89 = .ok (.iconst 2, 1) := by decide +kernel
theorem dR_init_90 : decode (m_C mR_init) 90 = .ok (.iastore, 1) := by decide +kernel
theorem dR_init_91 : decode (m_C mR_init) 91 = .ok (.return_, 1) := by decide +kernel
theorem dR_path_0 : decode (m_C mR_path) 0 = .ok (.iload_n 3, 1) := by decide +kernel
theorem dR_path_1 : decode (m_C mR_path) 1 = .ok (.ifCond .lt 21, 3) := by decide +kernel
theorem dR_path_4 : decode (m_C mR_path) 4 = .ok (.iload_n 3, 1) := by decide +kernel
theorem dR_path_5 : decode (m_C mR_path) 5 = .ok (.bipush 8, 2) := by decide +kernel
theorem dR_path_7 : decode (m_C mR_path) 7 = .ok (.if_icmp .gt 15, 3) := by decide +kernel
theorem dR_path_10 : decode (m_C mR_path) 10 = .ok (.aload_n 0, 1) := by decide +kernel
theorem dR_path_11 : decode (m_C mR_path) 11 = .ok (.getfield 44, 3) := by decide +kernel
theorem dR_path_14 : decode (m_C mR_path) 14 = .ok (.iload_n 3, 1) := by decide +kernel
theorem dR_path_15 : decode (m_C mR_path) 15 = .ok (.iadd, 1) := by decide +kernel
theorem dR_path_16 : decode (m_C mR_path) 16 = .ok (.sipush 250, 3) := by decide +kernel
theorem dR_path_19 : decode (m_C mR_path) 19 = .ok (.if_icmp .le 5, 3) := by decide +kernel
theorem dR_path_22 : decode (m_C mR_path) 22 = .ok (.iconst (-1), 1) := by decide +kernel
theorem dR_path_23 : decode (m_C mR_path) 23 = .ok (.ireturn, 1) := by decide +kernel
theorem dR_path_24 : decode (m_C mR_path) 24 = .ok (.iconst 0, 1) := by decide +kernel
theorem dR_path_25 : decode (m_C mR_path) 25 = .ok (.istore 4, 2) := by decide +kernel
theorem dR_path_27 : decode (m_C mR_path) 27 = .ok (.iload 4, 2) := by decide +kernel
theorem dR_path_29 : decode (m_C mR_path) 29 = .ok (.iload_n 3, 1) := by decide +kernel
theorem dR_path_30 : decode (m_C mR_path) 30 = .ok (.if_icmp .ge 53, 3) := by decide +kernel
theorem dR_path_33 : decode (m_C mR_path) 33 = .ok (.lload_n 1, 1) := by decide +kernel
theorem dR_path_34 : decode (m_C mR_path) 34 = .ok (.bipush 8, 2) := by decide +kernel
theorem dR_path_36 : decode (m_C mR_path) 36 = .ok (.iload 4, 2) := by decide +kernel
theorem dR_path_38 : decode (m_C mR_path) 38 = .ok (.imul, 1) := by decide +kernel
theorem dR_path_39 : decode (m_C mR_path) 39 = .ok (.lshr, 1) := by decide +kernel
theorem dR_path_40 : decode (m_C mR_path) 40 = .ok (.l2i, 1) := by decide +kernel
theorem dR_path_41 : decode (m_C mR_path) 41 = .ok (.sipush 255, 3) := by decide +kernel
theorem dR_path_44 : decode (m_C mR_path) 44 = .ok (.iand, 1) := by decide +kernel
theorem dR_path_45 : decode (m_C mR_path) 45 = .ok (.istore 5, 2) := by decide +kernel
theorem dR_path_47 : decode (m_C mR_path) 47 = .ok (.iload 5, 2) := by decide +kernel
theorem dR_path_49 : decode (m_C mR_path) 49 = .ok (.bipush 9, 2) := by decide +kernel
theorem dR_path_51 : decode (m_C mR_path) 51 = .ok (.if_icmp .eq 26, 3) := by decide +kernel
theorem dR_path_54 : decode (m_C mR_path) 54 = .ok (.iload 5, 2) := by decide +kernel
theorem dR_path_56 : decode (m_C mR_path) 56 = .ok (.bipush 10, 2) := by decide +kernel
theorem dR_path_58 : decode (m_C mR_path) 58 = .ok (.if_icmp .eq 19, 3) := by decide +kernel
theorem dR_path_61 : decode (m_C mR_path) 61 = .ok (.iload 5, 2) := by decide +kernel
theorem dR_path_63 : decode (m_C mR_path) 63 = .ok (.bipush 32, 2) := by decide +kernel
theorem dR_path_65 : decode (m_C mR_path) 65 = .ok (.if_icmp .lt 10, 3) := by decide +kernel
theorem dR_path_68 : decode (m_C mR_path) 68 = .ok (.iload 5, 2) := by decide +kernel
theorem dR_path_70 : decode (m_C mR_path) 70 = .ok (.bipush 126, 2) := by decide +kernel
theorem dR_path_72 : decode (m_C mR_path) 72 = .ok (.if_icmp .le 5, 3) := by decide +kernel
theorem dR_path_75 : decode (m_C mR_path) 75 = .ok (.iconst (-1), 1) := by decide +kernel
theorem dR_path_76 : decode (m_C mR_path) 76 = .ok (.ireturn, 1) := by decide +kernel
theorem dR_path_77 : decode (m_C mR_path) 77 = .ok (.iinc 4 1, 3) := by decide +kernel
theorem dR_path_80 : decode (m_C mR_path) 80 = .ok (.goto (-53), 3) := by decide +kernel
theorem dR_path_83 : decode (m_C mR_path) 83 = .ok (.iload_n 3, 1) := by decide +kernel
theorem dR_path_84 : decode (m_C mR_path) 84 = .ok (.iconst 1, 1) := by decide +kernel
theorem dR_path_85 : decode (m_C mR_path) 85 = .ok (.isub, 1) := by decide +kernel
theorem dR_path_86 : decode (m_C mR_path) 86 = .ok (.istore 4, 2) := by decide +kernel
theorem dR_path_88 : decode (m_C mR_path) 88 = .ok (.iload 4, 2) := by decide +kernel
theorem dR_path_90 : decode (m_C mR_path) 90 = .ok (.ifCond .lt 40, 3) := by decide +kernel
theorem dR_path_93 : decode (m_C mR_path) 93 = .ok (.aload_n 0, 1) := by decide +kernel
theorem dR_path_94 : decode (m_C mR_path) 94 = .ok (.getfield 7, 3) := by decide +kernel
theorem dR_path_97 : decode (m_C mR_path) 97 = .ok (.aload_n 0, 1) := by decide +kernel
theorem dR_path_98 : decode (m_C mR_path) 98 = .ok (.getfield 44, 3) := by decide +kernel
theorem dR_path_101 : decode (m_C mR_path) 101 = .ok (.lload_n 1, 1) := by decide +kernel
theorem dR_path_102 : decode (m_C mR_path) 102 = .ok (.bipush 8, 2) := by decide +kernel
theorem dR_path_104 : decode (m_C mR_path) 104 = .ok (.iload 4, 2) := by decide +kernel
theorem dR_path_106 : decode (m_C mR_path) 106 = .ok (.imul, 1) := by decide +kernel
theorem dR_path_107 : decode (m_C mR_path) 107 = .ok (.lshr, 1) := by decide +kernel
theorem dR_path_108 : decode (m_C mR_path) 108 = .ok (.l2i, 1) := by decide +kernel
theorem dR_path_109 : decode (m_C mR_path) 109 = .ok (.sipush 255, 3) := by decide +kernel
theorem dR_path_112 : decode (m_C mR_path) 112 = .ok (.iand, 1) := by decide +kernel
theorem dR_path_113 : decode (m_C mR_path) 113 = .ok (.iastore, 1) := by decide +kernel
theorem dR_path_114 : decode (m_C mR_path) 114 = .ok (.aload_n 0, 1) := by decide +kernel
theorem dR_path_115 : decode (m_C mR_path) 115 = .ok (.dup, 1) := by decide +kernel
theorem dR_path_116 : decode (m_C mR_path) 116 = .ok (.getfield 44, 3) := by decide +kernel
theorem dR_path_119 : decode (m_C mR_path) 119 = .ok (.iconst 1, 1) := by decide +kernel
theorem dR_path_120 : decode (m_C mR_path) 120 = .ok (.iadd, 1) := by decide +kernel
theorem dR_path_121 : decode (m_C mR_path) 121 = .ok (.putfield 44, 3) := by decide +kernel
theorem dR_path_124 : decode (m_C mR_path) 124 = .ok (.iinc 4 (-1), 3) := by decide +kernel
theorem dR_path_127 : decode (m_C mR_path) 127 = .ok (.goto (-39), 3) := by decide +kernel
theorem dR_path_130 : decode (m_C mR_path) 130 = .ok (.aload_n 0, 1) := by decide +kernel
theorem dR_path_131 : decode (m_C mR_path) 131 = .ok (.getfield 44, 3) := by decide +kernel
theorem dR_path_134 : decode (m_C mR_path) 134 = .ok (.ireturn, 1) := by decide +kernel
theorem dR_find_0 : decode (m_C mR_find) 0 = .ok (.aload_n 0, 1) := by decide +kernel
theorem dR_find_1 : decode (m_C mR_find) 1 = .ok (.aload_n 0, 1) := by decide +kernel
theorem dR_find_2 : decode (m_C mR_find) 2 = .ok (.getfield 44, 3) := by decide +kernel
theorem dR_find_5 : decode (m_C mR_find) 5 = .ok (.invokevirtual 65, 3) := by decide +kernel
theorem dR_find_8 : decode (m_C mR_find) 8 = .ok (.istore_n 1, 1) := by decide +kernel
theorem dR_find_9 : decode (m_C mR_find) 9 = .ok (.aload_n 0, 1) := by decide +kernel
theorem dR_find_10 : decode (m_C mR_find) 10 = .ok (.iconst 0, 1) := by decide +kernel
theorem dR_find_11 : decode (m_C mR_find) 11 = .ok (.putfield 44, 3) := by decide +kernel
theorem dR_find_14 : decode (m_C mR_find) 14 = .ok (.iload_n 1, 1) := by decide +kernel
theorem dR_find_15 : decode (m_C mR_find) 15 = .ok (.ifCond .ge 7, 3) := by decide +kernel
theorem dR_find_18 : decode (m_C mR_find) 18 = .ok (.iconst 0, 1) := by decide +kernel
theorem dR_find_19 : decode (m_C mR_find) 19 = .ok (.goto 9, 3) := by decide +kernel
theorem dR_find_22 : decode (m_C mR_find) 22 = .ok (.aload_n 0, 1) := by decide +kernel
theorem dR_find_23 : decode (m_C mR_find) 23 = .ok (.getfield 13, 3) := by decide +kernel
theorem dR_find_26 : decode (m_C mR_find) 26 = .ok (.iload_n 1, 1) := by decide +kernel
theorem dR_find_27 : decode (m_C mR_find) 27 = .ok (.iaload, 1) := by decide +kernel
theorem dR_find_28 : decode (m_C mR_find) 28 = .ok (.ireturn, 1) := by decide +kernel
theorem dR_lead_0 : decode (m_C mR_lead) 0 = .ok (.iload_n 1, 1) := by decide +kernel
theorem dR_lead_1 : decode (m_C mR_lead) 1 = .ok (.ifCond .ne 5, 3) := by decide +kernel
theorem dR_lead_4 : decode (m_C mR_lead) 4 = .ok (.iconst (-1), 1) := by decide +kernel
theorem dR_lead_5 : decode (m_C mR_lead) 5 = .ok (.ireturn, 1) := by decide +kernel
theorem dR_lead_6 : decode (m_C mR_lead) 6 = .ok (.aload_n 0, 1) := by decide +kernel
theorem dR_lead_7 : decode (m_C mR_lead) 7 = .ok (.getfield 7, 3) := by decide +kernel
theorem dR_lead_10 : decode (m_C mR_lead) 10 = .ok (.iconst 0, 1) := by decide +kernel
theorem dR_lead_11 : decode (m_C mR_lead) 11 = .ok (.iaload, 1) := by decide +kernel
theorem dR_lead_12 : decode (m_C mR_lead) 12 = .ok (.bipush 47, 2) := by decide +kernel
theorem dR_lead_14 : decode (m_C mR_lead) 14 = .ok (.if_icmp .ne 7, 3) := by decide +kernel
theorem dR_lead_17 : decode (m_C mR_lead) 17 = .ok (.iconst 0, 1) := by decide +kernel
theorem dR_lead_18 : decode (m_C mR_lead) 18 = .ok (.goto 7, 3) := by decide +kernel
theorem dR_lead_21 : decode (m_C mR_lead) 21 = .ok (.aload_n 0, 1) := by decide +kernel
theorem dR_lead_22 : decode (m_C mR_lead) 22 = .ok (.getfield 55, 3) := by decide +kernel
theorem dR_lead_25 : decode (m_C mR_lead) 25 = .ok (.istore_n 2, 1) := by decide +kernel
theorem dR_lead_26 : decode (m_C mR_lead) 26 = .ok (.iconst 0, 1) := by decide +kernel
theorem dR_lead_27 : decode (m_C mR_lead) 27 = .ok (.istore_n 3, 1) := by decide +kernel
theorem dR_lead_28 : decode (m_C mR_lead) 28 = .ok (.iload_n 3, 1) := by decide +kernel
theorem dR_lead_29 : decode (m_C mR_lead) 29 = .ok (.iload_n 1, 1) := by decide +kernel
theorem dR_lead_30 : decode (m_C mR_lead) 30 = .ok (.if_icmp .gt 51, 3) := by decide +kernel
theorem dR_lead_33 : decode (m_C mR_lead) 33 = .ok (.iload_n 2, 1) := by decide +kernel
theorem dR_lead_34 : decode (m_C mR_lead) 34 = .ok (.ifCond .lt 47, 3) := by decide +kernel
theorem dR_lead_37 : decode (m_C mR_lead) 37 = .ok (.iload_n 3, 1) := by decide +kernel
theorem dR_lead_38 : decode (m_C mR_lead) 38 = .ok (.istore 4, 2) := by decide +kernel
theorem dR_lead_40 : decode (m_C mR_lead) 40 = .ok (.iload 4, 2) := by decide +kernel
theorem dR_lead_42 : decode (m_C mR_lead) 42 = .ok (.iload_n 1, 1) := by decide +kernel
theorem dR_lead_43 : decode (m_C mR_lead) 43 = .ok (.if_icmp .ge 21, 3) := by decide +kernel
theorem dR_lead_46 : decode (m_C mR_lead) 46 = .ok (.aload_n 0, 1) := by decide +kernel
theorem dR_lead_47 : decode (m_C mR_lead) 47 = .ok (.getfield 7, 3) := by decide +kernel
theorem dR_lead_50 : decode (m_C mR_lead) 50 = .ok (.iload 4, 2) := by decide +kernel
theorem dR_lead_52 : decode (m_C mR_lead) 52 = .ok (.iaload, 1) := by decide +kernel
theorem dR_lead_53 : decode (m_C mR_lead) 53 = .ok (.bipush 47, 2) := by decide +kernel
theorem dR_lead_55 : decode (m_C mR_lead) 55 = .ok (.if_icmp .eq 9, 3) := by decide +kernel
theorem dR_lead_58 : decode (m_C mR_lead) 58 = .ok (.iinc 4 1, 3) := by decide +kernel
theorem dR_lead_61 : decode (m_C mR_lead) 61 = .ok (.goto (-21), 3) := by decide +kernel
theorem dR_lead_64 : decode (m_C mR_lead) 64 = .ok (.aload_n 0, 1) := by decide +kernel
theorem dR_lead_65 : decode (m_C mR_lead) 65 = .ok (.iload_n 2, 1) := by decide +kernel
theorem dR_lead_66 : decode (m_C mR_lead) 66 = .ok (.iload_n 3, 1) := by decide +kernel
theorem dR_lead_67 : decode (m_C mR_lead) 67 = .ok (.iload 4, 2) := by decide +kernel
theorem dR_lead_69 : decode (m_C mR_lead) 69 = .ok (.invokevirtual 58, 3) := by decide +kernel
theorem dR_lead_72 : decode (m_C mR_lead) 72 = .ok (.istore_n 2, 1) := by decide +kernel
theorem dR_lead_73 : decode (m_C mR_lead) 73 = .ok (.iload 4, 2) := by decide +kernel
theorem dR_lead_75 : decode (m_C mR_lead) 75 = .ok (.iconst 1, 1) := by decide +kernel
theorem dR_lead_76 : decode (m_C mR_lead) 76 = .ok (.iadd, 1) := by decide +kernel
theorem dR_lead_77 : decode (m_C mR_lead) 77 = .ok (.istore_n 3, 1) := by decide +kernel
theorem dR_lead_78 : decode (m_C mR_lead) 78 = .ok (.goto (-50), 3) := by decide +kernel
theorem dR_lead_81 : decode (m_C mR_lead) 81 = .ok (.iload_n 2, 1) := by decide +kernel
theorem dR_lead_82 : decode (m_C mR_lead) 82 = .ok (.ifCond .lt 30, 3) := by decide +kernel
theorem dR_lead_85 : decode (m_C mR_lead) 85 = .ok (.aload_n 0, 1) := by decide +kernel
theorem dR_lead_86 : decode (m_C mR_lead) 86 = .ok (.getfield 7, 3) := by decide +kernel
theorem dR_lead_89 : decode (m_C mR_lead) 89 = .ok (.iload_n 1, 1) := by decide +kernel
theorem dR_lead_90 : decode (m_C mR_lead) 90 = .ok (.iconst 1, 1) := by decide +kernel
theorem dR_lead_91 : decode (m_C mR_lead) 91 = .ok (.isub, 1) := by decide +kernel
theorem dR_lead_92 : decode (m_C mR_lead) 92 = .ok (.iaload, 1) := by decide +kernel
theorem dR_lead_93 : decode (m_C mR_lead) 93 = .ok (.bipush 47, 2) := by decide +kernel
theorem dR_lead_95 : decode (m_C mR_lead) 95 = .ok (.if_icmp .ne 17, 3) := by decide +kernel
theorem dR_lead_98 : decode (m_C mR_lead) 98 = .ok (.aload_n 0, 1) := by decide +kernel
theorem dR_lead_99 : decode (m_C mR_lead) 99 = .ok (.getfield 13, 3) := by decide +kernel
theorem dR_lead_102 : decode (m_C mR_lead) 102 = .ok (.iload_n 2, 1) := by decide +kernel
theorem dR_lead_103 : decode (m_C mR_lead) 103 = .ok (.iaload, 1) := by decide +kernel
theorem dR_lead_104 : decode (m_C mR_lead) 104 = .ok (.iconst 2, 1) := by decide +kernel
theorem dR_lead_105 : decode (m_C mR_lead) 105 = .ok (.if_icmp .eq 7, 3) := by decide +kernel
theorem dR_lead_108 : decode (m_C mR_lead) 108 = .ok (.iconst (-1), 1) := by decide +kernel
theorem dR_lead_109 : decode (m_C mR_lead) 109 = .ok (.goto 4, 3) := by decide +kernel
theorem dR_lead_112 : decode (m_C mR_lead) 112 = .ok (.iload_n 2, 1) := by decide +kernel
theorem dR_lead_113 : decode (m_C mR_lead) 113 = .ok (.ireturn, 1) := by decide +kernel
theorem dR_along_0 : decode (m_C mR_along) 0 = .ok (.iload_n 2, 1) := by decide +kernel
theorem dR_along_1 : decode (m_C mR_along) 1 = .ok (.iload_n 3, 1) := by decide +kernel
theorem dR_along_2 : decode (m_C mR_along) 2 = .ok (.if_icmp .ne 5, 3) := by decide +kernel
theorem dR_along_5 : decode (m_C mR_along) 5 = .ok (.iload_n 1, 1) := by decide +kernel
theorem dR_along_6 : decode (m_C mR_along) 6 = .ok (.ireturn, 1) := by decide +kernel
theorem dR_along_7 : decode (m_C mR_along) 7 = .ok (.aload_n 0, 1) := by decide +kernel
theorem dR_along_8 : decode (m_C mR_along) 8 = .ok (.getfield 13, 3) := by decide +kernel
theorem dR_along_11 : decode (m_C mR_along) 11 = .ok (.iload_n 1, 1) := by decide +kernel
theorem dR_along_12 : decode (m_C mR_along) 12 = .ok (.iaload, 1) := by decide +kernel
theorem dR_along_13 : decode (m_C mR_along) 13 = .ok (.iconst 2, 1) := by decide +kernel
theorem dR_along_14 : decode (m_C mR_along) 14 = .ok (.if_icmp .eq 5, 3) := by decide +kernel
theorem dR_along_17 : decode (m_C mR_along) 17 = .ok (.iconst (-1), 1) := by decide +kernel
theorem dR_along_18 : decode (m_C mR_along) 18 = .ok (.ireturn, 1) := by decide +kernel
theorem dR_along_19 : decode (m_C mR_along) 19 = .ok (.aload_n 0, 1) := by decide +kernel
theorem dR_along_20 : decode (m_C mR_along) 20 = .ok (.iload_n 2, 1) := by decide +kernel
theorem dR_along_21 : decode (m_C mR_along) 21 = .ok (.iload_n 3, 1) := by decide +kernel
theorem dR_along_22 : decode (m_C mR_along) 22 = .ok (.iconst 1, 1) := by decide +kernel
theorem dR_along_23 : decode (m_C mR_along) 23 = .ok (.invokevirtual 47, 3) := by decide +kernel
theorem dR_along_26 : decode (m_C mR_along) 26 = .ok (.ifCond .eq 5, 3) := by decide +kernel
theorem dR_along_29 : decode (m_C mR_along) 29 = .ok (.iload_n 1, 1) := by decide +kernel
theorem dR_along_30 : decode (m_C mR_along) 30 = .ok (.ireturn, 1) := by decide +kernel
theorem dR_along_31 : decode (m_C mR_along) 31 = .ok (.aload_n 0, 1) := by decide +kernel
theorem dR_along_32 : decode (m_C mR_along) 32 = .ok (.iload_n 2, 1) := by decide +kernel
theorem dR_along_33 : decode (m_C mR_along) 33 = .ok (.iload_n 3, 1) := by decide +kernel
theorem dR_along_34 : decode (m_C mR_along) 34 = .ok (.iconst 2, 1) := by decide +kernel
theorem dR_along_35 : decode (m_C mR_along) 35 = .ok (.invokevirtual 47, 3) := by decide +kernel
theorem dR_along_38 : decode (m_C mR_along) 38 = .ok (.ifCond .eq 12, 3) := by decide +kernel
theorem dR_along_41 : decode (m_C mR_along) 41 = .ok (.aload_n 0, 1) := by decide +kernel
theorem dR_along_42 : decode (m_C mR_along) 42 = .ok (.getfield 16, 3) := by decide +kernel
theorem dR_along_45 : decode (m_C mR_along) 45 = .ok (.iload_n 1, 1) := by decide +kernel
theorem dR_along_46 : decode (m_C mR_along) 46 = .ok (.iaload, 1) := by decide +kernel
theorem dR_along_47 : decode (m_C mR_along) 47 = .ok (.goto 10, 3) := by decide +kernel
theorem dR_along_50 : decode (m_C mR_along) 50 = .ok (.aload_n 0, 1) := by decide +kernel
theorem dR_along_51 : decode (m_C mR_along) 51 = .ok (.iload_n 1, 1) := by decide +kernel
theorem dR_along_52 : decode (m_C mR_along) 52 = .ok (.iload_n 2, 1) := by decide +kernel
theorem dR_along_53 : decode (m_C mR_along) 53 = .ok (.iload_n 3, 1) := by decide +kernel
theorem dR_along_54 : decode (m_C mR_along) 54 = .ok (.invokevirtual 51, 3) := by decide +kernel
theorem dR_along_57 : decode (m_C mR_along) 57 = .ok (.ireturn, 1) := by decide +kernel
theorem dR_isDots_0 : decode (m_C mR_isDots) 0 = .ok (.iload_n 2, 1) := by decide +kernel
theorem dR_isDots_1 : decode (m_C mR_isDots) 1 = .ok (.iload_n 1, 1) := by decide +kernel
theorem dR_isDots_2 : decode (m_C mR_isDots) 2 = .ok (.isub, 1) := by decide +kernel
theorem dR_isDots_3 : decode (m_C mR_isDots) 3 = .ok (.iload_n 3, 1) := by decide +kernel
theorem dR_isDots_4 : decode (m_C mR_isDots) 4 = .ok (.if_icmp .ne 7, 3) := by decide +kernel
theorem dR_isDots_7 : decode (m_C mR_isDots) 7 = .ok (.iconst 1, 1) := by decide +kernel
theorem dR_isDots_8 : decode (m_C mR_isDots) 8 = .ok (.goto 4, 3) := by decide +kernel
theorem dR_isDots_11 : decode (m_C mR_isDots) 11 = .ok (.iconst 0, 1) := by decide +kernel
theorem dR_isDots_12 : decode (m_C mR_isDots) 12 = .ok (.istore 4, 2) := by decide +kernel
theorem dR_isDots_14 : decode (m_C mR_isDots) 14 = .ok (.iload_n 1, 1) := by decide +kernel
theorem dR_isDots_15 : decode (m_C mR_isDots) 15 = .ok (.istore 5, 2) := by decide +kernel
theorem dR_isDots_17 : decode (m_C mR_isDots) 17 = .ok (.iload 5, 2) := by decide +kernel
theorem dR_isDots_19 : decode (m_C mR_isDots) 19 = .ok (.iload_n 2, 1) := by decide +kernel
theorem dR_isDots_20 : decode (m_C mR_isDots) 20 = .ok (.if_icmp .ge 33, 3) := by decide +kernel
theorem dR_isDots_23 : decode (m_C mR_isDots) 23 = .ok (.iload 4, 2) := by decide +kernel
theorem dR_isDots_25 : decode (m_C mR_isDots) 25 = .ok (.ifCond .eq 19, 3) := by decide +kernel
theorem dR_isDots_28 : decode (m_C mR_isDots) 28 = .ok (.aload_n 0, 1) := by decide +kernel
theorem dR_isDots_29 : decode (m_C mR_isDots) 29 = .ok (.getfield 7, 3) := by decide +kernel
theorem dR_isDots_32 : decode (m_C mR_isDots) 32 = .ok (.iload 5, 2) := by decide +kernel
theorem dR_isDots_34 : decode (m_C mR_isDots) 34 = .ok (.iaload, 1) := by decide +kernel
theorem dR_isDots_35 : decode (m_C mR_isDots) 35 = .ok (.bipush 46, 2) := by decide +kernel
theorem dR_isDots_37 : decode (m_C mR_isDots) 37 = .ok (.if_icmp .ne 7, 3) := by decide +kernel
theorem dR_isDots_40 : decode (m_C mR_isDots) 40 = .ok (.iconst 1, 1) := by decide +kernel
theorem dR_isDots_41 : decode (m_C mR_isDots) 41 = .ok (.goto 4, 3) := by decide +kernel
theorem dR_isDots_44 : decode (m_C mR_isDots) 44 = .ok (.iconst 0, 1) := by decide +kernel
theorem dR_isDots_45 : decode (m_C mR_isDots) 45 = .ok (.istore 4, 2) := by decide +kernel
theorem dR_isDots_47 : decode (m_C mR_isDots) 47 = .ok (.iinc 5 1, 3) := by decide +kernel
theorem dR_isDots_50 : decode (m_C mR_isDots) 50 = .ok (.goto (-33), 3) := by decide +kernel
theorem dR_isDots_53 : decode (m_C mR_isDots) 53 = .ok (.iload 4, 2) := by decide +kernel
theorem dR_isDots_55 : decode (m_C mR_isDots) 55 = .ok (.ireturn, 1) := by decide +kernel
theorem dR_entry_0 : decode (m_C mR_entry) 0 = .ok (.iconst 1, 1) := by decide +kernel
theorem dR_entry_1 : decode (m_C mR_entry) 1 = .ok (.istore 4, 2) := by decide +kernel
theorem dR_entry_3 : decode (m_C mR_entry) 3 = .ok (.iload 4, 2) := by decide +kernel
theorem dR_entry_5 : decode (m_C mR_entry) 5 = .ok (.sipush 300, 3) := by decide +kernel
theorem dR_entry_8 : decode (m_C mR_entry) 8 = .ok (.if_icmp .ge 110, 3) := by decide +kernel
theorem dR_entry_11 : decode (m_C mR_entry) 11 = .ok (.aload_n 0, 1) := by decide +kernel
theorem dR_entry_12 : decode (m_C mR_entry) 12 = .ok (.getfield 13, 3) := by decide +kernel
theorem dR_entry_15 : decode (m_C mR_entry) 15 = .ok (.iload 4, 2) := by decide +kernel
theorem dR_entry_17 : decode (m_C mR_entry) 17 = .ok (.iaload, 1) := by decide +kernel
theorem dR_entry_18 : decode (m_C mR_entry) 18 = .ok (.ifCond .eq 31, 3) := by decide +kernel
theorem dR_entry_21 : decode (m_C mR_entry) 21 = .ok (.aload_n 0, 1) := by decide +kernel
theorem dR_entry_22 : decode (m_C mR_entry) 22 = .ok (.getfield 16, 3) := by decide +kernel
theorem dR_entry_25 : decode (m_C mR_entry) 25 = .ok (.iload 4, 2) := by decide +kernel
theorem dR_entry_27 : decode (m_C mR_entry) 27 = .ok (.iaload, 1) := by decide +kernel
theorem dR_entry_28 : decode (m_C mR_entry) 28 = .ok (.iload_n 1, 1) := by decide +kernel
theorem dR_entry_29 : decode (m_C mR_entry) 29 = .ok (.if_icmp .ne 20, 3) := by decide +kernel
theorem dR_entry_32 : decode (m_C mR_entry) 32 = .ok (.aload_n 0, 1) := by decide +kernel
theorem dR_entry_33 : decode (m_C mR_entry) 33 = .ok (.getfield 22, 3) := by decide +kernel
theorem dR_entry_36 : decode (m_C mR_entry) 36 = .ok (.iload 4, 2) := by decide +kernel
theorem dR_entry_38 : decode (m_C mR_entry) 38 = .ok (.iaload, 1) := by decide +kernel
theorem dR_entry_39 : decode (m_C mR_entry) 39 = .ok (.iload_n 3, 1) := by decide +kernel
theorem dR_entry_40 : decode (m_C mR_entry) 40 = .ok (.iload_n 2, 1) := by decide +kernel
theorem dR_entry_41 : decode (m_C mR_entry) 41 = .ok (.isub, 1) := by decide +kernel
theorem dR_entry_42 : decode (m_C mR_entry) 42 = .ok (.if_icmp .ne 7, 3) := by decide +kernel
theorem dR_entry_45 : decode (m_C mR_entry) 45 = .ok (.iconst 1, 1) := by decide +kernel
theorem dR_entry_46 : decode (m_C mR_entry) 46 = .ok (.goto 4, 3) := by decide +kernel
theorem dR_entry_49 : decode (m_C mR_entry) 49 = .ok (.iconst 0, 1) := by decide +kernel
theorem dR_entry_50 : decode (m_C mR_entry) 50 = .ok (.istore 5, 2) := by decide +kernel
theorem dR_entry_52 : decode (m_C mR_entry) 52 = .ok (.iload_n 2, 1) := by decide +kernel
theorem dR_entry_53 : decode (m_C mR_entry) 53 = .ok (.istore 6, 2) := by decide +kernel
theorem dR_entry_55 : decode (m_C mR_entry) 55 = .ok (.iload 6, 2) := by decide +kernel
theorem dR_entry_57 : decode (m_C mR_entry) 57 = .ok (.iload_n 3, 1) := by decide +kernel
theorem dR_entry_58 : decode (m_C mR_entry) 58 = .ok (.if_icmp .ge 46, 3) := by decide +kernel
theorem dR_entry_61 : decode (m_C mR_entry) 61 = .ok (.iload 5, 2) := by decide +kernel
theorem dR_entry_63 : decode (m_C mR_entry) 63 = .ok (.ifCond .eq 41, 3) := by decide +kernel
theorem dR_entry_66 : decode (m_C mR_entry) 66 = .ok (.aload_n 0, 1) := by decide +kernel
theorem dR_entry_67 : decode (m_C mR_entry) 67 = .ok (.getfield 25, 3) := by decide +kernel
theorem dR_entry_70 : decode (m_C mR_entry) 70 = .ok (.bipush 60, 2) := by decide +kernel
theorem dR_entry_72 : decode (m_C mR_entry) 72 = .ok (.iload 4, 2) := by decide +kernel
theorem dR_entry_74 : decode (m_C mR_entry) 74 = .ok (.imul, 1) := by decide +kernel
theorem dR_entry_75 : decode (m_C mR_entry) 75 = .ok (.iload 6, 2) := by decide +kernel
theorem dR_entry_77 : decode (m_C mR_entry) 77 = .ok (.iadd, 1) := by decide +kernel
theorem dR_entry_78 : decode (m_C mR_entry) 78 = .ok (.iload_n 2, 1) := by decide +kernel
theorem dR_entry_79 : decode (m_C mR_entry) 79 = .ok (.isub, 1) := by decide +kernel
theorem dR_entry_80 : decode (m_C mR_entry) 80 = .ok (.iaload, 1) := by decide +kernel
theorem dR_entry_81 : decode (m_C mR_entry) 81 = .ok (.aload_n 0, 1) := by decide +kernel
theorem dR_entry_82 : decode (m_C mR_entry) 82 = .ok (.getfield 7, 3) := by decide +kernel
theorem dR_entry_85 : decode (m_C mR_entry) 85 = .ok (.iload 6, 2) := by decide +kernel
theorem dR_entry_87 : decode (m_C mR_entry) 87 = .ok (.iaload, 1) := by decide +kernel
theorem dR_entry_88 : decode (m_C mR_entry) 88 = .ok (.if_icmp .ne 7, 3) := by decide +kernel
theorem dR_entry_91 : decode (m_C mR_entry) 91 = .ok (.iconst 1, 1) := by decide +kernel
theorem dR_entry_92 : decode (m_C mR_entry) 92 = .ok (.goto 4, 3) := by decide +kernel
theorem dR_entry_95 : decode (m_C mR_entry) 95 = .ok (.iconst 0, 1) := by decide +kernel
theorem dR_entry_96 : decode (m_C mR_entry) 96 = .ok (.istore 5, 2) := by decide +kernel
theorem dR_entry_98 : decode (m_C mR_entry) 98 = .ok (.iinc 6 1, 3) := by decide +kernel
theorem dR_entry_101 : decode (m_C mR_entry) 101 = .ok (.goto (-46), 3) := by decide +kernel
theorem dR_entry_104 : decode (m_C mR_entry) 104 = .ok (.iload 5, 2) := by decide +kernel
theorem dR_entry_106 : decode (m_C mR_entry) 106 = .ok (.ifCond .eq 6, 3) := by decide +kernel
theorem dR_entry_109 : decode (m_C mR_entry) 109 = .ok (.iload 4, 2) := by decide +kernel
theorem dR_entry_111 : decode (m_C mR_entry) 111 = .ok (.ireturn, 1) := by decide +kernel
theorem dR_entry_112 : decode (m_C mR_entry) 112 = .ok (.iinc 4 1, 3) := by decide +kernel
theorem dR_entry_115 : decode (m_C mR_entry) 115 = .ok (.goto (-112), 3) := by decide +kernel
theorem dR_entry_118 : decode (m_C mR_entry) 118 = .ok (.iconst (-1), 1) := by decide +kernel
theorem dR_entry_119 : decode (m_C mR_entry) 119 = .ok (.ireturn, 1) := by decide +kernel
theorem dR_make_0 : decode (m_C mR_make) 0 = .ok (.aload_n 0, 1) := by decide +kernel
theorem dR_make_1 : decode (m_C mR_make) 1 = .ok (.aload_n 0, 1) := by decide +kernel
theorem dR_make_2 : decode (m_C mR_make) 2 = .ok (.getfield 44, 3) := by decide +kernel
theorem dR_make_5 : decode (m_C mR_make) 5 = .ok (.invokevirtual 65, 3) := by decide +kernel
theorem dR_make_8 : decode (m_C mR_make) 8 = .ok (.ifCond .ge 15, 3) := by decide +kernel
theorem dR_make_11 : decode (m_C mR_make) 11 = .ok (.aload_n 0, 1) := by decide +kernel
theorem dR_make_12 : decode (m_C mR_make) 12 = .ok (.iconst 2, 1) := by decide +kernel
theorem dR_make_13 : decode (m_C mR_make) 13 = .ok (.invokevirtual 80, 3) := by decide +kernel
theorem dR_make_16 : decode (m_C mR_make) 16 = .ok (.ifCond .lt 7, 3) := by decide +kernel
theorem dR_make_19 : decode (m_C mR_make) 19 = .ok (.iconst 1, 1) := by decide +kernel
theorem dR_make_20 : decode (m_C mR_make) 20 = .ok (.goto 4, 3) := by decide +kernel
theorem dR_make_23 : decode (m_C mR_make) 23 = .ok (.iconst 0, 1) := by decide +kernel
theorem dR_make_24 : decode (m_C mR_make) 24 = .ok (.istore_n 1, 1) := by decide +kernel
theorem dR_make_25 : decode (m_C mR_make) 25 = .ok (.aload_n 0, 1) := by decide +kernel
theorem dR_make_26 : decode (m_C mR_make) 26 = .ok (.iconst 0, 1) := by decide +kernel
theorem dR_make_27 : decode (m_C mR_make) 27 = .ok (.putfield 44, 3) := by decide +kernel
theorem dR_make_30 : decode (m_C mR_make) 30 = .ok (.iload_n 1, 1) := by decide +kernel
theorem dR_make_31 : decode (m_C mR_make) 31 = .ok (.ireturn, 1) := by decide +kernel
theorem dR_made_0 : decode (m_C mR_made) 0 = .ok (.aload_n 0, 1) := by decide +kernel
theorem dR_made_1 : decode (m_C mR_made) 1 = .ok (.invokevirtual 69, 3) := by decide +kernel
theorem dR_made_4 : decode (m_C mR_made) 4 = .ok (.istore_n 2, 1) := by decide +kernel
theorem dR_made_5 : decode (m_C mR_made) 5 = .ok (.iload_n 2, 1) := by decide +kernel
theorem dR_made_6 : decode (m_C mR_made) 6 = .ok (.ifCond .lt 36, 3) := by decide +kernel
theorem dR_made_9 : decode (m_C mR_made) 9 = .ok (.aload_n 0, 1) := by decide +kernel
theorem dR_made_10 : decode (m_C mR_made) 10 = .ok (.invokevirtual 72, 3) := by decide +kernel
theorem dR_made_13 : decode (m_C mR_made) 13 = .ok (.ifCond .eq 29, 3) := by decide +kernel
theorem dR_made_16 : decode (m_C mR_made) 16 = .ok (.aload_n 0, 1) := by decide +kernel
theorem dR_made_17 : decode (m_C mR_made) 17 = .ok (.getfield 28, 3) := by decide +kernel
theorem dR_made_20 : decode (m_C mR_made) 20 = .ok (.sipush 300, 3) := by decide +kernel
theorem dR_made_23 : decode (m_C mR_made) 23 = .ok (.if_icmp .eq 19, 3) := by decide +kernel
theorem dR_made_26 : decode (m_C mR_made) 26 = .ok (.aload_n 0, 1) := by decide +kernel
theorem dR_made_27 : decode (m_C mR_made) 27 = .ok (.iload_n 2, 1) := by decide +kernel
theorem dR_made_28 : decode (m_C mR_made) 28 = .ok (.aload_n 0, 1) := by decide +kernel
theorem dR_made_29 : decode (m_C mR_made) 29 = .ok (.invokevirtual 61, 3) := by decide +kernel
theorem dR_made_32 : decode (m_C mR_made) 32 = .ok (.aload_n 0, 1) := by decide +kernel
theorem dR_made_33 : decode (m_C mR_made) 33 = .ok (.getfield 44, 3) := by decide +kernel
theorem dR_made_36 : decode (m_C mR_made) 36 = .ok (.invokevirtual 51, 3) := by decide +kernel
theorem dR_made_39 : decode (m_C mR_made) 39 = .ok (.ifCond .lt 5, 3) := by decide +kernel
theorem dR_made_42 : decode (m_C mR_made) 42 = .ok (.iconst (-1), 1) := by decide +kernel
theorem dR_made_43 : decode (m_C mR_made) 43 = .ok (.ireturn, 1) := by decide +kernel
theorem dR_made_44 : decode (m_C mR_made) 44 = .ok (.iconst 1, 1) := by decide +kernel
theorem dR_made_45 : decode (m_C mR_made) 45 = .ok (.istore_n 3, 1) := by decide +kernel
theorem dR_made_46 : decode (m_C mR_made) 46 = .ok (.aload_n 0, 1) := by decide +kernel
theorem dR_made_47 : decode (m_C mR_made) 47 = .ok (.getfield 13, 3) := by decide +kernel
theorem dR_made_50 : decode (m_C mR_made) 50 = .ok (.iload_n 3, 1) := by decide +kernel
theorem dR_made_51 : decode (m_C mR_made) 51 = .ok (.iaload, 1) := by decide +kernel
