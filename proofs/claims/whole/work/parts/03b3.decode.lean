theorem dD_link_1 : decode (m_C mD_link) 1 = .ok (.ifnonnull 11, 3) := by decide +kernel
theorem dD_link_4 : decode (m_C mD_link) 4 = .ok (.aload_n 0, 1) := by decide +kernel
theorem dD_link_5 : decode (m_C mD_link) 5 = .ok (.aload_n 2, 1) := by decide +kernel
theorem dD_link_6 : decode (m_C mD_link) 6 = .ok (.putfield 7, 3) := by decide +kernel
theorem dD_link_9 : decode (m_C mD_link) 9 = .ok (.goto 8, 3) := by decide +kernel
theorem dD_link_12 : decode (m_C mD_link) 12 = .ok (.aload_n 1, 1) := by decide +kernel
theorem dD_link_13 : decode (m_C mD_link) 13 = .ok (.aload_n 2, 1) := by decide +kernel
theorem dD_link_14 : decode (m_C mD_link) 14 = .ok (.putfield 21, 3) := by decide +kernel
theorem dD_link_17 : decode (m_C mD_link) 17 = .ok (.return_, 1) := by decide +kernel
theorem dP_go_0 : decode (m_C mP_go) 0 = .ok (.aload_n 0, 1) := by decide +kernel
theorem dP_go_1 : decode (m_C mP_go) 1 = .ok (.invokevirtual 57, 3) := by decide +kernel
theorem dP_go_4 : decode (m_C mP_go) 4 = .ok (.astore_n 1, 1) := by decide +kernel
theorem dP_go_5 : decode (m_C mP_go) 5 = .ok (.aload_n 0, 1) := by decide +kernel
theorem dP_go_6 : decode (m_C mP_go) 6 = .ok (.getfield 10, 3) := by decide +kernel
theorem dP_go_9 : decode (m_C mP_go) 9 = .ok (.invokevirtual 61, 3) := by decide +kernel
theorem dP_go_12 : decode (m_C mP_go) 12 = .ok (.aload_n 1, 1) := by decide +kernel
theorem dP_go_13 : decode (m_C mP_go) 13 = .ok (.instanceof 16, 3) := by decide +kernel
theorem dP_go_16 : decode (m_C mP_go) 16 = .ok (.ifCond .eq 15, 3) := by decide +kernel
theorem dP_go_19 : decode (m_C mP_go) 19 = .ok (.aload_n 1, 1) := by decide +kernel
theorem dP_go_20 : decode (m_C mP_go) 20 = .ok (.checkcast 16, 3) := by decide +kernel
theorem dP_go_23 : decode (m_C mP_go) 23 = .ok (.astore_n 2, 1) := by decide +kernel
theorem dP_go_24 : decode (m_C mP_go) 24 = .ok (.aload_n 0, 1) := by decide +kernel
theorem dP_go_25 : decode (m_C mP_go) 25 = .ok (.aload_n 2, 1) := by decide +kernel
theorem dP_go_26 : decode (m_C mP_go) 26 = .ok (.putfield 25, 3) := by decide +kernel
theorem dP_go_29 : decode (m_C mP_go) 29 = .ok (.iconst 1, 1) := by decide +kernel
theorem dP_go_30 : decode (m_C mP_go) 30 = .ok (.ireturn, 1) := by decide +kernel
theorem dP_go_31 : decode (m_C mP_go) 31 = .ok (.iconst 0, 1) := by decide +kernel
theorem dP_go_32 : decode (m_C mP_go) 32 = .ok (.ireturn, 1) := by decide +kernel
theorem dP_open_0 : decode (m_C mP_open) 0 = .ok (.aload_n 0, 1) := by decide +kernel
theorem dP_open_1 : decode (m_C mP_open) 1 = .ok (.invokevirtual 57, 3) := by decide +kernel
theorem dP_open_4 : decode (m_C mP_open) 4 = .ok (.astore_n 1, 1) := by decide +kernel
theorem dP_open_5 : decode (m_C mP_open) 5 = .ok (.aload_n 0, 1) := by decide +kernel
theorem dP_open_6 : decode (m_C mP_open) 6 = .ok (.aconst_null, 1) := by decide +kernel
theorem dP_open_7 : decode (m_C mP_open) 7 = .ok (.putfield 28, 3) := by decide +kernel
theorem dP_open_10 : decode (m_C mP_open) 10 = .ok (.aload_n 1, 1) := by decide +kernel
theorem dP_open_11 : decode (m_C mP_open) 11 = .ok (.instanceof 76, 3) := by decide +kernel
theorem dP_open_14 : decode (m_C mP_open) 14 = .ok (.ifCond .eq 16, 3) := by decide +kernel
theorem dP_open_17 : decode (m_C mP_open) 17 = .ok (.aload_n 1, 1) := by decide +kernel
theorem dP_open_18 : decode (m_C mP_open) 18 = .ok (.checkcast 76, 3) := by decide +kernel
theorem dP_open_21 : decode (m_C mP_open) 21 = .ok (.astore_n 2, 1) := by decide +kernel
theorem dP_open_22 : decode (m_C mP_open) 22 = .ok (.aload_n 0, 1) := by decide +kernel
theorem dP_open_23 : decode (m_C mP_open) 23 = .ok (.aload_n 2, 1) := by decide +kernel
theorem dP_open_24 : decode (m_C mP_open) 24 = .ok (.putfield 28, 3) := by decide +kernel
theorem dP_open_27 : decode (m_C mP_open) 27 = .ok (.goto 29, 3) := by decide +kernel
theorem dP_open_30 : decode (m_C mP_open) 30 = .ok (.aload_n 1, 1) := by decide +kernel
theorem dP_open_31 : decode (m_C mP_open) 31 = .ok (.ifnonnull 25, 3) := by decide +kernel
theorem dP_open_34 : decode (m_C mP_open) 34 = .ok (.aload_n 0, 1) := by decide +kernel
theorem dP_open_35 : decode (m_C mP_open) 35 = .ok (.invokevirtual 64, 3) := by decide +kernel
theorem dP_open_38 : decode (m_C mP_open) 38 = .ok (.astore_n 3, 1) := by decide +kernel
theorem dP_open_39 : decode (m_C mP_open) 39 = .ok (.aload_n 0, 1) := by decide +kernel
theorem dP_open_40 : decode (m_C mP_open) 40 = .ok (.aload_n 3, 1) := by decide +kernel
theorem dP_open_41 : decode (m_C mP_open) 41 = .ok (.ifnonnull 7, 3) := by decide +kernel
theorem dP_open_44 : decode (m_C mP_open) 44 = .ok (.aconst_null, 1) := by decide +kernel
theorem dP_open_45 : decode (m_C mP_open) 45 = .ok (.goto 8, 3) := by decide +kernel
theorem dP_open_48 : decode (m_C mP_open) 48 = .ok (.aload_n 0, 1) := by decide +kernel
theorem dP_open_49 : decode (m_C mP_open) 49 = .ok (.aload_n 3, 1) := by decide +kernel
theorem dP_open_50 : decode (m_C mP_open) 50 = .ok (.invokevirtual 78, 3) := by decide +kernel
theorem dP_open_53 : decode (m_C mP_open) 53 = .ok (.putfield 28, 3) := by decide +kernel
theorem dP_open_56 : decode (m_C mP_open) 56 = .ok (.aload_n 0, 1) := by decide +kernel
theorem dP_open_57 : decode (m_C mP_open) 57 = .ok (.getfield 10, 3) := by decide +kernel
theorem dP_open_60 : decode (m_C mP_open) 60 = .ok (.invokevirtual 61, 3) := by decide +kernel
theorem dP_open_63 : decode (m_C mP_open) 63 = .ok (.aload_n 0, 1) := by decide +kernel
theorem dP_open_64 : decode (m_C mP_open) 64 = .ok (.getfield 28, 3) := by decide +kernel
theorem dP_open_67 : decode (m_C mP_open) 67 = .ok (.ifnull 7, 3) := by decide +kernel
theorem dP_open_70 : decode (m_C mP_open) 70 = .ok (.iconst 1, 1) := by decide +kernel
theorem dP_open_71 : decode (m_C mP_open) 71 = .ok (.goto 4, 3) := by decide +kernel
theorem dP_open_74 : decode (m_C mP_open) 74 = .ok (.iconst 0, 1) := by decide +kernel
theorem dP_open_75 : decode (m_C mP_open) 75 = .ok (.ireturn, 1) := by decide +kernel
theorem dP_newFile_0 : decode (m_C mP_newFile) 0 = .ok (.new 76, 3) := by decide +kernel
theorem dP_newFile_3 : decode (m_C mP_newFile) 3 = .ok (.dup, 1) := by decide +kernel
theorem dP_newFile_4 : decode (m_C mP_newFile) 4 = .ok (.aload_n 0, 1) := by decide +kernel
theorem dP_newFile_5 : decode (m_C mP_newFile) 5 = .ok (.getfield 10, 3) := by decide +kernel
theorem dP_newFile_8 : decode (m_C mP_newFile) 8 = .ok (.invokevirtual 68, 3) := by decide +kernel
theorem dP_newFile_11 : decode (m_C mP_newFile) 11 = .ok (.invokespecial 169, 3) := by decide +kernel
theorem dP_newFile_14 : decode (m_C mP_newFile) 14 = .ok (.astore_n 2, 1) := by decide +kernel
theorem dP_newFile_15 : decode (m_C mP_newFile) 15 = .ok (.aload_n 1, 1) := by decide +kernel
theorem dP_newFile_16 : decode (m_C mP_newFile) 16 = .ok (.aload_n 2, 1) := by decide +kernel
theorem dP_newFile_17 : decode (m_C mP_newFile) 17 = .ok (.invokevirtual 72, 3) := by decide +kernel
theorem dP_newFile_20 : decode (m_C mP_newFile) 20 = .ok (.aload_n 0, 1) := by decide +kernel
theorem dP_newFile_21 : decode (m_C mP_newFile) 21 = .ok (.dup, 1) := by decide +kernel
theorem dP_newFile_22 : decode (m_C mP_newFile) 22 = .ok (.getfield 32, 3) := by decide +kernel
theorem dP_newFile_25 : decode (m_C mP_newFile) 25 = .ok (.iconst 1, 1) := by decide +kernel
theorem dP_newFile_26 : decode (m_C mP_newFile) 26 = .ok (.iadd, 1) := by decide +kernel
theorem dP_newFile_27 : decode (m_C mP_newFile) 27 = .ok (.putfield 32, 3) := by decide +kernel
theorem dP_newFile_30 : decode (m_C mP_newFile) 30 = .ok (.aload_n 2, 1) := by decide +kernel
theorem dP_newFile_31 : decode (m_C mP_newFile) 31 = .ok (.areturn, 1) := by decide +kernel
theorem dF_init_0 : decode (m_C mF_init) 0 = .ok (.aload_n 0, 1) := by decide +kernel
theorem dF_init_1 : decode (m_C mF_init) 1 = .ok (.aload_n 1, 1) := by decide +kernel
theorem dF_init_2 : decode (m_C mF_init) 2 = .ok (.invokespecial 3, 3) := by decide +kernel
theorem dF_init_5 : decode (m_C mF_init) 5 = .ok (.aload_n 0, 1) := by decide +kernel
theorem dF_init_6 : decode (m_C mF_init) 6 = .ok (.bipush 16, 2) := by decide +kernel
theorem dF_init_8 : decode (m_C mF_init) 8 = .ok (.newarray .byte, 2) := by decide +kernel
theorem dF_init_10 : decode (m_C mF_init) 10 = .ok (.putfield 11, 3) := by decide +kernel
theorem dF_init_13 : decode (m_C mF_init) 13 = .ok (.aload_n 0, 1) := by decide +kernel
theorem dF_init_14 : decode (m_C mF_init) 14 = .ok (.iconst 0, 1) := by decide +kernel
theorem dF_init_15 : decode (m_C mF_init) 15 = .ok (.putfield 15, 3) := by decide +kernel
theorem dF_init_18 : decode (m_C mF_init) 18 = .ok (.return_, 1) := by decide +kernel
theorem dP_empty_0 : decode (m_C mP_empty) 0 = .ok (.aload_n 0, 1) := by decide +kernel
theorem dP_empty_1 : decode (m_C mP_empty) 1 = .ok (.getfield 28, 3) := by decide +kernel
theorem dP_empty_4 : decode (m_C mP_empty) 4 = .ok (.ifnonnull 5, 3) := by decide +kernel
theorem dP_empty_7 : decode (m_C mP_empty) 7 = .ok (.iconst (-1), 1) := by decide +kernel
theorem dP_empty_8 : decode (m_C mP_empty) 8 = .ok (.ireturn, 1) := by decide +kernel
theorem dP_empty_9 : decode (m_C mP_empty) 9 = .ok (.aload_n 0, 1) := by decide +kernel
theorem dP_empty_10 : decode (m_C mP_empty) 10 = .ok (.getfield 28, 3) := by decide +kernel
theorem dP_empty_13 : decode (m_C mP_empty) 13 = .ok (.getfield 82, 3) := by decide +kernel
theorem dP_empty_16 : decode (m_C mP_empty) 16 = .ok (.istore_n 1, 1) := by decide +kernel
theorem dP_empty_17 : decode (m_C mP_empty) 17 = .ok (.aload_n 0, 1) := by decide +kernel
theorem dP_empty_18 : decode (m_C mP_empty) 18 = .ok (.aload_n 0, 1) := by decide +kernel
theorem dP_empty_19 : decode (m_C mP_empty) 19 = .ok (.getfield 28, 3) := by decide +kernel
theorem dP_empty_22 : decode (m_C mP_empty) 22 = .ok (.invokevirtual 83, 3) := by decide +kernel
theorem dP_empty_25 : decode (m_C mP_empty) 25 = .ok (.iload_n 1, 1) := by decide +kernel
theorem dP_empty_26 : decode (m_C mP_empty) 26 = .ok (.ireturn, 1) := by decide +kernel
theorem dP_dropBytes_0 : decode (m_C mP_dropBytes) 0 = .ok (.aload_n 0, 1) := by decide +kernel
theorem dP_dropBytes_1 : decode (m_C mP_dropBytes) 1 = .ok (.dup, 1) := by decide +kernel
theorem dP_dropBytes_2 : decode (m_C mP_dropBytes) 2 = .ok (.getfield 39, 3) := by decide +kernel
theorem dP_dropBytes_5 : decode (m_C mP_dropBytes) 5 = .ok (.aload_n 1, 1) := by decide +kernel
theorem dP_dropBytes_6 : decode (m_C mP_dropBytes) 6 = .ok (.getfield 82, 3) := by decide +kernel
theorem dP_dropBytes_9 : decode (m_C mP_dropBytes) 9 = .ok (.isub, 1) := by decide +kernel
theorem dP_dropBytes_10 : decode (m_C mP_dropBytes) 10 = .ok (.putfield 39, 3) := by decide +kernel
theorem dP_dropBytes_13 : decode (m_C mP_dropBytes) 13 = .ok (.aload_n 1, 1) := by decide +kernel
theorem dP_dropBytes_14 : decode (m_C mP_dropBytes) 14 = .ok (.iconst 0, 1) := by decide +kernel
theorem dP_dropBytes_15 : decode (m_C mP_dropBytes) 15 = .ok (.putfield 82, 3) := by decide +kernel
theorem dP_dropBytes_18 : decode (m_C mP_dropBytes) 18 = .ok (.return_, 1) := by decide +kernel
theorem dP_write_0 : decode (m_C mP_write) 0 = .ok (.aload_n 0, 1) := by decide +kernel
theorem dP_write_1 : decode (m_C mP_write) 1 = .ok (.getfield 28, 3) := by decide +kernel
theorem dP_write_4 : decode (m_C mP_write) 4 = .ok (.ifnull 10, 3) := by decide +kernel
theorem dP_write_7 : decode (m_C mP_write) 7 = .ok (.iload_n 3, 1) := by decide +kernel
theorem dP_write_8 : decode (m_C mP_write) 8 = .ok (.invokestatic 42, 3) := by decide +kernel
theorem dP_write_11 : decode (m_C mP_write) 11 = .ok (.ifCond .ne 5, 3) := by decide +kernel
theorem dP_write_14 : decode (m_C mP_write) 14 = .ok (.iconst (-1), 1) := by decide +kernel
theorem dP_write_15 : decode (m_C mP_write) 15 = .ok (.ireturn, 1) := by decide +kernel
theorem dP_write_16 : decode (m_C mP_write) 16 = .ok (.aload_n 0, 1) := by decide +kernel
theorem dP_write_17 : decode (m_C mP_write) 17 = .ok (.getfield 28, 3) := by decide +kernel
theorem dP_write_20 : decode (m_C mP_write) 20 = .ok (.getfield 87, 3) := by decide +kernel
theorem dP_write_23 : decode (m_C mP_write) 23 = .ok (.ifnull 69, 3) := by decide +kernel
theorem dP_write_26 : decode (m_C mP_write) 26 = .ok (.iload_n 3, 1) := by decide +kernel
theorem dP_write_27 : decode (m_C mP_write) 27 = .ok (.aload_n 0, 1) := by decide +kernel
theorem dP_write_28 : decode (m_C mP_write) 28 = .ok (.getfield 28, 3) := by decide +kernel
theorem dP_write_31 : decode (m_C mP_write) 31 = .ok (.invokevirtual 90, 3) := by decide +kernel
theorem dP_write_34 : decode (m_C mP_write) 34 = .ok (.ldc 94, 2) := by decide +kernel
theorem dP_write_36 : decode (m_C mP_write) 36 = .ok (.aload_n 0, 1) := by decide +kernel
theorem dP_write_37 : decode (m_C mP_write) 37 = .ok (.getfield 39, 3) := by decide +kernel
theorem dP_write_40 : decode (m_C mP_write) 40 = .ok (.isub, 1) := by decide +kernel
theorem dP_write_41 : decode (m_C mP_write) 41 = .ok (.invokestatic 95, 3) := by decide +kernel
theorem dP_write_44 : decode (m_C mP_write) 44 = .ok (.invokestatic 95, 3) := by decide +kernel
theorem dP_write_47 : decode (m_C mP_write) 47 = .ok (.istore 4, 2) := by decide +kernel
theorem dP_write_49 : decode (m_C mP_write) 49 = .ok (.iconst 0, 1) := by decide +kernel
theorem dP_write_50 : decode (m_C mP_write) 50 = .ok (.istore 5, 2) := by decide +kernel
theorem dP_write_52 : decode (m_C mP_write) 52 = .ok (.iload 5, 2) := by decide +kernel
theorem dP_write_54 : decode (m_C mP_write) 54 = .ok (.iload 4, 2) := by decide +kernel
theorem dP_write_56 : decode (m_C mP_write) 56 = .ok (.if_icmp .ge 36, 3) := by decide +kernel
theorem dP_write_59 : decode (m_C mP_write) 59 = .ok (.aload_n 0, 1) := by decide +kernel
theorem dP_write_60 : decode (m_C mP_write) 60 = .ok (.getfield 28, 3) := by decide +kernel
theorem dP_write_63 : decode (m_C mP_write) 63 = .ok (.lload_n 1, 1) := by decide +kernel
theorem dP_write_64 : decode (m_C mP_write) 64 = .ok (.iload_n 3, 1) := by decide +kernel
theorem dP_write_65 : decode (m_C mP_write) 65 = .ok (.iconst 1, 1) := by decide +kernel
theorem dP_write_66 : decode (m_C mP_write) 66 = .ok (.isub, 1) := by decide +kernel
theorem dP_write_67 : decode (m_C mP_write) 67 = .ok (.iload 5, 2) := by decide +kernel
theorem dP_write_69 : decode (m_C mP_write) 69 = .ok (.isub, 1) := by decide +kernel
theorem dP_write_70 : decode (m_C mP_write) 70 = .ok (.invokestatic 101, 3) := by decide +kernel
theorem dP_write_73 : decode (m_C mP_write) 73 = .ok (.invokevirtual 105, 3) := by decide +kernel
theorem dP_write_76 : decode (m_C mP_write) 76 = .ok (.aload_n 0, 1) := by decide +kernel
theorem dP_write_77 : decode (m_C mP_write) 77 = .ok (.dup, 1) := by decide +kernel
theorem dP_write_78 : decode (m_C mP_write) 78 = .ok (.getfield 39, 3) := by decide +kernel
theorem dP_write_81 : decode (m_C mP_write) 81 = .ok (.iconst 1, 1) := by decide +kernel
theorem dP_write_82 : decode (m_C mP_write) 82 = .ok (.iadd, 1) := by decide +kernel
theorem dP_write_83 : decode (m_C mP_write) 83 = .ok (.putfield 39, 3) := by decide +kernel
theorem dP_write_86 : decode (m_C mP_write) 86 = .ok (.iinc 5 1, 3) := by decide +kernel
theorem dP_write_89 : decode (m_C mP_write) 89 = .ok (.goto (-37), 3) := by decide +kernel
theorem dP_write_92 : decode (m_C mP_write) 92 = .ok (.aload_n 0, 1) := by decide +kernel
theorem dP_write_93 : decode (m_C mP_write) 93 = .ok (.getfield 28, 3) := by decide +kernel
theorem dP_write_96 : decode (m_C mP_write) 96 = .ok (.getfield 82, 3) := by decide +kernel
theorem dP_write_99 : decode (m_C mP_write) 99 = .ok (.ireturn, 1) := by decide +kernel
theorem dF_room_0 : decode (m_C mF_room) 0 = .ok (.sipush 16384, 3) := by decide +kernel
theorem dF_room_3 : decode (m_C mF_room) 3 = .ok (.aload_n 0, 1) := by decide +kernel
theorem dF_room_4 : decode (m_C mF_room) 4 = .ok (.getfield 15, 3) := by decide +kernel
theorem dF_room_7 : decode (m_C mF_room) 7 = .ok (.isub, 1) := by decide +kernel
theorem dF_room_8 : decode (m_C mF_room) 8 = .ok (.ireturn, 1) := by decide +kernel
theorem dF_append_0 : decode (m_C mF_append) 0 = .ok (.aload_n 0, 1) := by decide +kernel
theorem dF_append_1 : decode (m_C mF_append) 1 = .ok (.getfield 15, 3) := by decide +kernel
theorem dF_append_4 : decode (m_C mF_append) 4 = .ok (.sipush 16384, 3) := by decide +kernel
theorem dF_append_7 : decode (m_C mF_append) 7 = .ok (.if_icmp .lt 4, 3) := by decide +kernel
theorem dF_append_10 : decode (m_C mF_append) 10 = .ok (.return_, 1) := by decide +kernel
theorem dF_append_11 : decode (m_C mF_append) 11 = .ok (.aload_n 0, 1) := by decide +kernel
theorem dF_append_12 : decode (m_C mF_append) 12 = .ok (.getfield 15, 3) := by decide +kernel
theorem dF_append_15 : decode (m_C mF_append) 15 = .ok (.aload_n 0, 1) := by decide +kernel
theorem dF_append_16 : decode (m_C mF_append) 16 = .ok (.getfield 11, 3) := by decide +kernel
theorem dF_append_19 : decode (m_C mF_append) 19 = .ok (.arraylength, 1) := by decide +kernel
theorem dF_append_20 : decode (m_C mF_append) 20 = .ok (.if_icmp .lt 21, 3) := by decide +kernel
theorem dF_append_23 : decode (m_C mF_append) 23 = .ok (.aload_n 0, 1) := by decide +kernel
theorem dF_append_24 : decode (m_C mF_append) 24 = .ok (.aload_n 0, 1) := by decide +kernel
theorem dF_append_25 : decode (m_C mF_append) 25 = .ok (.getfield 11, 3) := by decide +kernel
theorem dF_append_28 : decode (m_C mF_append) 28 = .ok (.iconst 2, 1) := by decide +kernel
theorem dF_append_29 : decode (m_C mF_append) 29 = .ok (.aload_n 0, 1) := by decide +kernel
theorem dF_append_30 : decode (m_C mF_append) 30 = .ok (.getfield 11, 3) := by decide +kernel
theorem dF_append_33 : decode (m_C mF_append) 33 = .ok (.arraylength, 1) := by decide +kernel
theorem dF_append_34 : decode (m_C mF_append) 34 = .ok (.imul, 1) := by decide +kernel
theorem dF_append_35 : decode (m_C mF_append) 35 = .ok (.invokestatic 19, 3) := by decide +kernel
theorem dF_append_38 : decode (m_C mF_append) 38 = .ok (.putfield 11, 3) := by decide +kernel
theorem dF_append_41 : decode (m_C mF_append) 41 = .ok (.aload_n 0, 1) := by decide +kernel
theorem dF_append_42 : decode (m_C mF_append) 42 = .ok (.getfield 11, 3) := by decide +kernel
theorem dF_append_45 : decode (m_C mF_append) 45 = .ok (.aload_n 0, 1) := by decide +kernel
theorem dF_append_46 : decode (m_C mF_append) 46 = .ok (.getfield 15, 3) := by decide +kernel
theorem dF_append_49 : decode (m_C mF_append) 49 = .ok (.iload_n 1, 1) := by decide +kernel
theorem dF_append_50 : decode (m_C mF_append) 50 = .ok (.i2b, 1) := by decide +kernel
theorem dF_append_51 : decode (m_C mF_append) 51 = .ok (.bastore, 1) := by decide +kernel
theorem dF_append_52 : decode (m_C mF_append) 52 = .ok (.aload_n 0, 1) := by decide +kernel
theorem dF_append_53 : decode (m_C mF_append) 53 = .ok (.dup, 1) := by decide +kernel
theorem dF_append_54 : decode (m_C mF_append) 54 = .ok (.getfield 15, 3) := by decide +kernel
theorem dF_append_57 : decode (m_C mF_append) 57 = .ok (.iconst 1, 1) := by decide +kernel
theorem dF_append_58 : decode (m_C mF_append) 58 = .ok (.iadd, 1) := by decide +kernel
theorem dF_append_59 : decode (m_C mF_append) 59 = .ok (.putfield 15, 3) := by decide +kernel
theorem dF_append_62 : decode (m_C mF_append) 62 = .ok (.return_, 1) := by decide +kernel
theorem dJ_copyOf_0 : decode (m_C mJ_copyOf) 0 = .ok (.iload_n 1, 1) := by decide +kernel
theorem dJ_copyOf_1 : decode (m_C mJ_copyOf) 1 = .ok (.aload_n 0, 1) := by decide +kernel
theorem dJ_copyOf_2 : decode (m_C mJ_copyOf) 2 = .ok (.arraylength, 1) := by decide +kernel
theorem dJ_copyOf_3 : decode (m_C mJ_copyOf) 3 = .ok (.if_icmp .ne 11, 3) := by decide +kernel
theorem dJ_copyOf_6 : decode (m_C mJ_copyOf) 6 = .ok (.aload_n 0, 1) := by decide +kernel
theorem dJ_copyOf_7 : decode (m_C mJ_copyOf) 7 = .ok (.invokevirtual 310, 3) := by decide +kernel
theorem dJ_copyOf_10 : decode (m_C mJ_copyOf) 10 = .ok (.checkcast 311, 3) := by decide +kernel
theorem dJ_copyOf_13 : decode (m_C mJ_copyOf) 13 = .ok (.areturn, 1) := by decide +kernel
theorem dJ_copyOf_14 : decode (m_C mJ_copyOf) 14 = .ok (.iload_n 1, 1) := by decide +kernel
theorem dJ_copyOf_15 : decode (m_C mJ_copyOf) 15 = .ok (.newarray .byte, 2) := by decide +kernel
theorem dJ_copyOf_17 : decode (m_C mJ_copyOf) 17 = .ok (.astore_n 2, 1) := by decide +kernel
theorem dJ_copyOf_18 : decode (m_C mJ_copyOf) 18 = .ok (.aload_n 0, 1) := by decide +kernel
theorem dJ_copyOf_19 : decode (m_C mJ_copyOf) 19 = .ok (.iconst 0, 1) := by decide +kernel
theorem dJ_copyOf_20 : decode (m_C mJ_copyOf) 20 = .ok (.aload_n 2, 1) := by decide +kernel
theorem dJ_copyOf_21 : decode (m_C mJ_copyOf) 21 = .ok (.iconst 0, 1) := by decide +kernel
theorem dJ_copyOf_22 : decode (m_C mJ_copyOf) 22 = .ok (.aload_n 0, 1) := by decide +kernel
theorem dJ_copyOf_23 : decode (m_C mJ_copyOf) 23 = .ok (.arraylength, 1) := by decide +kernel
theorem dJ_copyOf_24 : decode (m_C mJ_copyOf) 24 = .ok (.iload_n 1, 1) := by decide +kernel
theorem dJ_copyOf_25 : decode (m_C mJ_copyOf) 25 = .ok (.invokestatic 304, 3) := by decide +kernel
theorem dJ_copyOf_28 : decode (m_C mJ_copyOf) 28 = .ok (.invokestatic 150, 3) := by decide +kernel
theorem dJ_copyOf_31 : decode (m_C mJ_copyOf) 31 = .ok (.aload_n 2, 1) := by decide +kernel
theorem dJ_copyOf_32 : decode (m_C mJ_copyOf) 32 = .ok (.areturn, 1) := by decide +kernel
theorem dP_byteAt_0 : decode (m_C mP_byteAt) 0 = .ok (.aload_n 0, 1) := by decide +kernel
theorem dP_byteAt_1 : decode (m_C mP_byteAt) 1 = .ok (.getfield 28, 3) := by decide +kernel
theorem dP_byteAt_4 : decode (m_C mP_byteAt) 4 = .ok (.ifnonnull 7, 3) := by decide +kernel
theorem dP_byteAt_7 : decode (m_C mP_byteAt) 7 = .ok (.iconst (-1), 1) := by decide +kernel
theorem dP_byteAt_8 : decode (m_C mP_byteAt) 8 = .ok (.goto 11, 3) := by decide +kernel
theorem dP_byteAt_11 : decode (m_C mP_byteAt) 11 = .ok (.aload_n 0, 1) := by decide +kernel
theorem dP_byteAt_12 : decode (m_C mP_byteAt) 12 = .ok (.getfield 28, 3) := by decide +kernel
theorem dP_byteAt_15 : decode (m_C mP_byteAt) 15 = .ok (.iload_n 1, 1) := by decide +kernel
theorem dP_byteAt_16 : decode (m_C mP_byteAt) 16 = .ok (.invokevirtual 108, 3) := by decide +kernel
theorem dP_byteAt_19 : decode (m_C mP_byteAt) 19 = .ok (.ireturn, 1) := by decide +kernel
theorem dF_at_0 : decode (m_C mF_at) 0 = .ok (.iload_n 1, 1) := by decide +kernel
theorem dF_at_1 : decode (m_C mF_at) 1 = .ok (.ifCond .lt 24, 3) := by decide +kernel
theorem dF_at_4 : decode (m_C mF_at) 4 = .ok (.iload_n 1, 1) := by decide +kernel
theorem dF_at_5 : decode (m_C mF_at) 5 = .ok (.aload_n 0, 1) := by decide +kernel
theorem dF_at_6 : decode (m_C mF_at) 6 = .ok (.getfield 15, 3) := by decide +kernel
theorem dF_at_9 : decode (m_C mF_at) 9 = .ok (.if_icmp .ge 16, 3) := by decide +kernel
theorem dF_at_12 : decode (m_C mF_at) 12 = .ok (.aload_n 0, 1) := by decide +kernel
theorem dF_at_13 : decode (m_C mF_at) 13 = .ok (.getfield 11, 3) := by decide +kernel
theorem dF_at_16 : decode (m_C mF_at) 16 = .ok (.iload_n 1, 1) := by decide +kernel
theorem dF_at_17 : decode (m_C mF_at) 17 = .ok (.baload, 1) := by decide +kernel
theorem dF_at_18 : decode (m_C mF_at) 18 = .ok (.sipush 255, 3) := by decide +kernel
theorem dF_at_21 : decode (m_C mF_at) 21 = .ok (.iand, 1) := by decide +kernel
theorem dF_at_22 : decode (m_C mF_at) 22 = .ok (.goto 4, 3) := by decide +kernel
theorem dF_at_25 : decode (m_C mF_at) 25 = .ok (.iconst (-1), 1) := by decide +kernel
theorem dF_at_26 : decode (m_C mF_at) 26 = .ok (.ireturn, 1) := by decide +kernel
theorem dP_remove_0 : decode (m_C mP_remove) 0 = .ok (.aload_n 0, 1) := by decide +kernel
theorem dP_remove_1 : decode (m_C mP_remove) 1 = .ok (.invokevirtual 57, 3) := by decide +kernel
theorem dP_remove_4 : decode (m_C mP_remove) 4 = .ok (.astore_n 1, 1) := by decide +kernel
theorem dP_remove_5 : decode (m_C mP_remove) 5 = .ok (.aload_n 0, 1) := by decide +kernel
theorem dP_remove_6 : decode (m_C mP_remove) 6 = .ok (.getfield 10, 3) := by decide +kernel
theorem dP_remove_9 : decode (m_C mP_remove) 9 = .ok (.invokevirtual 61, 3) := by decide +kernel
theorem dP_remove_12 : decode (m_C mP_remove) 12 = .ok (.aload_n 1, 1) := by decide +kernel
theorem dP_remove_13 : decode (m_C mP_remove) 13 = .ok (.instanceof 76, 3) := by decide +kernel
theorem dP_remove_16 : decode (m_C mP_remove) 16 = .ok (.ifCond .eq 15, 3) := by decide +kernel
theorem dP_remove_19 : decode (m_C mP_remove) 19 = .ok (.aload_n 1, 1) := by decide +kernel
theorem dP_remove_20 : decode (m_C mP_remove) 20 = .ok (.checkcast 76, 3) := by decide +kernel
theorem dP_remove_23 : decode (m_C mP_remove) 23 = .ok (.astore_n 2, 1) := by decide +kernel
theorem dP_remove_24 : decode (m_C mP_remove) 24 = .ok (.aload_n 0, 1) := by decide +kernel
theorem dP_remove_25 : decode (m_C mP_remove) 25 = .ok (.aload_n 2, 1) := by decide +kernel
theorem dP_remove_26 : decode (m_C mP_remove) 26 = .ok (.invokevirtual 112, 3) := by decide +kernel
theorem dP_remove_29 : decode (m_C mP_remove) 29 = .ok (.iconst 1, 1) := by decide +kernel
theorem dP_remove_30 : decode (m_C mP_remove) 30 = .ok (.ireturn, 1) := by decide +kernel
theorem dP_remove_31 : decode (m_C mP_remove) 31 = .ok (.iconst 0, 1) := by decide +kernel
theorem dP_remove_32 : decode (m_C mP_remove) 32 = .ok (.ireturn, 1) := by decide +kernel
theorem dP_discard_0 : decode (m_C mP_discard) 0 = .ok (.aload_n 0, 1) := by decide +kernel
theorem dP_discard_1 : decode (m_C mP_discard) 1 = .ok (.aload_n 1, 1) := by decide +kernel
theorem dP_discard_2 : decode (m_C mP_discard) 2 = .ok (.invokevirtual 83, 3) := by decide +kernel
theorem dP_discard_5 : decode (m_C mP_discard) 5 = .ok (.aload_n 0, 1) := by decide +kernel
theorem dP_discard_6 : decode (m_C mP_discard) 6 = .ok (.dup, 1) := by decide +kernel
theorem dP_discard_7 : decode (m_C mP_discard) 7 = .ok (.getfield 32, 3) := by decide +kernel
theorem dP_discard_10 : decode (m_C mP_discard) 10 = .ok (.iconst 1, 1) := by decide +kernel
theorem dP_discard_11 : decode (m_C mP_discard) 11 = .ok (.isub, 1) := by decide +kernel
theorem dP_discard_12 : decode (m_C mP_discard) 12 = .ok (.putfield 32, 3) := by decide +kernel
theorem dP_discard_15 : decode (m_C mP_discard) 15 = .ok (.aload_n 1, 1) := by decide +kernel
theorem dP_discard_16 : decode (m_C mP_discard) 16 = .ok (.invokestatic 170, 3) := by decide +kernel
theorem dP_discard_19 : decode (m_C mP_discard) 19 = .ok (.return_, 1) := by decide +kernel
theorem dP_detach_0 : decode (m_C mP_detach) 0 = .ok (.aload_n 0, 1) := by decide +kernel
theorem dP_detach_1 : decode (m_C mP_detach) 1 = .ok (.getfield 173, 3) := by decide +kernel
theorem dP_detach_4 : decode (m_C mP_detach) 4 = .ok (.ifnull 11, 3) := by decide +kernel
theorem dP_detach_7 : decode (m_C mP_detach) 7 = .ok (.aload_n 0, 1) := by decide +kernel
theorem dP_detach_8 : decode (m_C mP_detach) 8 = .ok (.getfield 173, 3) := by decide +kernel
theorem dP_detach_11 : decode (m_C mP_detach) 11 = .ok (.aload_n 0, 1) := by decide +kernel
theorem dP_detach_12 : decode (m_C mP_detach) 12 = .ok (.invokevirtual 174, 3) := by decide +kernel
theorem dP_detach_15 : decode (m_C mP_detach) 15 = .ok (.return_, 1) := by decide +kernel
theorem dD_release_0 : decode (m_C mD_release) 0 = .ok (.aconst_null, 1) := by decide +kernel
theorem dD_release_1 : decode (m_C mD_release) 1 = .ok (.astore_n 2, 1) := by decide +kernel
theorem dD_release_2 : decode (m_C mD_release) 2 = .ok (.aload_n 0, 1) := by decide +kernel
theorem dD_release_3 : decode (m_C mD_release) 3 = .ok (.getfield 7, 3) := by decide +kernel
theorem dD_release_6 : decode (m_C mD_release) 6 = .ok (.astore_n 3, 1) := by decide +kernel
theorem dD_release_7 : decode (m_C mD_release) 7 = .ok (.aload_n 3, 1) := by decide +kernel
theorem dD_release_8 : decode (m_C mD_release) 8 = .ok (.ifnull 18, 3) := by decide +kernel
theorem dD_release_11 : decode (m_C mD_release) 11 = .ok (.aload_n 3, 1) := by decide +kernel
theorem dD_release_12 : decode (m_C mD_release) 12 = .ok (.aload_n 1, 1) := by decide +kernel
theorem dD_release_13 : decode (m_C mD_release) 13 = .ok (.if_acmp .eq 13, 3) := by decide +kernel
theorem dD_release_16 : decode (m_C mD_release) 16 = .ok (.aload_n 3, 1) := by decide +kernel
theorem dD_release_17 : decode (m_C mD_release) 17 = .ok (.astore_n 2, 1) := by decide +kernel
theorem dD_release_18 : decode (m_C mD_release) 18 = .ok (.aload_n 3, 1) := by decide +kernel
theorem dD_release_19 : decode (m_C mD_release) 19 = .ok (.getfield 21, 3) := by decide +kernel
theorem dD_release_22 : decode (m_C mD_release) 22 = .ok (.astore_n 3, 1) := by decide +kernel
theorem dD_release_23 : decode (m_C mD_release) 23 = .ok (.goto (-16), 3) := by decide +kernel
theorem dD_release_26 : decode (m_C mD_release) 26 = .ok (.aload_n 3, 1) := by decide +kernel
theorem dD_release_27 : decode (m_C mD_release) 27 = .ok (.ifnonnull 4, 3) := by decide +kernel
theorem dD_release_30 : decode (m_C mD_release) 30 = .ok (.return_, 1) := by decide +kernel
theorem dD_release_31 : decode (m_C mD_release) 31 = .ok (.aload_n 0, 1) := by decide +kernel
theorem dD_release_32 : decode (m_C mD_release) 32 = .ok (.aload_n 2, 1) := by decide +kernel
theorem dD_release_33 : decode (m_C mD_release) 33 = .ok (.aload_n 3, 1) := by decide +kernel
theorem dD_release_34 : decode (m_C mD_release) 34 = .ok (.getfield 21, 3) := by decide +kernel
theorem dD_release_37 : decode (m_C mD_release) 37 = .ok (.invokevirtual 32, 3) := by decide +kernel
theorem dD_release_40 : decode (m_C mD_release) 40 = .ok (.aload_n 3, 1) := by decide +kernel
theorem dD_release_41 : decode (m_C mD_release) 41 = .ok (.aconst_null, 1) := by decide +kernel
theorem dD_release_42 : decode (m_C mD_release) 42 = .ok (.putfield 21, 3) := by decide +kernel
theorem dD_release_45 : decode (m_C mD_release) 45 = .ok (.aload_n 3, 1) := by decide +kernel
theorem dD_release_46 : decode (m_C mD_release) 46 = .ok (.aconst_null, 1) := by decide +kernel
theorem dD_release_47 : decode (m_C mD_release) 47 = .ok (.putfield 36, 3) := by decide +kernel
theorem dD_release_50 : decode (m_C mD_release) 50 = .ok (.aload_n 0, 1) := by decide +kernel
theorem dD_release_51 : decode (m_C mD_release) 51 = .ok (.dup, 1) := by decide +kernel
theorem dD_release_52 : decode (m_C mD_release) 52 = .ok (.getfield 13, 3) := by decide +kernel
theorem dD_release_55 : decode (m_C mD_release) 55 = .ok (.iconst 1, 1) := by decide +kernel
theorem dD_release_56 : decode (m_C mD_release) 56 = .ok (.isub, 1) := by decide +kernel
theorem dD_release_57 : decode (m_C mD_release) 57 = .ok (.putfield 13, 3) := by decide +kernel
theorem dD_release_60 : decode (m_C mD_release) 60 = .ok (.return_, 1) := by decide +kernel
theorem dP_move_0 : decode (m_C mP_move) 0 = .ok (.aload_n 0, 1) := by decide +kernel
theorem dP_move_1 : decode (m_C mP_move) 1 = .ok (.getfield 28, 3) := by decide +kernel
theorem dP_move_4 : decode (m_C mP_move) 4 = .ok (.ifnull 28, 3) := by decide +kernel
theorem dP_move_7 : decode (m_C mP_move) 7 = .ok (.aload_n 0, 1) := by decide +kernel
theorem dP_move_8 : decode (m_C mP_move) 8 = .ok (.getfield 28, 3) := by decide +kernel
theorem dP_move_11 : decode (m_C mP_move) 11 = .ok (.getfield 87, 3) := by decide +kernel
theorem dP_move_14 : decode (m_C mP_move) 14 = .ok (.ifnull 18, 3) := by decide +kernel
theorem dP_move_17 : decode (m_C mP_move) 17 = .ok (.aload_n 0, 1) := by decide +kernel
theorem dP_move_18 : decode (m_C mP_move) 18 = .ok (.aload_n 0, 1) := by decide +kernel
theorem dP_move_19 : decode (m_C mP_move) 19 = .ok (.getfield 28, 3) := by decide +kernel
theorem dP_move_22 : decode (m_C mP_move) 22 = .ok (.invokevirtual 115, 3) := by decide +kernel
theorem dP_move_25 : decode (m_C mP_move) 25 = .ok (.ifCond .eq 7, 3) := by decide +kernel
theorem dP_move_28 : decode (m_C mP_move) 28 = .ok (.iconst 1, 1) := by decide +kernel
theorem dP_move_29 : decode (m_C mP_move) 29 = .ok (.goto 4, 3) := by decide +kernel
theorem dP_move_32 : decode (m_C mP_move) 32 = .ok (.iconst 0, 1) := by decide +kernel
theorem dP_move_33 : decode (m_C mP_move) 33 = .ok (.istore_n 1, 1) := by decide +kernel
theorem dP_move_34 : decode (m_C mP_move) 34 = .ok (.aload_n 0, 1) := by decide +kernel
theorem dP_move_35 : decode (m_C mP_move) 35 = .ok (.getfield 10, 3) := by decide +kernel
theorem dP_move_38 : decode (m_C mP_move) 38 = .ok (.invokevirtual 61, 3) := by decide +kernel
theorem dP_move_41 : decode (m_C mP_move) 41 = .ok (.iload_n 1, 1) := by decide +kernel
theorem dP_move_42 : decode (m_C mP_move) 42 = .ok (.ireturn, 1) := by decide +kernel
theorem dP_moveToPath_0 : decode (m_C mP_moveToPath) 0 = .ok (.aload_n 0, 1) := by decide +kernel
theorem dP_moveToPath_1 : decode (m_C mP_moveToPath) 1 = .ok (.invokevirtual 57, 3) := by decide +kernel
theorem dP_moveToPath_4 : decode (m_C mP_moveToPath) 4 = .ok (.astore_n 3, 1) := by decide +kernel
theorem dP_moveToPath_5 : decode (m_C mP_moveToPath) 5 = .ok (.aload_n 3, 1) := by decide +kernel
theorem dP_moveToPath_6 : decode (m_C mP_moveToPath) 6 = .ok (.instanceof 16, 3) := by decide +kernel
theorem dP_moveToPath_9 : decode (m_C mP_moveToPath) 9 = .ok (.ifCond .eq 19, 3) := by decide +kernel
theorem dP_moveToPath_12 : decode (m_C mP_moveToPath) 12 = .ok (.aload_n 3, 1) := by decide +kernel
theorem dP_moveToPath_13 : decode (m_C mP_moveToPath) 13 = .ok (.checkcast 16, 3) := by decide +kernel
theorem dP_moveToPath_16 : decode (m_C mP_moveToPath) 16 = .ok (.astore_n 2, 1) := by decide +kernel
theorem dP_moveToPath_17 : decode (m_C mP_moveToPath) 17 = .ok (.aload_n 0, 1) := by decide +kernel
theorem dP_moveToPath_18 : decode (m_C mP_moveToPath) 18 = .ok (.aload_n 2, 1) := by decide +kernel
theorem dP_moveToPath_19 : decode (m_C mP_moveToPath) 19 = .ok (.aload_n 1, 1) := by decide +kernel
theorem dP_moveToPath_20 : decode (m_C mP_moveToPath) 20 = .ok (.getfield 177, 3) := by decide +kernel
theorem dP_moveToPath_23 : decode (m_C mP_moveToPath) 23 = .ok (.aload_n 1, 1) := by decide +kernel
theorem dP_moveToPath_24 : decode (m_C mP_moveToPath) 24 = .ok (.invokevirtual 178, 3) := by decide +kernel
theorem dP_moveToPath_27 : decode (m_C mP_moveToPath) 27 = .ok (.ireturn, 1) := by decide +kernel
theorem dP_moveToPath_28 : decode (m_C mP_moveToPath) 28 = .ok (.aload_n 0, 1) := by decide +kernel
theorem dP_moveToPath_29 : decode (m_C mP_moveToPath) 29 = .ok (.invokevirtual 167, 3) := by decide +kernel
theorem dP_moveToPath_32 : decode (m_C mP_moveToPath) 32 = .ok (.astore_n 2, 1) := by decide +kernel
theorem dP_moveToPath_33 : decode (m_C mP_moveToPath) 33 = .ok (.aload_n 2, 1) := by decide +kernel
theorem dP_moveToPath_34 : decode (m_C mP_moveToPath) 34 = .ok (.ifnull 13, 3) := by decide +kernel
theorem dP_moveToPath_37 : decode (m_C mP_moveToPath) 37 = .ok (.aload_n 0, 1) := by decide +kernel
theorem dP_moveToPath_38 : decode (m_C mP_moveToPath) 38 = .ok (.getfield 10, 3) := by decide +kernel
theorem dP_moveToPath_41 : decode (m_C mP_moveToPath) 41 = .ok (.invokevirtual 163, 3) := by decide +kernel
theorem dP_moveToPath_44 : decode (m_C mP_moveToPath) 44 = .ok (.ifCond .ne 5, 3) := by decide +kernel
theorem dP_moveToPath_47 : decode (m_C mP_moveToPath) 47 = .ok (.iconst 0, 1) := by decide +kernel
theorem dP_moveToPath_48 : decode (m_C mP_moveToPath) 48 = .ok (.ireturn, 1) := by decide +kernel
theorem dP_moveToPath_49 : decode (m_C mP_moveToPath) 49 = .ok (.aload_n 0, 1) := by decide +kernel
theorem dP_moveToPath_50 : decode (m_C mP_moveToPath) 50 = .ok (.aload_n 2, 1) := by decide +kernel
theorem dP_moveToPath_51 : decode (m_C mP_moveToPath) 51 = .ok (.aload_n 0, 1) := by decide +kernel
theorem dP_moveToPath_52 : decode (m_C mP_moveToPath) 52 = .ok (.getfield 10, 3) := by decide +kernel
theorem dP_moveToPath_55 : decode (m_C mP_moveToPath) 55 = .ok (.invokevirtual 68, 3) := by decide +kernel
theorem dP_moveToPath_58 : decode (m_C mP_moveToPath) 58 = .ok (.aload_n 1, 1) := by decide +kernel
theorem dP_moveToPath_59 : decode (m_C mP_moveToPath) 59 = .ok (.invokevirtual 178, 3) := by decide +kernel
theorem dP_moveToPath_62 : decode (m_C mP_moveToPath) 62 = .ok (.ireturn, 1) := by decide +kernel
theorem dP_moveInto_0 : decode (m_C mP_moveInto) 0 = .ok (.aload_n 1, 1) := by decide +kernel
theorem dP_moveInto_1 : decode (m_C mP_moveInto) 1 = .ok (.aload_n 2, 1) := by decide +kernel
theorem dP_moveInto_2 : decode (m_C mP_moveInto) 2 = .ok (.iconst 0, 1) := by decide +kernel
theorem dP_moveInto_3 : decode (m_C mP_moveInto) 3 = .ok (.aload_n 2, 1) := by decide +kernel
theorem dP_moveInto_4 : decode (m_C mP_moveInto) 4 = .ok (.arraylength, 1) := by decide +kernel
theorem dP_moveInto_5 : decode (m_C mP_moveInto) 5 = .ok (.invokevirtual 159, 3) := by decide +kernel
theorem dP_moveInto_8 : decode (m_C mP_moveInto) 8 = .ok (.astore 4, 2) := by decide +kernel
theorem dP_moveInto_10 : decode (m_C mP_moveInto) 10 = .ok (.aload 4, 2) := by decide +kernel
theorem dP_moveInto_12 : decode (m_C mP_moveInto) 12 = .ok (.aload_n 3, 1) := by decide +kernel
theorem dP_moveInto_13 : decode (m_C mP_moveInto) 13 = .ok (.if_acmp .eq 11, 3) := by decide +kernel
theorem dP_moveInto_16 : decode (m_C mP_moveInto) 16 = .ok (.aload 4, 2) := by decide +kernel
theorem dP_moveInto_18 : decode (m_C mP_moveInto) 18 = .ok (.instanceof 16, 3) := by decide +kernel
theorem dP_moveInto_21 : decode (m_C mP_moveInto) 21 = .ok (.ifCond .eq 5, 3) := by decide +kernel
theorem dP_moveInto_24 : decode (m_C mP_moveInto) 24 = .ok (.iconst 0, 1) := by decide +kernel
theorem dP_moveInto_25 : decode (m_C mP_moveInto) 25 = .ok (.ireturn, 1) := by decide +kernel
theorem dP_moveInto_26 : decode (m_C mP_moveInto) 26 = .ok (.aload 4, 2) := by decide +kernel
theorem dP_moveInto_28 : decode (m_C mP_moveInto) 28 = .ok (.instanceof 76, 3) := by decide +kernel
theorem dP_moveInto_31 : decode (m_C mP_moveInto) 31 = .ok (.ifCond .eq 16, 3) := by decide +kernel
theorem dP_moveInto_34 : decode (m_C mP_moveInto) 34 = .ok (.aload 4, 2) := by decide +kernel
theorem dP_moveInto_36 : decode (m_C mP_moveInto) 36 = .ok (.checkcast 76, 3) := by decide +kernel
theorem dP_moveInto_39 : decode (m_C mP_moveInto) 39 = .ok (.astore 5, 2) := by decide +kernel
theorem dP_moveInto_41 : decode (m_C mP_moveInto) 41 = .ok (.aload_n 0, 1) := by decide +kernel
theorem dP_moveInto_42 : decode (m_C mP_moveInto) 42 = .ok (.aload 5, 2) := by decide +kernel
theorem dP_moveInto_44 : decode (m_C mP_moveInto) 44 = .ok (.invokevirtual 112, 3) := by decide +kernel
theorem dP_moveInto_47 : decode (m_C mP_moveInto) 47 = .ok (.aload_n 3, 1) := by decide +kernel
theorem dP_moveInto_48 : decode (m_C mP_moveInto) 48 = .ok (.invokestatic 170, 3) := by decide +kernel
theorem dP_moveInto_51 : decode (m_C mP_moveInto) 51 = .ok (.aload_n 3, 1) := by decide +kernel
theorem dP_moveInto_52 : decode (m_C mP_moveInto) 52 = .ok (.aload_n 2, 1) := by decide +kernel
theorem dP_moveInto_53 : decode (m_C mP_moveInto) 53 = .ok (.putfield 177, 3) := by decide +kernel
theorem dP_moveInto_56 : decode (m_C mP_moveInto) 56 = .ok (.aload_n 1, 1) := by decide +kernel
theorem dP_moveInto_57 : decode (m_C mP_moveInto) 57 = .ok (.aload_n 3, 1) := by decide +kernel
theorem dP_moveInto_58 : decode (m_C mP_moveInto) 58 = .ok (.invokevirtual 72, 3) := by decide +kernel
theorem dP_moveInto_61 : decode (m_C mP_moveInto) 61 = .ok (.iconst 1, 1) := by decide +kernel
theorem dP_moveInto_62 : decode (m_C mP_moveInto) 62 = .ok (.ireturn, 1) := by decide +kernel
theorem dP_name_0 : decode (m_C mP_name) 0 = .ok (.aload_n 0, 1) := by decide +kernel
theorem dP_name_1 : decode (m_C mP_name) 1 = .ok (.getfield 25, 3) := by decide +kernel
theorem dP_name_4 : decode (m_C mP_name) 4 = .ok (.iload_n 1, 1) := by decide +kernel
theorem dP_name_5 : decode (m_C mP_name) 5 = .ok (.invokevirtual 119, 3) := by decide +kernel
theorem dP_name_8 : decode (m_C mP_name) 8 = .ok (.astore_n 3, 1) := by decide +kernel
theorem dP_name_9 : decode (m_C mP_name) 9 = .ok (.aload_n 3, 1) := by decide +kernel
theorem dP_name_10 : decode (m_C mP_name) 10 = .ok (.ifnull 16, 3) := by decide +kernel
theorem dP_name_13 : decode (m_C mP_name) 13 = .ok (.iload_n 2, 1) := by decide +kernel
theorem dP_name_14 : decode (m_C mP_name) 14 = .ok (.ifCond .lt 12, 3) := by decide +kernel
theorem dP_name_17 : decode (m_C mP_name) 17 = .ok (.iload_n 2, 1) := by decide +kernel
theorem dP_name_18 : decode (m_C mP_name) 18 = .ok (.aload_n 3, 1) := by decide +kernel
theorem dP_name_19 : decode (m_C mP_name) 19 = .ok (.getfield 123, 3) := by decide +kernel
theorem dP_name_22 : decode (m_C mP_name) 22 = .ok (.arraylength, 1) := by decide +kernel
theorem dP_name_23 : decode (m_C mP_name) 23 = .ok (.if_icmp .lt 5, 3) := by decide +kernel
theorem dP_name_26 : decode (m_C mP_name) 26 = .ok (.iconst (-1), 1) := by decide +kernel
theorem dP_name_27 : decode (m_C mP_name) 27 = .ok (.ireturn, 1) := by decide +kernel
theorem dP_name_28 : decode (m_C mP_name) 28 = .ok (.aload_n 3, 1) := by decide +kernel
theorem dP_name_29 : decode (m_C mP_name) 29 = .ok (.getfield 123, 3) := by decide +kernel
theorem dP_name_32 : decode (m_C mP_name) 32 = .ok (.iload_n 2, 1) := by decide +kernel
theorem dP_name_33 : decode (m_C mP_name) 33 = .ok (.caload, 1) := by decide +kernel
theorem dP_name_34 : decode (m_C mP_name) 34 = .ok (.ireturn, 1) := by decide +kernel
theorem dD_entryAt_0 : decode (m_C mD_entryAt) 0 = .ok (.iload_n 1, 1) := by decide +kernel
theorem dD_entryAt_1 : decode (m_C mD_entryAt) 1 = .ok (.ifCond .lt 11, 3) := by decide +kernel
theorem dD_entryAt_4 : decode (m_C mD_entryAt) 4 = .ok (.iload_n 1, 1) := by decide +kernel
