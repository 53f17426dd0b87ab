theorem dR_made_52 : decode (m_C mR_made) 52 = .ok (.ifCond .eq 9, 3) := by decide +kernel
theorem dR_made_55 : decode (m_C mR_made) 55 = .ok (.iinc 3 1, 3) := by decide +kernel
theorem dR_made_58 : decode (m_C mR_made) 58 = .ok (.goto (-12), 3) := by decide +kernel
theorem dR_made_61 : decode (m_C mR_made) 61 = .ok (.aload_n 0, 1) := by decide +kernel
theorem dR_made_62 : decode (m_C mR_made) 62 = .ok (.getfield 13, 3) := by decide +kernel
theorem dR_made_65 : decode (m_C mR_made) 65 = .ok (.iload_n 3, 1) := by decide +kernel
theorem dR_made_66 : decode (m_C mR_made) 66 = .ok (.iload_n 1, 1) := by decide +kernel
theorem dR_made_67 : decode (m_C mR_made) 67 = .ok (.iastore, 1) := by decide +kernel
theorem dR_made_68 : decode (m_C mR_made) 68 = .ok (.aload_n 0, 1) := by decide +kernel
theorem dR_made_69 : decode (m_C mR_made) 69 = .ok (.getfield 19, 3) := by decide +kernel
theorem dR_made_72 : decode (m_C mR_made) 72 = .ok (.iload_n 3, 1) := by decide +kernel
theorem dR_made_73 : decode (m_C mR_made) 73 = .ok (.iconst 0, 1) := by decide +kernel
theorem dR_made_74 : decode (m_C mR_made) 74 = .ok (.iastore, 1) := by decide +kernel
theorem dR_made_75 : decode (m_C mR_made) 75 = .ok (.aload_n 0, 1) := by decide +kernel
theorem dR_made_76 : decode (m_C mR_made) 76 = .ok (.dup, 1) := by decide +kernel
theorem dR_made_77 : decode (m_C mR_made) 77 = .ok (.getfield 28, 3) := by decide +kernel
theorem dR_made_80 : decode (m_C mR_made) 80 = .ok (.iconst 1, 1) := by decide +kernel
theorem dR_made_81 : decode (m_C mR_made) 81 = .ok (.iadd, 1) := by decide +kernel
theorem dR_made_82 : decode (m_C mR_made) 82 = .ok (.putfield 28, 3) := by decide +kernel
theorem dR_made_85 : decode (m_C mR_made) 85 = .ok (.aload_n 0, 1) := by decide +kernel
theorem dR_made_86 : decode (m_C mR_made) 86 = .ok (.iload_n 3, 1) := by decide +kernel
theorem dR_made_87 : decode (m_C mR_made) 87 = .ok (.iload_n 2, 1) := by decide +kernel
theorem dR_made_88 : decode (m_C mR_made) 88 = .ok (.invokevirtual 76, 3) := by decide +kernel
theorem dR_made_91 : decode (m_C mR_made) 91 = .ok (.iload_n 3, 1) := by decide +kernel
theorem dR_made_92 : decode (m_C mR_made) 92 = .ok (.ireturn, 1) := by decide +kernel
theorem dR_home_0 : decode (m_C mR_home) 0 = .ok (.aload_n 0, 1) := by decide +kernel
theorem dR_home_1 : decode (m_C mR_home) 1 = .ok (.invokevirtual 61, 3) := by decide +kernel
theorem dR_home_4 : decode (m_C mR_home) 4 = .ok (.istore_n 1, 1) := by decide +kernel
theorem dR_home_5 : decode (m_C mR_home) 5 = .ok (.iload_n 1, 1) := by decide +kernel
theorem dR_home_6 : decode (m_C mR_home) 6 = .ok (.ifCond .ne 10, 3) := by decide +kernel
theorem dR_home_9 : decode (m_C mR_home) 9 = .ok (.aload_n 0, 1) := by decide +kernel
theorem dR_home_10 : decode (m_C mR_home) 10 = .ok (.getfield 55, 3) := by decide +kernel
theorem dR_home_13 : decode (m_C mR_home) 13 = .ok (.goto 19, 3) := by decide +kernel
theorem dR_home_16 : decode (m_C mR_home) 16 = .ok (.iload_n 1, 1) := by decide +kernel
theorem dR_home_17 : decode (m_C mR_home) 17 = .ok (.iconst 1, 1) := by decide +kernel
theorem dR_home_18 : decode (m_C mR_home) 18 = .ok (.if_icmp .ne 7, 3) := by decide +kernel
theorem dR_home_21 : decode (m_C mR_home) 21 = .ok (.iconst 0, 1) := by decide +kernel
theorem dR_home_22 : decode (m_C mR_home) 22 = .ok (.goto 10, 3) := by decide +kernel
theorem dR_home_25 : decode (m_C mR_home) 25 = .ok (.aload_n 0, 1) := by decide +kernel
theorem dR_home_26 : decode (m_C mR_home) 26 = .ok (.iload_n 1, 1) := by decide +kernel
theorem dR_home_27 : decode (m_C mR_home) 27 = .ok (.iconst 1, 1) := by decide +kernel
theorem dR_home_28 : decode (m_C mR_home) 28 = .ok (.isub, 1) := by decide +kernel
theorem dR_home_29 : decode (m_C mR_home) 29 = .ok (.invokevirtual 65, 3) := by decide +kernel
theorem dR_home_32 : decode (m_C mR_home) 32 = .ok (.istore_n 2, 1) := by decide +kernel
theorem dR_home_33 : decode (m_C mR_home) 33 = .ok (.iload_n 2, 1) := by decide +kernel
theorem dR_home_34 : decode (m_C mR_home) 34 = .ok (.ifCond .lt 17, 3) := by decide +kernel
theorem dR_home_37 : decode (m_C mR_home) 37 = .ok (.aload_n 0, 1) := by decide +kernel
theorem dR_home_38 : decode (m_C mR_home) 38 = .ok (.getfield 13, 3) := by decide +kernel
theorem dR_home_41 : decode (m_C mR_home) 41 = .ok (.iload_n 2, 1) := by decide +kernel
theorem dR_home_42 : decode (m_C mR_home) 42 = .ok (.iaload, 1) := by decide +kernel
theorem dR_home_43 : decode (m_C mR_home) 43 = .ok (.iconst 2, 1) := by decide +kernel
theorem dR_home_44 : decode (m_C mR_home) 44 = .ok (.if_icmp .ne 7, 3) := by decide +kernel
theorem dR_home_47 : decode (m_C mR_home) 47 = .ok (.iload_n 2, 1) := by decide +kernel
theorem dR_home_48 : decode (m_C mR_home) 48 = .ok (.goto 4, 3) := by decide +kernel
theorem dR_home_51 : decode (m_C mR_home) 51 = .ok (.iconst (-1), 1) := by decide +kernel
theorem dR_home_52 : decode (m_C mR_home) 52 = .ok (.ireturn, 1) := by decide +kernel
theorem dR_last_0 : decode (m_C mR_last) 0 = .ok (.aload_n 0, 1) := by decide +kernel
theorem dR_last_1 : decode (m_C mR_last) 1 = .ok (.getfield 44, 3) := by decide +kernel
theorem dR_last_4 : decode (m_C mR_last) 4 = .ok (.istore_n 1, 1) := by decide +kernel
theorem dR_last_5 : decode (m_C mR_last) 5 = .ok (.iload_n 1, 1) := by decide +kernel
theorem dR_last_6 : decode (m_C mR_last) 6 = .ok (.ifCond .le 22, 3) := by decide +kernel
theorem dR_last_9 : decode (m_C mR_last) 9 = .ok (.aload_n 0, 1) := by decide +kernel
theorem dR_last_10 : decode (m_C mR_last) 10 = .ok (.getfield 7, 3) := by decide +kernel
theorem dR_last_13 : decode (m_C mR_last) 13 = .ok (.iload_n 1, 1) := by decide +kernel
theorem dR_last_14 : decode (m_C mR_last) 14 = .ok (.iconst 1, 1) := by decide +kernel
theorem dR_last_15 : decode (m_C mR_last) 15 = .ok (.isub, 1) := by decide +kernel
theorem dR_last_16 : decode (m_C mR_last) 16 = .ok (.iaload, 1) := by decide +kernel
theorem dR_last_17 : decode (m_C mR_last) 17 = .ok (.bipush 47, 2) := by decide +kernel
theorem dR_last_19 : decode (m_C mR_last) 19 = .ok (.if_icmp .eq 9, 3) := by decide +kernel
theorem dR_last_22 : decode (m_C mR_last) 22 = .ok (.iinc 1 (-1), 3) := by decide +kernel
theorem dR_last_25 : decode (m_C mR_last) 25 = .ok (.goto (-20), 3) := by decide +kernel
theorem dR_last_28 : decode (m_C mR_last) 28 = .ok (.iload_n 1, 1) := by decide +kernel
theorem dR_last_29 : decode (m_C mR_last) 29 = .ok (.ireturn, 1) := by decide +kernel
theorem dR_isName_0 : decode (m_C mR_isName) 0 = .ok (.aload_n 0, 1) := by decide +kernel
theorem dR_isName_1 : decode (m_C mR_isName) 1 = .ok (.invokevirtual 61, 3) := by decide +kernel
theorem dR_isName_4 : decode (m_C mR_isName) 4 = .ok (.istore_n 1, 1) := by decide +kernel
theorem dR_isName_5 : decode (m_C mR_isName) 5 = .ok (.aload_n 0, 1) := by decide +kernel
theorem dR_isName_6 : decode (m_C mR_isName) 6 = .ok (.getfield 44, 3) := by decide +kernel
theorem dR_isName_9 : decode (m_C mR_isName) 9 = .ok (.iload_n 1, 1) := by decide +kernel
theorem dR_isName_10 : decode (m_C mR_isName) 10 = .ok (.isub, 1) := by decide +kernel
theorem dR_isName_11 : decode (m_C mR_isName) 11 = .ok (.iconst 1, 1) := by decide +kernel
theorem dR_isName_12 : decode (m_C mR_isName) 12 = .ok (.if_icmp .lt 44, 3) := by decide +kernel
theorem dR_isName_15 : decode (m_C mR_isName) 15 = .ok (.aload_n 0, 1) := by decide +kernel
theorem dR_isName_16 : decode (m_C mR_isName) 16 = .ok (.getfield 44, 3) := by decide +kernel
theorem dR_isName_19 : decode (m_C mR_isName) 19 = .ok (.iload_n 1, 1) := by decide +kernel
theorem dR_isName_20 : decode (m_C mR_isName) 20 = .ok (.isub, 1) := by decide +kernel
theorem dR_isName_21 : decode (m_C mR_isName) 21 = .ok (.bipush 60, 2) := by decide +kernel
theorem dR_isName_23 : decode (m_C mR_isName) 23 = .ok (.if_icmp .gt 33, 3) := by decide +kernel
theorem dR_isName_26 : decode (m_C mR_isName) 26 = .ok (.aload_n 0, 1) := by decide +kernel
theorem dR_isName_27 : decode (m_C mR_isName) 27 = .ok (.iload_n 1, 1) := by decide +kernel
theorem dR_isName_28 : decode (m_C mR_isName) 28 = .ok (.aload_n 0, 1) := by decide +kernel
theorem dR_isName_29 : decode (m_C mR_isName) 29 = .ok (.getfield 44, 3) := by decide +kernel
theorem dR_isName_32 : decode (m_C mR_isName) 32 = .ok (.iconst 1, 1) := by decide +kernel
theorem dR_isName_33 : decode (m_C mR_isName) 33 = .ok (.invokevirtual 47, 3) := by decide +kernel
theorem dR_isName_36 : decode (m_C mR_isName) 36 = .ok (.ifCond .ne 20, 3) := by decide +kernel
theorem dR_isName_39 : decode (m_C mR_isName) 39 = .ok (.aload_n 0, 1) := by decide +kernel
theorem dR_isName_40 : decode (m_C mR_isName) 40 = .ok (.iload_n 1, 1) := by decide +kernel
theorem dR_isName_41 : decode (m_C mR_isName) 41 = .ok (.aload_n 0, 1) := by decide +kernel
theorem dR_isName_42 : decode (m_C mR_isName) 42 = .ok (.getfield 44, 3) := by decide +kernel
theorem dR_isName_45 : decode (m_C mR_isName) 45 = .ok (.iconst 2, 1) := by decide +kernel
theorem dR_isName_46 : decode (m_C mR_isName) 46 = .ok (.invokevirtual 47, 3) := by decide +kernel
theorem dR_isName_49 : decode (m_C mR_isName) 49 = .ok (.ifCond .ne 7, 3) := by decide +kernel
theorem dR_isName_52 : decode (m_C mR_isName) 52 = .ok (.iconst 1, 1) := by decide +kernel
theorem dR_isName_53 : decode (m_C mR_isName) 53 = .ok (.goto 4, 3) := by decide +kernel
theorem dR_isName_56 : decode (m_C mR_isName) 56 = .ok (.iconst 0, 1) := by decide +kernel
theorem dR_isName_57 : decode (m_C mR_isName) 57 = .ok (.ireturn, 1) := by decide +kernel
theorem dR_put_0 : decode (m_C mR_put) 0 = .ok (.aload_n 0, 1) := by decide +kernel
theorem dR_put_1 : decode (m_C mR_put) 1 = .ok (.getfield 16, 3) := by decide +kernel
theorem dR_put_4 : decode (m_C mR_put) 4 = .ok (.iload_n 1, 1) := by decide +kernel
theorem dR_put_5 : decode (m_C mR_put) 5 = .ok (.iload_n 2, 1) := by decide +kernel
theorem dR_put_6 : decode (m_C mR_put) 6 = .ok (.iastore, 1) := by decide +kernel
theorem dR_put_7 : decode (m_C mR_put) 7 = .ok (.aload_n 0, 1) := by decide +kernel
theorem dR_put_8 : decode (m_C mR_put) 8 = .ok (.getfield 22, 3) := by decide +kernel
theorem dR_put_11 : decode (m_C mR_put) 11 = .ok (.iload_n 1, 1) := by decide +kernel
theorem dR_put_12 : decode (m_C mR_put) 12 = .ok (.aload_n 0, 1) := by decide +kernel
theorem dR_put_13 : decode (m_C mR_put) 13 = .ok (.getfield 44, 3) := by decide +kernel
theorem dR_put_16 : decode (m_C mR_put) 16 = .ok (.aload_n 0, 1) := by decide +kernel
theorem dR_put_17 : decode (m_C mR_put) 17 = .ok (.invokevirtual 61, 3) := by decide +kernel
theorem dR_put_20 : decode (m_C mR_put) 20 = .ok (.isub, 1) := by decide +kernel
theorem dR_put_21 : decode (m_C mR_put) 21 = .ok (.iastore, 1) := by decide +kernel
theorem dR_put_22 : decode (m_C mR_put) 22 = .ok (.aload_n 0, 1) := by decide +kernel
theorem dR_put_23 : decode (m_C mR_put) 23 = .ok (.invokevirtual 61, 3) := by decide +kernel
theorem dR_put_26 : decode (m_C mR_put) 26 = .ok (.istore_n 3, 1) := by decide +kernel
theorem dR_put_27 : decode (m_C mR_put) 27 = .ok (.iload_n 3, 1) := by decide +kernel
theorem dR_put_28 : decode (m_C mR_put) 28 = .ok (.aload_n 0, 1) := by decide +kernel
theorem dR_put_29 : decode (m_C mR_put) 29 = .ok (.getfield 44, 3) := by decide +kernel
theorem dR_put_32 : decode (m_C mR_put) 32 = .ok (.if_icmp .ge 31, 3) := by decide +kernel
theorem dR_put_35 : decode (m_C mR_put) 35 = .ok (.aload_n 0, 1) := by decide +kernel
theorem dR_put_36 : decode (m_C mR_put) 36 = .ok (.getfield 25, 3) := by decide +kernel
theorem dR_put_39 : decode (m_C mR_put) 39 = .ok (.bipush 60, 2) := by decide +kernel
theorem dR_put_41 : decode (m_C mR_put) 41 = .ok (.iload_n 1, 1) := by decide +kernel
theorem dR_put_42 : decode (m_C mR_put) 42 = .ok (.imul, 1) := by decide +kernel
theorem dR_put_43 : decode (m_C mR_put) 43 = .ok (.iload_n 3, 1) := by decide +kernel
theorem dR_put_44 : decode (m_C mR_put) 44 = .ok (.iadd, 1) := by decide +kernel
theorem dR_put_45 : decode (m_C mR_put) 45 = .ok (.aload_n 0, 1) := by decide +kernel
theorem dR_put_46 : decode (m_C mR_put) 46 = .ok (.invokevirtual 61, 3) := by decide +kernel
theorem dR_put_49 : decode (m_C mR_put) 49 = .ok (.isub, 1) := by decide +kernel
theorem dR_put_50 : decode (m_C mR_put) 50 = .ok (.aload_n 0, 1) := by decide +kernel
theorem dR_put_51 : decode (m_C mR_put) 51 = .ok (.getfield 7, 3) := by decide +kernel
theorem dR_put_54 : decode (m_C mR_put) 54 = .ok (.iload_n 3, 1) := by decide +kernel
theorem dR_put_55 : decode (m_C mR_put) 55 = .ok (.iaload, 1) := by decide +kernel
theorem dR_put_56 : decode (m_C mR_put) 56 = .ok (.iastore, 1) := by decide +kernel
theorem dR_put_57 : decode (m_C mR_put) 57 = .ok (.iinc 3 1, 3) := by decide +kernel
theorem dR_put_60 : decode (m_C mR_put) 60 = .ok (.goto (-33), 3) := by decide +kernel
theorem dR_put_63 : decode (m_C mR_put) 63 = .ok (.return_, 1) := by decide +kernel
theorem dR_go_0 : decode (m_C mR_go) 0 = .ok (.aload_n 0, 1) := by decide +kernel
theorem dR_go_1 : decode (m_C mR_go) 1 = .ok (.aload_n 0, 1) := by decide +kernel
theorem dR_go_2 : decode (m_C mR_go) 2 = .ok (.getfield 44, 3) := by decide +kernel
theorem dR_go_5 : decode (m_C mR_go) 5 = .ok (.invokevirtual 65, 3) := by decide +kernel
theorem dR_go_8 : decode (m_C mR_go) 8 = .ok (.istore_n 1, 1) := by decide +kernel
theorem dR_go_9 : decode (m_C mR_go) 9 = .ok (.aload_n 0, 1) := by decide +kernel
theorem dR_go_10 : decode (m_C mR_go) 10 = .ok (.iconst 0, 1) := by decide +kernel
theorem dR_go_11 : decode (m_C mR_go) 11 = .ok (.putfield 44, 3) := by decide +kernel
theorem dR_go_14 : decode (m_C mR_go) 14 = .ok (.iload_n 1, 1) := by decide +kernel
theorem dR_go_15 : decode (m_C mR_go) 15 = .ok (.ifCond .lt 13, 3) := by decide +kernel
theorem dR_go_18 : decode (m_C mR_go) 18 = .ok (.aload_n 0, 1) := by decide +kernel
theorem dR_go_19 : decode (m_C mR_go) 19 = .ok (.getfield 13, 3) := by decide +kernel
theorem dR_go_22 : decode (m_C mR_go) 22 = .ok (.iload_n 1, 1) := by decide +kernel
theorem dR_go_23 : decode (m_C mR_go) 23 = .ok (.iaload, 1) := by decide +kernel
theorem dR_go_24 : decode (m_C mR_go) 24 = .ok (.iconst 2, 1) := by decide +kernel
theorem dR_go_25 : decode (m_C mR_go) 25 = .ok (.if_icmp .eq 5, 3) := by decide +kernel
theorem dR_go_28 : decode (m_C mR_go) 28 = .ok (.iconst 0, 1) := by decide +kernel
theorem dR_go_29 : decode (m_C mR_go) 29 = .ok (.ireturn, 1) := by decide +kernel
theorem dR_go_30 : decode (m_C mR_go) 30 = .ok (.aload_n 0, 1) := by decide +kernel
theorem dR_go_31 : decode (m_C mR_go) 31 = .ok (.iload_n 1, 1) := by decide +kernel
theorem dR_go_32 : decode (m_C mR_go) 32 = .ok (.putfield 55, 3) := by decide +kernel
theorem dR_go_35 : decode (m_C mR_go) 35 = .ok (.iconst 1, 1) := by decide +kernel
theorem dR_go_36 : decode (m_C mR_go) 36 = .ok (.ireturn, 1) := by decide +kernel
theorem dR_open_0 : decode (m_C mR_open) 0 = .ok (.aload_n 0, 1) := by decide +kernel
theorem dR_open_1 : decode (m_C mR_open) 1 = .ok (.aload_n 0, 1) := by decide +kernel
theorem dR_open_2 : decode (m_C mR_open) 2 = .ok (.getfield 44, 3) := by decide +kernel
theorem dR_open_5 : decode (m_C mR_open) 5 = .ok (.invokevirtual 65, 3) := by decide +kernel
theorem dR_open_8 : decode (m_C mR_open) 8 = .ok (.istore_n 1, 1) := by decide +kernel
theorem dR_open_9 : decode (m_C mR_open) 9 = .ok (.iload_n 1, 1) := by decide +kernel
theorem dR_open_10 : decode (m_C mR_open) 10 = .ok (.ifCond .ge 9, 3) := by decide +kernel
theorem dR_open_13 : decode (m_C mR_open) 13 = .ok (.aload_n 0, 1) := by decide +kernel
theorem dR_open_14 : decode (m_C mR_open) 14 = .ok (.iconst 1, 1) := by decide +kernel
theorem dR_open_15 : decode (m_C mR_open) 15 = .ok (.invokevirtual 80, 3) := by decide +kernel
theorem dR_open_18 : decode (m_C mR_open) 18 = .ok (.istore_n 1, 1) := by decide +kernel
theorem dR_open_19 : decode (m_C mR_open) 19 = .ok (.aload_n 0, 1) := by decide +kernel
theorem dR_open_20 : decode (m_C mR_open) 20 = .ok (.iconst 0, 1) := by decide +kernel
theorem dR_open_21 : decode (m_C mR_open) 21 = .ok (.putfield 44, 3) := by decide +kernel
theorem dR_open_24 : decode (m_C mR_open) 24 = .ok (.aload_n 0, 1) := by decide +kernel
theorem dR_open_25 : decode (m_C mR_open) 25 = .ok (.iload_n 1, 1) := by decide +kernel
theorem dR_open_26 : decode (m_C mR_open) 26 = .ok (.ifCond .lt 17, 3) := by decide +kernel
theorem dR_open_29 : decode (m_C mR_open) 29 = .ok (.aload_n 0, 1) := by decide +kernel
theorem dR_open_30 : decode (m_C mR_open) 30 = .ok (.getfield 13, 3) := by decide +kernel
theorem dR_open_33 : decode (m_C mR_open) 33 = .ok (.iload_n 1, 1) := by decide +kernel
theorem dR_open_34 : decode (m_C mR_open) 34 = .ok (.iaload, 1) := by decide +kernel
theorem dR_open_35 : decode (m_C mR_open) 35 = .ok (.iconst 1, 1) := by decide +kernel
theorem dR_open_36 : decode (m_C mR_open) 36 = .ok (.if_icmp .ne 7, 3) := by decide +kernel
theorem dR_open_39 : decode (m_C mR_open) 39 = .ok (.iload_n 1, 1) := by decide +kernel
theorem dR_open_40 : decode (m_C mR_open) 40 = .ok (.goto 4, 3) := by decide +kernel
theorem dR_open_43 : decode (m_C mR_open) 43 = .ok (.iconst (-1), 1) := by decide +kernel
theorem dR_open_44 : decode (m_C mR_open) 44 = .ok (.putfield 32, 3) := by decide +kernel
theorem dR_open_47 : decode (m_C mR_open) 47 = .ok (.aload_n 0, 1) := by decide +kernel
theorem dR_open_48 : decode (m_C mR_open) 48 = .ok (.iconst 0, 1) := by decide +kernel
theorem dR_open_49 : decode (m_C mR_open) 49 = .ok (.putfield 83, 3) := by decide +kernel
theorem dR_open_52 : decode (m_C mR_open) 52 = .ok (.aload_n 0, 1) := by decide +kernel
theorem dR_open_53 : decode (m_C mR_open) 53 = .ok (.getfield 32, 3) := by decide +kernel
theorem dR_open_56 : decode (m_C mR_open) 56 = .ok (.ifCond .lt 7, 3) := by decide +kernel
theorem dR_open_59 : decode (m_C mR_open) 59 = .ok (.iconst 1, 1) := by decide +kernel
theorem dR_open_60 : decode (m_C mR_open) 60 = .ok (.goto 4, 3) := by decide +kernel
theorem dR_open_63 : decode (m_C mR_open) 63 = .ok (.iconst 0, 1) := by decide +kernel
theorem dR_open_64 : decode (m_C mR_open) 64 = .ok (.ireturn, 1) := by decide +kernel
theorem dR_empty_0 : decode (m_C mR_empty) 0 = .ok (.aload_n 0, 1) := by decide +kernel
theorem dR_empty_1 : decode (m_C mR_empty) 1 = .ok (.getfield 32, 3) := by decide +kernel
theorem dR_empty_4 : decode (m_C mR_empty) 4 = .ok (.ifCond .ge 5, 3) := by decide +kernel
theorem dR_empty_7 : decode (m_C mR_empty) 7 = .ok (.iconst (-1), 1) := by decide +kernel
theorem dR_empty_8 : decode (m_C mR_empty) 8 = .ok (.ireturn, 1) := by decide +kernel
theorem dR_empty_9 : decode (m_C mR_empty) 9 = .ok (.aload_n 0, 1) := by decide +kernel
theorem dR_empty_10 : decode (m_C mR_empty) 10 = .ok (.getfield 83, 3) := by decide +kernel
theorem dR_empty_13 : decode (m_C mR_empty) 13 = .ok (.ifCond .eq 7, 3) := by decide +kernel
theorem dR_empty_16 : decode (m_C mR_empty) 16 = .ok (.iconst 0, 1) := by decide +kernel
theorem dR_empty_17 : decode (m_C mR_empty) 17 = .ok (.goto 11, 3) := by decide +kernel
theorem dR_empty_20 : decode (m_C mR_empty) 20 = .ok (.aload_n 0, 1) := by decide +kernel
theorem dR_empty_21 : decode (m_C mR_empty) 21 = .ok (.aload_n 0, 1) := by decide +kernel
theorem dR_empty_22 : decode (m_C mR_empty) 22 = .ok (.getfield 32, 3) := by decide +kernel
theorem dR_empty_25 : decode (m_C mR_empty) 25 = .ok (.invokevirtual 90, 3) := by decide +kernel
theorem dR_empty_28 : decode (m_C mR_empty) 28 = .ok (.ireturn, 1) := by decide +kernel
theorem dR_lose_0 : decode (m_C mR_lose) 0 = .ok (.aload_n 0, 1) := by decide +kernel
theorem dR_lose_1 : decode (m_C mR_lose) 1 = .ok (.getfield 19, 3) := by decide +kernel
theorem dR_lose_4 : decode (m_C mR_lose) 4 = .ok (.iload_n 1, 1) := by decide +kernel
theorem dR_lose_5 : decode (m_C mR_lose) 5 = .ok (.iaload, 1) := by decide +kernel
theorem dR_lose_6 : decode (m_C mR_lose) 6 = .ok (.istore_n 2, 1) := by decide +kernel
theorem dR_lose_7 : decode (m_C mR_lose) 7 = .ok (.iconst 0, 1) := by decide +kernel
theorem dR_lose_8 : decode (m_C mR_lose) 8 = .ok (.istore_n 3, 1) := by decide +kernel
theorem dR_lose_9 : decode (m_C mR_lose) 9 = .ok (.iconst 0, 1) := by decide +kernel
theorem dR_lose_10 : decode (m_C mR_lose) 10 = .ok (.istore 4, 2) := by decide +kernel
theorem dR_lose_12 : decode (m_C mR_lose) 12 = .ok (.iload 4, 2) := by decide +kernel
theorem dR_lose_14 : decode (m_C mR_lose) 14 = .ok (.aload_n 0, 1) := by decide +kernel
theorem dR_lose_15 : decode (m_C mR_lose) 15 = .ok (.getfield 87, 3) := by decide +kernel
theorem dR_lose_18 : decode (m_C mR_lose) 18 = .ok (.if_icmp .ge 52, 3) := by decide +kernel
theorem dR_lose_21 : decode (m_C mR_lose) 21 = .ok (.aload_n 0, 1) := by decide +kernel
theorem dR_lose_22 : decode (m_C mR_lose) 22 = .ok (.getfield 40, 3) := by decide +kernel
theorem dR_lose_25 : decode (m_C mR_lose) 25 = .ok (.iload 4, 2) := by decide +kernel
theorem dR_lose_27 : decode (m_C mR_lose) 27 = .ok (.saload, 1) := by decide +kernel
theorem dR_lose_28 : decode (m_C mR_lose) 28 = .ok (.iload_n 1, 1) := by decide +kernel
theorem dR_lose_29 : decode (m_C mR_lose) 29 = .ok (.if_icmp .ne 6, 3) := by decide +kernel
theorem dR_lose_32 : decode (m_C mR_lose) 32 = .ok (.goto 32, 3) := by decide +kernel
theorem dR_lose_35 : decode (m_C mR_lose) 35 = .ok (.aload_n 0, 1) := by decide +kernel
theorem dR_lose_36 : decode (m_C mR_lose) 36 = .ok (.getfield 36, 3) := by decide +kernel
theorem dR_lose_39 : decode (m_C mR_lose) 39 = .ok (.iload_n 3, 1) := by decide +kernel
theorem dR_lose_40 : decode (m_C mR_lose) 40 = .ok (.aload_n 0, 1) := by decide +kernel
theorem dR_lose_41 : decode (m_C mR_lose) 41 = .ok (.getfield 36, 3) := by decide +kernel
theorem dR_lose_44 : decode (m_C mR_lose) 44 = .ok (.iload 4, 2) := by decide +kernel
theorem dR_lose_46 : decode (m_C mR_lose) 46 = .ok (.baload, 1) := by decide +kernel
theorem dR_lose_47 : decode (m_C mR_lose) 47 = .ok (.bastore, 1) := by decide +kernel
theorem dR_lose_48 : decode (m_C mR_lose) 48 = .ok (.aload_n 0, 1) := by decide +kernel
theorem dR_lose_49 : decode (m_C mR_lose) 49 = .ok (.getfield 40, 3) := by decide +kernel
theorem dR_lose_52 : decode (m_C mR_lose) 52 = .ok (.iload_n 3, 1) := by decide +kernel
theorem dR_lose_53 : decode (m_C mR_lose) 53 = .ok (.aload_n 0, 1) := by decide +kernel
theorem dR_lose_54 : decode (m_C mR_lose) 54 = .ok (.getfield 40, 3) := by decide +kernel
theorem dR_lose_57 : decode (m_C mR_lose) 57 = .ok (.iload 4, 2) := by decide +kernel
theorem dR_lose_59 : decode (m_C mR_lose) 59 = .ok (.saload, 1) := by decide +kernel
theorem dR_lose_60 : decode (m_C mR_lose) 60 = .ok (.sastore, 1) := by decide +kernel
theorem dR_lose_61 : decode (m_C mR_lose) 61 = .ok (.iinc 3 1, 3) := by decide +kernel
theorem dR_lose_64 : decode (m_C mR_lose) 64 = .ok (.iinc 4 1, 3) := by decide +kernel
theorem dR_lose_67 : decode (m_C mR_lose) 67 = .ok (.goto (-55), 3) := by decide +kernel
theorem dR_lose_70 : decode (m_C mR_lose) 70 = .ok (.aload_n 0, 1) := by decide +kernel
theorem dR_lose_71 : decode (m_C mR_lose) 71 = .ok (.iload_n 3, 1) := by decide +kernel
theorem dR_lose_72 : decode (m_C mR_lose) 72 = .ok (.putfield 87, 3) := by decide +kernel
theorem dR_lose_75 : decode (m_C mR_lose) 75 = .ok (.aload_n 0, 1) := by decide +kernel
theorem dR_lose_76 : decode (m_C mR_lose) 76 = .ok (.getfield 19, 3) := by decide +kernel
theorem dR_lose_79 : decode (m_C mR_lose) 79 = .ok (.iload_n 1, 1) := by decide +kernel
theorem dR_lose_80 : decode (m_C mR_lose) 80 = .ok (.iconst 0, 1) := by decide +kernel
theorem dR_lose_81 : decode (m_C mR_lose) 81 = .ok (.iastore, 1) := by decide +kernel
theorem dR_lose_82 : decode (m_C mR_lose) 82 = .ok (.iload_n 2, 1) := by decide +kernel
theorem dR_lose_83 : decode (m_C mR_lose) 83 = .ok (.ireturn, 1) := by decide +kernel
theorem dR_write_0 : decode (m_C mR_write) 0 = .ok (.aload_n 0, 1) := by decide +kernel
theorem dR_write_1 : decode (m_C mR_write) 1 = .ok (.getfield 32, 3) := by decide +kernel
theorem dR_write_4 : decode (m_C mR_write) 4 = .ok (.ifCond .lt 13, 3) := by decide +kernel
theorem dR_write_7 : decode (m_C mR_write) 7 = .ok (.iload_n 3, 1) := by decide +kernel
theorem dR_write_8 : decode (m_C mR_write) 8 = .ok (.ifCond .lt 9, 3) := by decide +kernel
theorem dR_write_11 : decode (m_C mR_write) 11 = .ok (.iload_n 3, 1) := by decide +kernel
theorem dR_write_12 : decode (m_C mR_write) 12 = .ok (.bipush 8, 2) := by decide +kernel
theorem dR_write_14 : decode (m_C mR_write) 14 = .ok (.if_icmp .le 5, 3) := by decide +kernel
theorem dR_write_17 : decode (m_C mR_write) 17 = .ok (.iconst (-1), 1) := by decide +kernel
theorem dR_write_18 : decode (m_C mR_write) 18 = .ok (.ireturn, 1) := by decide +kernel
theorem dR_write_19 : decode (m_C mR_write) 19 = .ok (.iload_n 3, 1) := by decide +kernel
theorem dR_write_20 : decode (m_C mR_write) 20 = .ok (.iconst 1, 1) := by decide +kernel
theorem dR_write_21 : decode (m_C mR_write) 21 = .ok (.isub, 1) := by decide +kernel
theorem dR_write_22 : decode (m_C mR_write) 22 = .ok (.istore 4, 2) := by decide +kernel
theorem dR_write_24 : decode (m_C mR_write) 24 = .ok (.iload 4, 2) := by decide +kernel
theorem dR_write_26 : decode (m_C mR_write) 26 = .ok (.ifCond .lt 98, 3) := by decide +kernel
theorem dR_write_29 : decode (m_C mR_write) 29 = .ok (.aload_n 0, 1) := by decide +kernel
theorem dR_write_30 : decode (m_C mR_write) 30 = .ok (.getfield 83, 3) := by decide +kernel
theorem dR_write_33 : decode (m_C mR_write) 33 = .ok (.ifCond .ne 91, 3) := by decide +kernel
theorem dR_write_36 : decode (m_C mR_write) 36 = .ok (.aload_n 0, 1) := by decide +kernel
theorem dR_write_37 : decode (m_C mR_write) 37 = .ok (.getfield 19, 3) := by decide +kernel
theorem dR_write_40 : decode (m_C mR_write) 40 = .ok (.aload_n 0, 1) := by decide +kernel
theorem dR_write_41 : decode (m_C mR_write) 41 = .ok (.getfield 32, 3) := by decide +kernel
theorem dR_write_44 : decode (m_C mR_write) 44 = .ok (.iaload, 1) := by decide +kernel
theorem dR_write_45 : decode (m_C mR_write) 45 = .ok (.sipush 16384, 3) := by decide +kernel
theorem dR_write_48 : decode (m_C mR_write) 48 = .ok (.if_icmp .eq 70, 3) := by decide +kernel
theorem dR_write_51 : decode (m_C mR_write) 51 = .ok (.aload_n 0, 1) := by decide +kernel
theorem dR_write_52 : decode (m_C mR_write) 52 = .ok (.getfield 87, 3) := by decide +kernel
theorem dR_write_55 : decode (m_C mR_write) 55 = .ok (.ldc 35, 2) := by decide +kernel
theorem dR_write_57 : decode (m_C mR_write) 57 = .ok (.if_icmp .ne 6, 3) := by decide +kernel
theorem dR_write_60 : decode (m_C mR_write) 60 = .ok (.goto 58, 3) := by decide +kernel
theorem dR_write_63 : decode (m_C mR_write) 63 = .ok (.aload_n 0, 1) := by decide +kernel
theorem dR_write_64 : decode (m_C mR_write) 64 = .ok (.getfield 36, 3) := by decide +kernel
theorem dR_write_67 : decode (m_C mR_write) 67 = .ok (.aload_n 0, 1) := by decide +kernel
theorem dR_write_68 : decode (m_C mR_write) 68 = .ok (.getfield 87, 3) := by decide +kernel
theorem dR_write_71 : decode (m_C mR_write) 71 = .ok (.lload_n 1, 1) := by decide +kernel
theorem dR_write_72 : decode (m_C mR_write) 72 = .ok (.bipush 8, 2) := by decide +kernel
theorem dR_write_74 : decode (m_C mR_write) 74 = .ok (.iload 4, 2) := by decide +kernel
theorem dR_write_76 : decode (m_C mR_write) 76 = .ok (.imul, 1) := by decide +kernel
theorem dR_write_77 : decode (m_C mR_write) 77 = .ok (.lshr, 1) := by decide +kernel
theorem dR_write_78 : decode (m_C mR_write) 78 = .ok (.l2i, 1) := by decide +kernel
theorem dR_write_79 : decode (m_C mR_write) 79 = .ok (.i2b, 1) := by decide +kernel
theorem dR_write_80 : decode (m_C mR_write) 80 = .ok (.bastore, 1) := by decide +kernel
theorem dR_write_81 : decode (m_C mR_write) 81 = .ok (.aload_n 0, 1) := by decide +kernel
theorem dR_write_82 : decode (m_C mR_write) 82 = .ok (.getfield 40, 3) := by decide +kernel
theorem dR_write_85 : decode (m_C mR_write) 85 = .ok (.aload_n 0, 1) := by decide +kernel
theorem dR_write_86 : decode (m_C mR_write) 86 = .ok (.getfield 87, 3) := by decide +kernel
theorem dR_write_89 : decode (m_C mR_write) 89 = .ok (.aload_n 0, 1) := by decide +kernel
theorem dR_write_90 : decode (m_C mR_write) 90 = .ok (.getfield 32, 3) := by decide +kernel
theorem dR_write_93 : decode (m_C mR_write) 93 = .ok (.i2s, 1) := by decide +kernel
theorem dR_write_94 : decode (m_C mR_write) 94 = .ok (.sastore, 1) := by decide +kernel
theorem dR_write_95 : decode (m_C mR_write) 95 = .ok (.aload_n 0, 1) := by decide +kernel
theorem dR_write_96 : decode (m_C mR_write) 96 = .ok (.dup, 1) := by decide +kernel
theorem dR_write_97 : decode (m_C mR_write) 97 = .ok (.getfield 87, 3) := by decide +kernel
theorem dR_write_100 : decode (m_C mR_write) 100 = .ok (.iconst 1, 1) := by decide +kernel
theorem dR_write_101 : decode (m_C mR_write) 101 = .ok (.iadd, 1) := by decide +kernel
theorem dR_write_102 : decode (m_C mR_write) 102 = .ok (.putfield 87, 3) := by decide +kernel
theorem dR_write_105 : decode (m_C mR_write) 105 = .ok (.aload_n 0, 1) := by decide +kernel
theorem dR_write_106 : decode (m_C mR_write) 106 = .ok (.getfield 19, 3) := by decide +kernel
theorem dR_write_109 : decode (m_C mR_write) 109 = .ok (.aload_n 0, 1) := by decide +kernel
theorem dR_write_110 : decode (m_C mR_write) 110 = .ok (.getfield 32, 3) := by decide +kernel
theorem dR_write_113 : decode (m_C mR_write) 113 = .ok (.dup2, 1) := by decide +kernel
theorem dR_write_114 : decode (m_C mR_write) 114 = .ok (.iaload, 1) := by decide +kernel
theorem dR_write_115 : decode (m_C mR_write) 115 = .ok (.iconst 1, 1) := by decide +kernel
theorem dR_write_116 : decode (m_C mR_write) 116 = .ok (.iadd, 1) := by decide +kernel
theorem dR_write_117 : decode (m_C mR_write) 117 = .ok (.iastore, 1) := by decide +kernel
theorem dR_write_118 : decode (m_C mR_write) 118 = .ok (.iinc 4 (-1), 3) := by decide +kernel
theorem dR_write_121 : decode (m_C mR_write) 121 = .ok (.goto (-97), 3) := by decide +kernel
theorem dR_write_124 : decode (m_C mR_write) 124 = .ok (.aload_n 0, 1) := by decide +kernel
theorem dR_write_125 : decode (m_C mR_write) 125 = .ok (.getfield 83, 3) := by decide +kernel
theorem dR_write_128 : decode (m_C mR_write) 128 = .ok (.ifCond .eq 7, 3) := by decide +kernel
theorem dR_write_131 : decode (m_C mR_write) 131 = .ok (.iconst 0, 1) := by decide +kernel
theorem dR_write_132 : decode (m_C mR_write) 132 = .ok (.goto 12, 3) := by decide +kernel
theorem dR_write_135 : decode (m_C mR_write) 135 = .ok (.aload_n 0, 1) := by decide +kernel
theorem dR_write_136 : decode (m_C mR_write) 136 = .ok (.getfield 19, 3) := by decide +kernel
theorem dR_write_139 : decode (m_C mR_write) 139 = .ok (.aload_n 0, 1) := by decide +kernel
theorem dR_write_140 : decode (m_C mR_write) 140 = .ok (.getfield 32, 3) := by decide +kernel
theorem dR_write_143 : decode (m_C mR_write) 143 = .ok (.iaload, 1) := by decide +kernel
theorem dR_write_144 : decode (m_C mR_write) 144 = .ok (.ireturn, 1) := by decide +kernel
theorem dR_byteAt_0 : decode (m_C mR_byteAt) 0 = .ok (.aload_n 0, 1) := by decide +kernel
theorem dR_byteAt_1 : decode (m_C mR_byteAt) 1 = .ok (.getfield 32, 3) := by decide +kernel
theorem dR_byteAt_4 : decode (m_C mR_byteAt) 4 = .ok (.ifCond .lt 27, 3) := by decide +kernel
theorem dR_byteAt_7 : decode (m_C mR_byteAt) 7 = .ok (.aload_n 0, 1) := by decide +kernel
theorem dR_byteAt_8 : decode (m_C mR_byteAt) 8 = .ok (.getfield 83, 3) := by decide +kernel
theorem dR_byteAt_11 : decode (m_C mR_byteAt) 11 = .ok (.ifCond .ne 20, 3) := by decide +kernel
theorem dR_byteAt_14 : decode (m_C mR_byteAt) 14 = .ok (.iload_n 1, 1) := by decide +kernel
theorem dR_byteAt_15 : decode (m_C mR_byteAt) 15 = .ok (.ifCond .lt 16, 3) := by decide +kernel
theorem dR_byteAt_18 : decode (m_C mR_byteAt) 18 = .ok (.iload_n 1, 1) := by decide +kernel
theorem dR_byteAt_19 : decode (m_C mR_byteAt) 19 = .ok (.aload_n 0, 1) := by decide +kernel
theorem dR_byteAt_20 : decode (m_C mR_byteAt) 20 = .ok (.getfield 19, 3) := by decide +kernel
theorem dR_byteAt_23 : decode (m_C mR_byteAt) 23 = .ok (.aload_n 0, 1) := by decide +kernel
theorem dR_byteAt_24 : decode (m_C mR_byteAt) 24 = .ok (.getfield 32, 3) := by decide +kernel
theorem dR_byteAt_27 : decode (m_C mR_byteAt) 27 = .ok (.iaload, 1) := by decide +kernel
theorem dR_byteAt_28 : decode (m_C mR_byteAt) 28 = .ok (.if_icmp .lt 5, 3) := by decide +kernel
theorem dR_byteAt_31 : decode (m_C mR_byteAt) 31 = .ok (.iconst (-1), 1) := by decide +kernel
theorem dR_byteAt_32 : decode (m_C mR_byteAt) 32 = .ok (.ireturn, 1) := by decide +kernel
theorem dR_byteAt_33 : decode (m_C mR_byteAt) 33 = .ok (.iload_n 1, 1) := by decide +kernel
theorem dR_byteAt_34 : decode (m_C mR_byteAt) 34 = .ok (.istore_n 2, 1) := by decide +kernel
theorem dR_byteAt_35 : decode (m_C mR_byteAt) 35 = .ok (.iconst 0, 1) := by decide +kernel
theorem dR_byteAt_36 : decode (m_C mR_byteAt) 36 = .ok (.istore_n 3, 1) := by decide +kernel
theorem dR_byteAt_37 : decode (m_C mR_byteAt) 37 = .ok (.aload_n 0, 1) := by decide +kernel
theorem dR_byteAt_38 : decode (m_C mR_byteAt) 38 = .ok (.getfield 40, 3) := by decide +kernel
theorem dR_byteAt_41 : decode (m_C mR_byteAt) 41 = .ok (.iload_n 3, 1) := by decide +kernel
theorem dR_byteAt_42 : decode (m_C mR_byteAt) 42 = .ok (.saload, 1) := by decide +kernel
theorem dR_byteAt_43 : decode (m_C mR_byteAt) 43 = .ok (.aload_n 0, 1) := by decide +kernel
theorem dR_byteAt_44 : decode (m_C mR_byteAt) 44 = .ok (.getfield 32, 3) := by decide +kernel
theorem dR_byteAt_47 : decode (m_C mR_byteAt) 47 = .ok (.if_icmp .ne 7, 3) := by decide +kernel
theorem dR_byteAt_50 : decode (m_C mR_byteAt) 50 = .ok (.iload_n 2, 1) := by decide +kernel
theorem dR_byteAt_51 : decode (m_C mR_byteAt) 51 = .ok (.ifCond .le 30, 3) := by decide +kernel
theorem dR_byteAt_54 : decode (m_C mR_byteAt) 54 = .ok (.iload_n 2, 1) := by decide +kernel
theorem dR_byteAt_55 : decode (m_C mR_byteAt) 55 = .ok (.aload_n 0, 1) := by decide +kernel
theorem dR_byteAt_56 : decode (m_C mR_byteAt) 56 = .ok (.getfield 40, 3) := by decide +kernel
theorem dR_byteAt_59 : decode (m_C mR_byteAt) 59 = .ok (.iload_n 3, 1) := by decide +kernel
theorem dR_byteAt_60 : decode (m_C mR_byteAt) 60 = .ok (.saload, 1) := by decide +kernel
theorem dR_byteAt_61 : decode (m_C mR_byteAt) 61 = .ok (.aload_n 0, 1) := by decide +kernel
theorem dR_byteAt_62 : decode (m_C mR_byteAt) 62 = .ok (.getfield 32, 3) := by decide +kernel
theorem dR_byteAt_65 : decode (m_C mR_byteAt) 65 = .ok (.if_icmp .ne 7, 3) := by decide +kernel
theorem dR_byteAt_68 : decode (m_C mR_byteAt) 68 = .ok (.iconst 1, 1) := by decide +kernel
theorem dR_byteAt_69 : decode (m_C mR_byteAt) 69 = .ok (.goto 4, 3) := by decide +kernel
theorem dR_byteAt_72 : decode (m_C mR_byteAt) 72 = .ok (.iconst 0, 1) := by decide +kernel
theorem dR_byteAt_73 : decode (m_C mR_byteAt) 73 = .ok (.isub, 1) := by decide +kernel
theorem dR_byteAt_74 : decode (m_C mR_byteAt) 74 = .ok (.istore_n 2, 1) := by decide +kernel
theorem dR_byteAt_75 : decode (m_C mR_byteAt) 75 = .ok (.iinc 3 1, 3) := by decide +kernel
theorem dR_byteAt_78 : decode (m_C mR_byteAt) 78 = .ok (.goto (-41), 3) := by decide +kernel
theorem dR_byteAt_81 : decode (m_C mR_byteAt) 81 = .ok (.aload_n 0, 1) := by decide +kernel
theorem dR_byteAt_82 : decode (m_C mR_byteAt) 82 = .ok (.getfield 36, 3) := by decide +kernel
theorem dR_byteAt_85 : decode (m_C mR_byteAt) 85 = .ok (.iload_n 3, 1) := by decide +kernel
theorem dR_byteAt_86 : decode (m_C mR_byteAt) 86 = .ok (.baload, 1) := by decide +kernel
theorem dR_byteAt_87 : decode (m_C mR_byteAt) 87 = .ok (.sipush 255, 3) := by decide +kernel
theorem dR_byteAt_90 : decode (m_C mR_byteAt) 90 = .ok (.iand, 1) := by decide +kernel
theorem dR_byteAt_91 : decode (m_C mR_byteAt) 91 = .ok (.ireturn, 1) := by decide +kernel
theorem dR_remove_0 : decode (m_C mR_remove) 0 = .ok (.aload_n 0, 1) := by decide +kernel
theorem dR_remove_1 : decode (m_C mR_remove) 1 = .ok (.aload_n 0, 1) := by decide +kernel
theorem dR_remove_2 : decode (m_C mR_remove) 2 = .ok (.getfield 44, 3) := by decide +kernel
theorem dR_remove_5 : decode (m_C mR_remove) 5 = .ok (.invokevirtual 65, 3) := by decide +kernel
theorem dR_remove_8 : decode (m_C mR_remove) 8 = .ok (.istore_n 1, 1) := by decide +kernel
theorem dR_remove_9 : decode (m_C mR_remove) 9 = .ok (.aload_n 0, 1) := by decide +kernel
theorem dR_remove_10 : decode (m_C mR_remove) 10 = .ok (.iconst 0, 1) := by decide +kernel
theorem dR_remove_11 : decode (m_C mR_remove) 11 = .ok (.putfield 44, 3) := by decide +kernel
theorem dR_remove_14 : decode (m_C mR_remove) 14 = .ok (.iload_n 1, 1) := by decide +kernel
theorem dR_remove_15 : decode (m_C mR_remove) 15 = .ok (.ifCond .lt 13, 3) := by decide +kernel
theorem dR_remove_18 : decode (m_C mR_remove) 18 = .ok (.aload_n 0, 1) := by decide +kernel
theorem dR_remove_19 : decode (m_C mR_remove) 19 = .ok (.getfield 13, 3) := by decide +kernel
theorem dR_remove_22 : decode (m_C mR_remove) 22 = .ok (.iload_n 1, 1) := by decide +kernel
theorem dR_remove_23 : decode (m_C mR_remove) 23 = .ok (.iaload, 1) := by decide +kernel
theorem dR_remove_24 : decode (m_C mR_remove) 24 = .ok (.iconst 1, 1) := by decide +kernel
theorem dR_remove_25 : decode (m_C mR_remove) 25 = .ok (.if_icmp .eq 5, 3) := by decide +kernel
theorem dR_remove_28 : decode (m_C mR_remove) 28 = .ok (.iconst 0, 1) := by decide +kernel
theorem dR_remove_29 : decode (m_C mR_remove) 29 = .ok (.ireturn, 1) := by decide +kernel
theorem dR_remove_30 : decode (m_C mR_remove) 30 = .ok (.aload_n 0, 1) := by decide +kernel
theorem dR_remove_31 : decode (m_C mR_remove) 31 = .ok (.iload_n 1, 1) := by decide +kernel
theorem dR_remove_32 : decode (m_C mR_remove) 32 = .ok (.invokevirtual 93, 3) := by decide +kernel
theorem dR_remove_35 : decode (m_C mR_remove) 35 = .ok (.iconst 1, 1) := by decide +kernel
theorem dR_remove_36 : decode (m_C mR_remove) 36 = .ok (.ireturn, 1) := by decide +kernel
theorem dR_removeFile_0 : decode (m_C mR_removeFile) 0 = .ok (.aload_n 0, 1) := by decide +kernel
theorem dR_removeFile_1 : decode (m_C mR_removeFile) 1 = .ok (.iload_n 1, 1) := by decide +kernel
theorem dR_removeFile_2 : decode (m_C mR_removeFile) 2 = .ok (.invokevirtual 90, 3) := by decide +kernel
theorem dR_removeFile_5 : decode (m_C mR_removeFile) 5 = .ok (.istore_n 2, 1) := by decide +kernel
theorem dR_removeFile_6 : decode (m_C mR_removeFile) 6 = .ok (.aload_n 0, 1) := by decide +kernel
theorem dR_removeFile_7 : decode (m_C mR_removeFile) 7 = .ok (.getfield 13, 3) := by decide +kernel
theorem dR_removeFile_10 : decode (m_C mR_removeFile) 10 = .ok (.iload_n 1, 1) := by decide +kernel
theorem dR_removeFile_11 : decode (m_C mR_removeFile) 11 = .ok (.iconst 0, 1) := by decide +kernel
theorem dR_removeFile_12 : decode (m_C mR_removeFile) 12 = .ok (.iastore, 1) := by decide +kernel
theorem dR_removeFile_13 : decode (m_C mR_removeFile) 13 = .ok (.aload_n 0, 1) := by decide +kernel
theorem dR_removeFile_14 : decode (m_C mR_removeFile) 14 = .ok (.dup, 1) := by decide +kernel
theorem dR_removeFile_15 : decode (m_C mR_removeFile) 15 = .ok (.getfield 28, 3) := by decide +kernel
theorem dR_removeFile_18 : decode (m_C mR_removeFile) 18 = .ok (.iconst 1, 1) := by decide +kernel
theorem dR_removeFile_19 : decode (m_C mR_removeFile) 19 = .ok (.isub, 1) := by decide +kernel
theorem dR_removeFile_20 : decode (m_C mR_removeFile) 20 = .ok (.putfield 28, 3) := by decide +kernel
theorem dR_removeFile_23 : decode (m_C mR_removeFile) 23 = .ok (.aload_n 0, 1) := by decide +kernel
theorem dR_removeFile_24 : decode (m_C mR_removeFile) 24 = .ok (.aload_n 0, 1) := by decide +kernel
theorem dR_removeFile_25 : decode (m_C mR_removeFile) 25 = .ok (.getfield 83, 3) := by decide +kernel
theorem dR_removeFile_28 : decode (m_C mR_removeFile) 28 = .ok (.ifCond .ne 11, 3) := by decide +kernel
theorem dR_removeFile_31 : decode (m_C mR_removeFile) 31 = .ok (.iload_n 1, 1) := by decide +kernel
theorem dR_removeFile_32 : decode (m_C mR_removeFile) 32 = .ok (.aload_n 0, 1) := by decide +kernel
theorem dR_removeFile_33 : decode (m_C mR_removeFile) 33 = .ok (.getfield 32, 3) := by decide +kernel
theorem dR_removeFile_36 : decode (m_C mR_removeFile) 36 = .ok (.if_icmp .ne 7, 3) := by decide +kernel
theorem dR_removeFile_39 : decode (m_C mR_removeFile) 39 = .ok (.iconst 1, 1) := by decide +kernel
theorem dR_removeFile_40 : decode (m_C mR_removeFile) 40 = .ok (.goto 4, 3) := by decide +kernel
theorem dR_removeFile_43 : decode (m_C mR_removeFile) 43 = .ok (.iconst 0, 1) := by decide +kernel
theorem dR_removeFile_44 : decode (m_C mR_removeFile) 44 = .ok (.putfield 83, 3) := by decide +kernel
