theorem dP_target_52 : decode (m_C mP_target) 52 = .ok (.aload_n 1, 1) := by decide +kernel
theorem dP_target_53 : decode (m_C mP_target) 53 = .ok (.areturn, 1) := by decide +kernel
theorem dP_entryBefore_0 : decode (m_C mP_entryBefore) 0 = .ok (.aload_n 0, 1) := by decide +kernel
theorem dP_entryBefore_1 : decode (m_C mP_entryBefore) 1 = .ok (.getfield 10, 3) := by decide +kernel
theorem dP_entryBefore_4 : decode (m_C mP_entryBefore) 4 = .ok (.iconst 0, 1) := by decide +kernel
theorem dP_entryBefore_5 : decode (m_C mP_entryBefore) 5 = .ok (.invokevirtual 138, 3) := by decide +kernel
theorem dP_entryBefore_8 : decode (m_C mP_entryBefore) 8 = .ok (.ifCond .eq 10, 3) := by decide +kernel
theorem dP_entryBefore_11 : decode (m_C mP_entryBefore) 11 = .ok (.aload_n 0, 1) := by decide +kernel
theorem dP_entryBefore_12 : decode (m_C mP_entryBefore) 12 = .ok (.getfield 21, 3) := by decide +kernel
theorem dP_entryBefore_15 : decode (m_C mP_entryBefore) 15 = .ok (.goto 7, 3) := by decide +kernel
theorem dP_entryBefore_18 : decode (m_C mP_entryBefore) 18 = .ok (.aload_n 0, 1) := by decide +kernel
theorem dP_entryBefore_19 : decode (m_C mP_entryBefore) 19 = .ok (.getfield 25, 3) := by decide +kernel
theorem dP_entryBefore_22 : decode (m_C mP_entryBefore) 22 = .ok (.astore_n 2, 1) := by decide +kernel
theorem dP_entryBefore_23 : decode (m_C mP_entryBefore) 23 = .ok (.iconst 0, 1) := by decide +kernel
theorem dP_entryBefore_24 : decode (m_C mP_entryBefore) 24 = .ok (.istore_n 3, 1) := by decide +kernel
theorem dP_entryBefore_25 : decode (m_C mP_entryBefore) 25 = .ok (.iconst 0, 1) := by decide +kernel
theorem dP_entryBefore_26 : decode (m_C mP_entryBefore) 26 = .ok (.istore 4, 2) := by decide +kernel
theorem dP_entryBefore_28 : decode (m_C mP_entryBefore) 28 = .ok (.iload 4, 2) := by decide +kernel
theorem dP_entryBefore_30 : decode (m_C mP_entryBefore) 30 = .ok (.iload_n 1, 1) := by decide +kernel
theorem dP_entryBefore_31 : decode (m_C mP_entryBefore) 31 = .ok (.if_icmp .gt 45, 3) := by decide +kernel
theorem dP_entryBefore_34 : decode (m_C mP_entryBefore) 34 = .ok (.aload_n 2, 1) := by decide +kernel
theorem dP_entryBefore_35 : decode (m_C mP_entryBefore) 35 = .ok (.ifnull 41, 3) := by decide +kernel
theorem dP_entryBefore_38 : decode (m_C mP_entryBefore) 38 = .ok (.iload 4, 2) := by decide +kernel
theorem dP_entryBefore_40 : decode (m_C mP_entryBefore) 40 = .ok (.iload_n 1, 1) := by decide +kernel
theorem dP_entryBefore_41 : decode (m_C mP_entryBefore) 41 = .ok (.if_icmp .eq 15, 3) := by decide +kernel
theorem dP_entryBefore_44 : decode (m_C mP_entryBefore) 44 = .ok (.aload_n 0, 1) := by decide +kernel
theorem dP_entryBefore_45 : decode (m_C mP_entryBefore) 45 = .ok (.getfield 10, 3) := by decide +kernel
theorem dP_entryBefore_48 : decode (m_C mP_entryBefore) 48 = .ok (.iload 4, 2) := by decide +kernel
theorem dP_entryBefore_50 : decode (m_C mP_entryBefore) 50 = .ok (.invokevirtual 138, 3) := by decide +kernel
theorem dP_entryBefore_53 : decode (m_C mP_entryBefore) 53 = .ok (.ifCond .eq 17, 3) := by decide +kernel
theorem dP_entryBefore_56 : decode (m_C mP_entryBefore) 56 = .ok (.aload_n 0, 1) := by decide +kernel
theorem dP_entryBefore_57 : decode (m_C mP_entryBefore) 57 = .ok (.aload_n 2, 1) := by decide +kernel
theorem dP_entryBefore_58 : decode (m_C mP_entryBefore) 58 = .ok (.iload_n 3, 1) := by decide +kernel
theorem dP_entryBefore_59 : decode (m_C mP_entryBefore) 59 = .ok (.iload 4, 2) := by decide +kernel
theorem dP_entryBefore_61 : decode (m_C mP_entryBefore) 61 = .ok (.invokevirtual 144, 3) := by decide +kernel
theorem dP_entryBefore_64 : decode (m_C mP_entryBefore) 64 = .ok (.astore_n 2, 1) := by decide +kernel
theorem dP_entryBefore_65 : decode (m_C mP_entryBefore) 65 = .ok (.iload 4, 2) := by decide +kernel
theorem dP_entryBefore_67 : decode (m_C mP_entryBefore) 67 = .ok (.iconst 1, 1) := by decide +kernel
theorem dP_entryBefore_68 : decode (m_C mP_entryBefore) 68 = .ok (.iadd, 1) := by decide +kernel
theorem dP_entryBefore_69 : decode (m_C mP_entryBefore) 69 = .ok (.istore_n 3, 1) := by decide +kernel
theorem dP_entryBefore_70 : decode (m_C mP_entryBefore) 70 = .ok (.iinc 4 1, 3) := by decide +kernel
theorem dP_entryBefore_73 : decode (m_C mP_entryBefore) 73 = .ok (.goto (-45), 3) := by decide +kernel
theorem dP_entryBefore_76 : decode (m_C mP_entryBefore) 76 = .ok (.aload_n 2, 1) := by decide +kernel
theorem dP_entryBefore_77 : decode (m_C mP_entryBefore) 77 = .ok (.areturn, 1) := by decide +kernel
theorem dT_isSlash_0 : decode (m_C mT_isSlash) 0 = .ok (.aload_n 0, 1) := by decide +kernel
theorem dT_isSlash_1 : decode (m_C mT_isSlash) 1 = .ok (.bipush 47, 2) := by decide +kernel
theorem dT_isSlash_3 : decode (m_C mT_isSlash) 3 = .ok (.iload_n 1, 1) := by decide +kernel
theorem dT_isSlash_4 : decode (m_C mT_isSlash) 4 = .ok (.invokevirtual 27, 3) := by decide +kernel
theorem dT_isSlash_7 : decode (m_C mT_isSlash) 7 = .ok (.ireturn, 1) := by decide +kernel
theorem dT_is_0 : decode (m_C mT_is) 0 = .ok (.iload_n 2, 1) := by decide +kernel
theorem dT_is_1 : decode (m_C mT_is) 1 = .ok (.ifCond .lt 25, 3) := by decide +kernel
theorem dT_is_4 : decode (m_C mT_is) 4 = .ok (.iload_n 2, 1) := by decide +kernel
theorem dT_is_5 : decode (m_C mT_is) 5 = .ok (.aload_n 0, 1) := by decide +kernel
theorem dT_is_6 : decode (m_C mT_is) 6 = .ok (.getfield 13, 3) := by decide +kernel
theorem dT_is_9 : decode (m_C mT_is) 9 = .ok (.if_icmp .ge 17, 3) := by decide +kernel
theorem dT_is_12 : decode (m_C mT_is) 12 = .ok (.aload_n 0, 1) := by decide +kernel
theorem dT_is_13 : decode (m_C mT_is) 13 = .ok (.getfield 9, 3) := by decide +kernel
theorem dT_is_16 : decode (m_C mT_is) 16 = .ok (.iload_n 2, 1) := by decide +kernel
theorem dT_is_17 : decode (m_C mT_is) 17 = .ok (.caload, 1) := by decide +kernel
theorem dT_is_18 : decode (m_C mT_is) 18 = .ok (.iload_n 1, 1) := by decide +kernel
theorem dT_is_19 : decode (m_C mT_is) 19 = .ok (.if_icmp .ne 7, 3) := by decide +kernel
theorem dT_is_22 : decode (m_C mT_is) 22 = .ok (.iconst 1, 1) := by decide +kernel
theorem dT_is_23 : decode (m_C mT_is) 23 = .ok (.goto 4, 3) := by decide +kernel
theorem dT_is_26 : decode (m_C mT_is) 26 = .ok (.iconst 0, 1) := by decide +kernel
theorem dT_is_27 : decode (m_C mT_is) 27 = .ok (.ireturn, 1) := by decide +kernel
theorem dP_step_0 : decode (m_C mP_step) 0 = .ok (.iload_n 2, 1) := by decide +kernel
theorem dP_step_1 : decode (m_C mP_step) 1 = .ok (.iload_n 3, 1) := by decide +kernel
theorem dP_step_2 : decode (m_C mP_step) 2 = .ok (.if_icmp .ne 5, 3) := by decide +kernel
theorem dP_step_5 : decode (m_C mP_step) 5 = .ok (.aload_n 1, 1) := by decide +kernel
theorem dP_step_6 : decode (m_C mP_step) 6 = .ok (.areturn, 1) := by decide +kernel
theorem dP_step_7 : decode (m_C mP_step) 7 = .ok (.aload_n 1, 1) := by decide +kernel
theorem dP_step_8 : decode (m_C mP_step) 8 = .ok (.instanceof 16, 3) := by decide +kernel
theorem dP_step_11 : decode (m_C mP_step) 11 = .ok (.ifCond .eq 12, 3) := by decide +kernel
theorem dP_step_14 : decode (m_C mP_step) 14 = .ok (.aload_n 1, 1) := by decide +kernel
theorem dP_step_15 : decode (m_C mP_step) 15 = .ok (.checkcast 16, 3) := by decide +kernel
theorem dP_step_18 : decode (m_C mP_step) 18 = .ok (.astore 4, 2) := by decide +kernel
theorem dP_step_20 : decode (m_C mP_step) 20 = .ok (.goto 5, 3) := by decide +kernel
theorem dP_step_23 : decode (m_C mP_step) 23 = .ok (.aconst_null, 1) := by decide +kernel
theorem dP_step_24 : decode (m_C mP_step) 24 = .ok (.areturn, 1) := by decide +kernel
theorem dP_step_25 : decode (m_C mP_step) 25 = .ok (.aload_n 0, 1) := by decide +kernel
theorem dP_step_26 : decode (m_C mP_step) 26 = .ok (.getfield 10, 3) := by decide +kernel
theorem dP_step_29 : decode (m_C mP_step) 29 = .ok (.iload_n 2, 1) := by decide +kernel
theorem dP_step_30 : decode (m_C mP_step) 30 = .ok (.iload_n 3, 1) := by decide +kernel
theorem dP_step_31 : decode (m_C mP_step) 31 = .ok (.invokevirtual 148, 3) := by decide +kernel
theorem dP_step_34 : decode (m_C mP_step) 34 = .ok (.ifCond .eq 6, 3) := by decide +kernel
theorem dP_step_37 : decode (m_C mP_step) 37 = .ok (.aload 4, 2) := by decide +kernel
theorem dP_step_39 : decode (m_C mP_step) 39 = .ok (.areturn, 1) := by decide +kernel
theorem dP_step_40 : decode (m_C mP_step) 40 = .ok (.aload_n 0, 1) := by decide +kernel
theorem dP_step_41 : decode (m_C mP_step) 41 = .ok (.getfield 10, 3) := by decide +kernel
theorem dP_step_44 : decode (m_C mP_step) 44 = .ok (.iload_n 2, 1) := by decide +kernel
theorem dP_step_45 : decode (m_C mP_step) 45 = .ok (.iload_n 3, 1) := by decide +kernel
theorem dP_step_46 : decode (m_C mP_step) 46 = .ok (.invokevirtual 152, 3) := by decide +kernel
theorem dP_step_49 : decode (m_C mP_step) 49 = .ok (.ifCond .eq 22, 3) := by decide +kernel
theorem dP_step_52 : decode (m_C mP_step) 52 = .ok (.aload 4, 2) := by decide +kernel
theorem dP_step_54 : decode (m_C mP_step) 54 = .ok (.getfield 155, 3) := by decide +kernel
theorem dP_step_57 : decode (m_C mP_step) 57 = .ok (.ifnonnull 8, 3) := by decide +kernel
theorem dP_step_60 : decode (m_C mP_step) 60 = .ok (.aload 4, 2) := by decide +kernel
theorem dP_step_62 : decode (m_C mP_step) 62 = .ok (.goto 8, 3) := by decide +kernel
theorem dP_step_65 : decode (m_C mP_step) 65 = .ok (.aload 4, 2) := by decide +kernel
theorem dP_step_67 : decode (m_C mP_step) 67 = .ok (.getfield 155, 3) := by decide +kernel
theorem dP_step_70 : decode (m_C mP_step) 70 = .ok (.areturn, 1) := by decide +kernel
theorem dP_step_71 : decode (m_C mP_step) 71 = .ok (.aload 4, 2) := by decide +kernel
theorem dP_step_73 : decode (m_C mP_step) 73 = .ok (.aload_n 0, 1) := by decide +kernel
theorem dP_step_74 : decode (m_C mP_step) 74 = .ok (.getfield 10, 3) := by decide +kernel
theorem dP_step_77 : decode (m_C mP_step) 77 = .ok (.getfield 156, 3) := by decide +kernel
theorem dP_step_80 : decode (m_C mP_step) 80 = .ok (.iload_n 2, 1) := by decide +kernel
theorem dP_step_81 : decode (m_C mP_step) 81 = .ok (.iload_n 3, 1) := by decide +kernel
theorem dP_step_82 : decode (m_C mP_step) 82 = .ok (.invokevirtual 159, 3) := by decide +kernel
theorem dP_step_85 : decode (m_C mP_step) 85 = .ok (.areturn, 1) := by decide +kernel
theorem dT_isDot_0 : decode (m_C mT_isDot) 0 = .ok (.iload_n 2, 1) := by decide +kernel
theorem dT_isDot_1 : decode (m_C mT_isDot) 1 = .ok (.iload_n 1, 1) := by decide +kernel
theorem dT_isDot_2 : decode (m_C mT_isDot) 2 = .ok (.isub, 1) := by decide +kernel
theorem dT_isDot_3 : decode (m_C mT_isDot) 3 = .ok (.iconst 1, 1) := by decide +kernel
theorem dT_isDot_4 : decode (m_C mT_isDot) 4 = .ok (.if_icmp .ne 17, 3) := by decide +kernel
theorem dT_isDot_7 : decode (m_C mT_isDot) 7 = .ok (.aload_n 0, 1) := by decide +kernel
theorem dT_isDot_8 : decode (m_C mT_isDot) 8 = .ok (.bipush 46, 2) := by decide +kernel
theorem dT_isDot_10 : decode (m_C mT_isDot) 10 = .ok (.iload_n 1, 1) := by decide +kernel
theorem dT_isDot_11 : decode (m_C mT_isDot) 11 = .ok (.invokevirtual 27, 3) := by decide +kernel
theorem dT_isDot_14 : decode (m_C mT_isDot) 14 = .ok (.ifCond .eq 7, 3) := by decide +kernel
theorem dT_isDot_17 : decode (m_C mT_isDot) 17 = .ok (.iconst 1, 1) := by decide +kernel
theorem dT_isDot_18 : decode (m_C mT_isDot) 18 = .ok (.goto 4, 3) := by decide +kernel
theorem dT_isDot_21 : decode (m_C mT_isDot) 21 = .ok (.iconst 0, 1) := by decide +kernel
theorem dT_isDot_22 : decode (m_C mT_isDot) 22 = .ok (.ireturn, 1) := by decide +kernel
theorem dT_isDotDot_0 : decode (m_C mT_isDotDot) 0 = .ok (.iload_n 2, 1) := by decide +kernel
theorem dT_isDotDot_1 : decode (m_C mT_isDotDot) 1 = .ok (.iload_n 1, 1) := by decide +kernel
theorem dT_isDotDot_2 : decode (m_C mT_isDotDot) 2 = .ok (.isub, 1) := by decide +kernel
theorem dT_isDotDot_3 : decode (m_C mT_isDotDot) 3 = .ok (.iconst 2, 1) := by decide +kernel
theorem dT_isDotDot_4 : decode (m_C mT_isDotDot) 4 = .ok (.if_icmp .ne 29, 3) := by decide +kernel
theorem dT_isDotDot_7 : decode (m_C mT_isDotDot) 7 = .ok (.aload_n 0, 1) := by decide +kernel
theorem dT_isDotDot_8 : decode (m_C mT_isDotDot) 8 = .ok (.bipush 46, 2) := by decide +kernel
theorem dT_isDotDot_10 : decode (m_C mT_isDotDot) 10 = .ok (.iload_n 1, 1) := by decide +kernel
theorem dT_isDotDot_11 : decode (m_C mT_isDotDot) 11 = .ok (.invokevirtual 27, 3) := by decide +kernel
theorem dT_isDotDot_14 : decode (m_C mT_isDotDot) 14 = .ok (.ifCond .eq 19, 3) := by decide +kernel
theorem dT_isDotDot_17 : decode (m_C mT_isDotDot) 17 = .ok (.aload_n 0, 1) := by decide +kernel
theorem dT_isDotDot_18 : decode (m_C mT_isDotDot) 18 = .ok (.bipush 46, 2) := by decide +kernel
theorem dT_isDotDot_20 : decode (m_C mT_isDotDot) 20 = .ok (.iload_n 1, 1) := by decide +kernel
theorem dT_isDotDot_21 : decode (m_C mT_isDotDot) 21 = .ok (.iconst 1, 1) := by decide +kernel
theorem dT_isDotDot_22 : decode (m_C mT_isDotDot) 22 = .ok (.iadd, 1) := by decide +kernel
theorem dT_isDotDot_23 : decode (m_C mT_isDotDot) 23 = .ok (.invokevirtual 27, 3) := by decide +kernel
theorem dT_isDotDot_26 : decode (m_C mT_isDotDot) 26 = .ok (.ifCond .eq 7, 3) := by decide +kernel
theorem dT_isDotDot_29 : decode (m_C mT_isDotDot) 29 = .ok (.iconst 1, 1) := by decide +kernel
theorem dT_isDotDot_30 : decode (m_C mT_isDotDot) 30 = .ok (.goto 4, 3) := by decide +kernel
theorem dT_isDotDot_33 : decode (m_C mT_isDotDot) 33 = .ok (.iconst 0, 1) := by decide +kernel
theorem dT_isDotDot_34 : decode (m_C mT_isDotDot) 34 = .ok (.ireturn, 1) := by decide +kernel
theorem dD_entryCalled_0 : decode (m_C mD_entryCalled) 0 = .ok (.aload_n 0, 1) := by decide +kernel
theorem dD_entryCalled_1 : decode (m_C mD_entryCalled) 1 = .ok (.getfield 7, 3) := by decide +kernel
theorem dD_entryCalled_4 : decode (m_C mD_entryCalled) 4 = .ok (.astore 4, 2) := by decide +kernel
theorem dD_entryCalled_6 : decode (m_C mD_entryCalled) 6 = .ok (.aload 4, 2) := by decide +kernel
theorem dD_entryCalled_8 : decode (m_C mD_entryCalled) 8 = .ok (.ifnull 27, 3) := by decide +kernel
theorem dD_entryCalled_11 : decode (m_C mD_entryCalled) 11 = .ok (.aload 4, 2) := by decide +kernel
theorem dD_entryCalled_13 : decode (m_C mD_entryCalled) 13 = .ok (.aload_n 1, 1) := by decide +kernel
theorem dD_entryCalled_14 : decode (m_C mD_entryCalled) 14 = .ok (.iload_n 2, 1) := by decide +kernel
theorem dD_entryCalled_15 : decode (m_C mD_entryCalled) 15 = .ok (.iload_n 3, 1) := by decide +kernel
theorem dD_entryCalled_16 : decode (m_C mD_entryCalled) 16 = .ok (.invokevirtual 17, 3) := by decide +kernel
theorem dD_entryCalled_19 : decode (m_C mD_entryCalled) 19 = .ok (.ifCond .ne 6, 3) := by decide +kernel
theorem dD_entryCalled_22 : decode (m_C mD_entryCalled) 22 = .ok (.aload 4, 2) := by decide +kernel
theorem dD_entryCalled_24 : decode (m_C mD_entryCalled) 24 = .ok (.areturn, 1) := by decide +kernel
theorem dD_entryCalled_25 : decode (m_C mD_entryCalled) 25 = .ok (.aload 4, 2) := by decide +kernel
theorem dD_entryCalled_27 : decode (m_C mD_entryCalled) 27 = .ok (.getfield 21, 3) := by decide +kernel
theorem dD_entryCalled_30 : decode (m_C mD_entryCalled) 30 = .ok (.astore 4, 2) := by decide +kernel
theorem dD_entryCalled_32 : decode (m_C mD_entryCalled) 32 = .ok (.goto (-26), 3) := by decide +kernel
theorem dD_entryCalled_35 : decode (m_C mD_entryCalled) 35 = .ok (.aconst_null, 1) := by decide +kernel
theorem dD_entryCalled_36 : decode (m_C mD_entryCalled) 36 = .ok (.areturn, 1) := by decide +kernel
theorem dE_order_0 : decode (m_C mE_order) 0 = .ok (.iload_n 3, 1) := by decide +kernel
theorem dE_order_1 : decode (m_C mE_order) 1 = .ok (.iload_n 2, 1) := by decide +kernel
theorem dE_order_2 : decode (m_C mE_order) 2 = .ok (.isub, 1) := by decide +kernel
theorem dE_order_3 : decode (m_C mE_order) 3 = .ok (.istore 4, 2) := by decide +kernel
theorem dE_order_5 : decode (m_C mE_order) 5 = .ok (.iconst 0, 1) := by decide +kernel
theorem dE_order_6 : decode (m_C mE_order) 6 = .ok (.istore 5, 2) := by decide +kernel
theorem dE_order_8 : decode (m_C mE_order) 8 = .ok (.iload 5, 2) := by decide +kernel
theorem dE_order_10 : decode (m_C mE_order) 10 = .ok (.aload_n 0, 1) := by decide +kernel
theorem dE_order_11 : decode (m_C mE_order) 11 = .ok (.getfield 17, 3) := by decide +kernel
theorem dE_order_14 : decode (m_C mE_order) 14 = .ok (.arraylength, 1) := by decide +kernel
theorem dE_order_15 : decode (m_C mE_order) 15 = .ok (.if_icmp .ge 47, 3) := by decide +kernel
theorem dE_order_18 : decode (m_C mE_order) 18 = .ok (.iload 5, 2) := by decide +kernel
theorem dE_order_20 : decode (m_C mE_order) 20 = .ok (.iload 4, 2) := by decide +kernel
theorem dE_order_22 : decode (m_C mE_order) 22 = .ok (.if_icmp .ge 40, 3) := by decide +kernel
theorem dE_order_25 : decode (m_C mE_order) 25 = .ok (.aload_n 0, 1) := by decide +kernel
theorem dE_order_26 : decode (m_C mE_order) 26 = .ok (.getfield 17, 3) := by decide +kernel
theorem dE_order_29 : decode (m_C mE_order) 29 = .ok (.iload 5, 2) := by decide +kernel
theorem dE_order_31 : decode (m_C mE_order) 31 = .ok (.caload, 1) := by decide +kernel
theorem dE_order_32 : decode (m_C mE_order) 32 = .ok (.aload_n 1, 1) := by decide +kernel
theorem dE_order_33 : decode (m_C mE_order) 33 = .ok (.iload_n 2, 1) := by decide +kernel
theorem dE_order_34 : decode (m_C mE_order) 34 = .ok (.iload 5, 2) := by decide +kernel
theorem dE_order_36 : decode (m_C mE_order) 36 = .ok (.iadd, 1) := by decide +kernel
theorem dE_order_37 : decode (m_C mE_order) 37 = .ok (.caload, 1) := by decide +kernel
theorem dE_order_38 : decode (m_C mE_order) 38 = .ok (.if_icmp .eq 18, 3) := by decide +kernel
theorem dE_order_41 : decode (m_C mE_order) 41 = .ok (.aload_n 0, 1) := by decide +kernel
theorem dE_order_42 : decode (m_C mE_order) 42 = .ok (.getfield 17, 3) := by decide +kernel
theorem dE_order_45 : decode (m_C mE_order) 45 = .ok (.iload 5, 2) := by decide +kernel
theorem dE_order_47 : decode (m_C mE_order) 47 = .ok (.caload, 1) := by decide +kernel
theorem dE_order_48 : decode (m_C mE_order) 48 = .ok (.aload_n 1, 1) := by decide +kernel
theorem dE_order_49 : decode (m_C mE_order) 49 = .ok (.iload_n 2, 1) := by decide +kernel
theorem dE_order_50 : decode (m_C mE_order) 50 = .ok (.iload 5, 2) := by decide +kernel
theorem dE_order_52 : decode (m_C mE_order) 52 = .ok (.iadd, 1) := by decide +kernel
theorem dE_order_53 : decode (m_C mE_order) 53 = .ok (.caload, 1) := by decide +kernel
theorem dE_order_54 : decode (m_C mE_order) 54 = .ok (.isub, 1) := by decide +kernel
theorem dE_order_55 : decode (m_C mE_order) 55 = .ok (.ireturn, 1) := by decide +kernel
theorem dE_order_56 : decode (m_C mE_order) 56 = .ok (.iinc 5 1, 3) := by decide +kernel
theorem dE_order_59 : decode (m_C mE_order) 59 = .ok (.goto (-51), 3) := by decide +kernel
theorem dE_order_62 : decode (m_C mE_order) 62 = .ok (.aload_n 0, 1) := by decide +kernel
theorem dE_order_63 : decode (m_C mE_order) 63 = .ok (.getfield 17, 3) := by decide +kernel
theorem dE_order_66 : decode (m_C mE_order) 66 = .ok (.arraylength, 1) := by decide +kernel
theorem dE_order_67 : decode (m_C mE_order) 67 = .ok (.iload 4, 2) := by decide +kernel
theorem dE_order_69 : decode (m_C mE_order) 69 = .ok (.isub, 1) := by decide +kernel
theorem dE_order_70 : decode (m_C mE_order) 70 = .ok (.ireturn, 1) := by decide +kernel
theorem dT_clear_0 : decode (m_C mT_clear) 0 = .ok (.aload_n 0, 1) := by decide +kernel
theorem dT_clear_1 : decode (m_C mT_clear) 1 = .ok (.iconst 0, 1) := by decide +kernel
theorem dT_clear_2 : decode (m_C mT_clear) 2 = .ok (.putfield 13, 3) := by decide +kernel
theorem dT_clear_5 : decode (m_C mT_clear) 5 = .ok (.return_, 1) := by decide +kernel
theorem dP_make_0 : decode (m_C mP_make) 0 = .ok (.aload_n 0, 1) := by decide +kernel
theorem dP_make_1 : decode (m_C mP_make) 1 = .ok (.invokevirtual 64, 3) := by decide +kernel
theorem dP_make_4 : decode (m_C mP_make) 4 = .ok (.astore_n 1, 1) := by decide +kernel
theorem dP_make_5 : decode (m_C mP_make) 5 = .ok (.aload_n 1, 1) := by decide +kernel
theorem dP_make_6 : decode (m_C mP_make) 6 = .ok (.ifnull 31, 3) := by decide +kernel
theorem dP_make_9 : decode (m_C mP_make) 9 = .ok (.aload_n 1, 1) := by decide +kernel
theorem dP_make_10 : decode (m_C mP_make) 10 = .ok (.new 16, 3) := by decide +kernel
theorem dP_make_13 : decode (m_C mP_make) 13 = .ok (.dup, 1) := by decide +kernel
theorem dP_make_14 : decode (m_C mP_make) 14 = .ok (.aload_n 0, 1) := by decide +kernel
theorem dP_make_15 : decode (m_C mP_make) 15 = .ok (.getfield 10, 3) := by decide +kernel
theorem dP_make_18 : decode (m_C mP_make) 18 = .ok (.invokevirtual 68, 3) := by decide +kernel
theorem dP_make_21 : decode (m_C mP_make) 21 = .ok (.invokespecial 18, 3) := by decide +kernel
theorem dP_make_24 : decode (m_C mP_make) 24 = .ok (.invokevirtual 72, 3) := by decide +kernel
theorem dP_make_27 : decode (m_C mP_make) 27 = .ok (.aload_n 0, 1) := by decide +kernel
theorem dP_make_28 : decode (m_C mP_make) 28 = .ok (.dup, 1) := by decide +kernel
theorem dP_make_29 : decode (m_C mP_make) 29 = .ok (.getfield 36, 3) := by decide +kernel
theorem dP_make_32 : decode (m_C mP_make) 32 = .ok (.iconst 1, 1) := by decide +kernel
theorem dP_make_33 : decode (m_C mP_make) 33 = .ok (.iadd, 1) := by decide +kernel
theorem dP_make_34 : decode (m_C mP_make) 34 = .ok (.putfield 36, 3) := by decide +kernel
theorem dP_make_37 : decode (m_C mP_make) 37 = .ok (.aload_n 0, 1) := by decide +kernel
theorem dP_make_38 : decode (m_C mP_make) 38 = .ok (.getfield 10, 3) := by decide +kernel
theorem dP_make_41 : decode (m_C mP_make) 41 = .ok (.invokevirtual 61, 3) := by decide +kernel
theorem dP_make_44 : decode (m_C mP_make) 44 = .ok (.aload_n 1, 1) := by decide +kernel
theorem dP_make_45 : decode (m_C mP_make) 45 = .ok (.ifnull 7, 3) := by decide +kernel
theorem dP_make_48 : decode (m_C mP_make) 48 = .ok (.iconst 1, 1) := by decide +kernel
theorem dP_make_49 : decode (m_C mP_make) 49 = .ok (.goto 4, 3) := by decide +kernel
theorem dP_make_52 : decode (m_C mP_make) 52 = .ok (.iconst 0, 1) := by decide +kernel
theorem dP_make_53 : decode (m_C mP_make) 53 = .ok (.ireturn, 1) := by decide +kernel
theorem dP_homeOfNew_0 : decode (m_C mP_homeOfNew) 0 = .ok (.aload_n 0, 1) := by decide +kernel
theorem dP_homeOfNew_1 : decode (m_C mP_homeOfNew) 1 = .ok (.getfield 32, 3) := by decide +kernel
theorem dP_homeOfNew_4 : decode (m_C mP_homeOfNew) 4 = .ok (.aload_n 0, 1) := by decide +kernel
theorem dP_homeOfNew_5 : decode (m_C mP_homeOfNew) 5 = .ok (.getfield 36, 3) := by decide +kernel
theorem dP_homeOfNew_8 : decode (m_C mP_homeOfNew) 8 = .ok (.iadd, 1) := by decide +kernel
theorem dP_homeOfNew_9 : decode (m_C mP_homeOfNew) 9 = .ok (.sipush 300, 3) := by decide +kernel
theorem dP_homeOfNew_12 : decode (m_C mP_homeOfNew) 12 = .ok (.if_icmp .ge 13, 3) := by decide +kernel
theorem dP_homeOfNew_15 : decode (m_C mP_homeOfNew) 15 = .ok (.aload_n 0, 1) := by decide +kernel
theorem dP_homeOfNew_16 : decode (m_C mP_homeOfNew) 16 = .ok (.getfield 10, 3) := by decide +kernel
theorem dP_homeOfNew_19 : decode (m_C mP_homeOfNew) 19 = .ok (.invokevirtual 163, 3) := by decide +kernel
theorem dP_homeOfNew_22 : decode (m_C mP_homeOfNew) 22 = .ok (.ifCond .ne 5, 3) := by decide +kernel
theorem dP_homeOfNew_25 : decode (m_C mP_homeOfNew) 25 = .ok (.aconst_null, 1) := by decide +kernel
theorem dP_homeOfNew_26 : decode (m_C mP_homeOfNew) 26 = .ok (.areturn, 1) := by decide +kernel
theorem dP_homeOfNew_27 : decode (m_C mP_homeOfNew) 27 = .ok (.aload_n 0, 1) := by decide +kernel
theorem dP_homeOfNew_28 : decode (m_C mP_homeOfNew) 28 = .ok (.invokevirtual 167, 3) := by decide +kernel
theorem dP_homeOfNew_31 : decode (m_C mP_homeOfNew) 31 = .ok (.astore_n 1, 1) := by decide +kernel
theorem dP_homeOfNew_32 : decode (m_C mP_homeOfNew) 32 = .ok (.aload_n 1, 1) := by decide +kernel
theorem dP_homeOfNew_33 : decode (m_C mP_homeOfNew) 33 = .ok (.ifnull 33, 3) := by decide +kernel
theorem dP_homeOfNew_36 : decode (m_C mP_homeOfNew) 36 = .ok (.aload_n 1, 1) := by decide +kernel
theorem dP_homeOfNew_37 : decode (m_C mP_homeOfNew) 37 = .ok (.aload_n 0, 1) := by decide +kernel
theorem dP_homeOfNew_38 : decode (m_C mP_homeOfNew) 38 = .ok (.getfield 10, 3) := by decide +kernel
theorem dP_homeOfNew_41 : decode (m_C mP_homeOfNew) 41 = .ok (.getfield 156, 3) := by decide +kernel
theorem dP_homeOfNew_44 : decode (m_C mP_homeOfNew) 44 = .ok (.aload_n 0, 1) := by decide +kernel
theorem dP_homeOfNew_45 : decode (m_C mP_homeOfNew) 45 = .ok (.getfield 10, 3) := by decide +kernel
theorem dP_homeOfNew_48 : decode (m_C mP_homeOfNew) 48 = .ok (.invokevirtual 141, 3) := by decide +kernel
theorem dP_homeOfNew_51 : decode (m_C mP_homeOfNew) 51 = .ok (.iconst 1, 1) := by decide +kernel
theorem dP_homeOfNew_52 : decode (m_C mP_homeOfNew) 52 = .ok (.iadd, 1) := by decide +kernel
theorem dP_homeOfNew_53 : decode (m_C mP_homeOfNew) 53 = .ok (.aload_n 0, 1) := by decide +kernel
theorem dP_homeOfNew_54 : decode (m_C mP_homeOfNew) 54 = .ok (.getfield 10, 3) := by decide +kernel
theorem dP_homeOfNew_57 : decode (m_C mP_homeOfNew) 57 = .ok (.getfield 54, 3) := by decide +kernel
theorem dP_homeOfNew_60 : decode (m_C mP_homeOfNew) 60 = .ok (.invokevirtual 159, 3) := by decide +kernel
theorem dP_homeOfNew_63 : decode (m_C mP_homeOfNew) 63 = .ok (.ifnull 5, 3) := by decide +kernel
theorem dP_homeOfNew_66 : decode (m_C mP_homeOfNew) 66 = .ok (.aconst_null, 1) := by decide +kernel
theorem dP_homeOfNew_67 : decode (m_C mP_homeOfNew) 67 = .ok (.areturn, 1) := by decide +kernel
theorem dP_homeOfNew_68 : decode (m_C mP_homeOfNew) 68 = .ok (.aload_n 1, 1) := by decide +kernel
theorem dP_homeOfNew_69 : decode (m_C mP_homeOfNew) 69 = .ok (.areturn, 1) := by decide +kernel
theorem dT_lastNameCanBe_0 : decode (m_C mT_lastNameCanBe) 0 = .ok (.aload_n 0, 1) := by decide +kernel
theorem dT_lastNameCanBe_1 : decode (m_C mT_lastNameCanBe) 1 = .ok (.invokevirtual 34, 3) := by decide +kernel
theorem dT_lastNameCanBe_4 : decode (m_C mT_lastNameCanBe) 4 = .ok (.iconst 1, 1) := by decide +kernel
theorem dT_lastNameCanBe_5 : decode (m_C mT_lastNameCanBe) 5 = .ok (.iadd, 1) := by decide +kernel
theorem dT_lastNameCanBe_6 : decode (m_C mT_lastNameCanBe) 6 = .ok (.istore_n 1, 1) := by decide +kernel
theorem dT_lastNameCanBe_7 : decode (m_C mT_lastNameCanBe) 7 = .ok (.aload_n 0, 1) := by decide +kernel
theorem dT_lastNameCanBe_8 : decode (m_C mT_lastNameCanBe) 8 = .ok (.getfield 13, 3) := by decide +kernel
theorem dT_lastNameCanBe_11 : decode (m_C mT_lastNameCanBe) 11 = .ok (.iload_n 1, 1) := by decide +kernel
theorem dT_lastNameCanBe_12 : decode (m_C mT_lastNameCanBe) 12 = .ok (.isub, 1) := by decide +kernel
theorem dT_lastNameCanBe_13 : decode (m_C mT_lastNameCanBe) 13 = .ok (.istore_n 2, 1) := by decide +kernel
theorem dT_lastNameCanBe_14 : decode (m_C mT_lastNameCanBe) 14 = .ok (.iload_n 2, 1) := by decide +kernel
theorem dT_lastNameCanBe_15 : decode (m_C mT_lastNameCanBe) 15 = .ok (.iconst 1, 1) := by decide +kernel
theorem dT_lastNameCanBe_16 : decode (m_C mT_lastNameCanBe) 16 = .ok (.if_icmp .lt 37, 3) := by decide +kernel
theorem dT_lastNameCanBe_19 : decode (m_C mT_lastNameCanBe) 19 = .ok (.iload_n 2, 1) := by decide +kernel
theorem dT_lastNameCanBe_20 : decode (m_C mT_lastNameCanBe) 20 = .ok (.bipush 60, 2) := by decide +kernel
theorem dT_lastNameCanBe_22 : decode (m_C mT_lastNameCanBe) 22 = .ok (.if_icmp .gt 31, 3) := by decide +kernel
theorem dT_lastNameCanBe_25 : decode (m_C mT_lastNameCanBe) 25 = .ok (.aload_n 0, 1) := by decide +kernel
theorem dT_lastNameCanBe_26 : decode (m_C mT_lastNameCanBe) 26 = .ok (.iload_n 1, 1) := by decide +kernel
theorem dT_lastNameCanBe_27 : decode (m_C mT_lastNameCanBe) 27 = .ok (.aload_n 0, 1) := by decide +kernel
theorem dT_lastNameCanBe_28 : decode (m_C mT_lastNameCanBe) 28 = .ok (.getfield 13, 3) := by decide +kernel
theorem dT_lastNameCanBe_31 : decode (m_C mT_lastNameCanBe) 31 = .ok (.invokevirtual 38, 3) := by decide +kernel
theorem dT_lastNameCanBe_34 : decode (m_C mT_lastNameCanBe) 34 = .ok (.ifCond .ne 19, 3) := by decide +kernel
theorem dT_lastNameCanBe_37 : decode (m_C mT_lastNameCanBe) 37 = .ok (.aload_n 0, 1) := by decide +kernel
theorem dT_lastNameCanBe_38 : decode (m_C mT_lastNameCanBe) 38 = .ok (.iload_n 1, 1) := by decide +kernel
theorem dT_lastNameCanBe_39 : decode (m_C mT_lastNameCanBe) 39 = .ok (.aload_n 0, 1) := by decide +kernel
theorem dT_lastNameCanBe_40 : decode (m_C mT_lastNameCanBe) 40 = .ok (.getfield 13, 3) := by decide +kernel
theorem dT_lastNameCanBe_43 : decode (m_C mT_lastNameCanBe) 43 = .ok (.invokevirtual 42, 3) := by decide +kernel
theorem dT_lastNameCanBe_46 : decode (m_C mT_lastNameCanBe) 46 = .ok (.ifCond .ne 7, 3) := by decide +kernel
theorem dT_lastNameCanBe_49 : decode (m_C mT_lastNameCanBe) 49 = .ok (.iconst 1, 1) := by decide +kernel
theorem dT_lastNameCanBe_50 : decode (m_C mT_lastNameCanBe) 50 = .ok (.goto 4, 3) := by decide +kernel
theorem dT_lastNameCanBe_53 : decode (m_C mT_lastNameCanBe) 53 = .ok (.iconst 0, 1) := by decide +kernel
theorem dT_lastNameCanBe_54 : decode (m_C mT_lastNameCanBe) 54 = .ok (.ireturn, 1) := by decide +kernel
theorem dT_lastSlash_0 : decode (m_C mT_lastSlash) 0 = .ok (.aload_n 0, 1) := by decide +kernel
theorem dT_lastSlash_1 : decode (m_C mT_lastSlash) 1 = .ok (.getfield 13, 3) := by decide +kernel
theorem dT_lastSlash_4 : decode (m_C mT_lastSlash) 4 = .ok (.iconst 1, 1) := by decide +kernel
theorem dT_lastSlash_5 : decode (m_C mT_lastSlash) 5 = .ok (.isub, 1) := by decide +kernel
theorem dT_lastSlash_6 : decode (m_C mT_lastSlash) 6 = .ok (.istore_n 1, 1) := by decide +kernel
theorem dT_lastSlash_7 : decode (m_C mT_lastSlash) 7 = .ok (.iload_n 1, 1) := by decide +kernel
theorem dT_lastSlash_8 : decode (m_C mT_lastSlash) 8 = .ok (.ifCond .lt 17, 3) := by decide +kernel
theorem dT_lastSlash_11 : decode (m_C mT_lastSlash) 11 = .ok (.aload_n 0, 1) := by decide +kernel
theorem dT_lastSlash_12 : decode (m_C mT_lastSlash) 12 = .ok (.iload_n 1, 1) := by decide +kernel
theorem dT_lastSlash_13 : decode (m_C mT_lastSlash) 13 = .ok (.invokevirtual 31, 3) := by decide +kernel
theorem dT_lastSlash_16 : decode (m_C mT_lastSlash) 16 = .ok (.ifCond .ne 9, 3) := by decide +kernel
theorem dT_lastSlash_19 : decode (m_C mT_lastSlash) 19 = .ok (.iinc 1 (-1), 3) := by decide +kernel
theorem dT_lastSlash_22 : decode (m_C mT_lastSlash) 22 = .ok (.goto (-15), 3) := by decide +kernel
theorem dT_lastSlash_25 : decode (m_C mT_lastSlash) 25 = .ok (.iload_n 1, 1) := by decide +kernel
theorem dT_lastSlash_26 : decode (m_C mT_lastSlash) 26 = .ok (.ireturn, 1) := by decide +kernel
theorem dP_home_0 : decode (m_C mP_home) 0 = .ok (.aload_n 0, 1) := by decide +kernel
theorem dP_home_1 : decode (m_C mP_home) 1 = .ok (.getfield 10, 3) := by decide +kernel
theorem dP_home_4 : decode (m_C mP_home) 4 = .ok (.invokevirtual 141, 3) := by decide +kernel
theorem dP_home_7 : decode (m_C mP_home) 7 = .ok (.istore_n 1, 1) := by decide +kernel
theorem dP_home_8 : decode (m_C mP_home) 8 = .ok (.iload_n 1, 1) := by decide +kernel
theorem dP_home_9 : decode (m_C mP_home) 9 = .ok (.ifCond .ge 8, 3) := by decide +kernel
theorem dP_home_12 : decode (m_C mP_home) 12 = .ok (.aload_n 0, 1) := by decide +kernel
theorem dP_home_13 : decode (m_C mP_home) 13 = .ok (.getfield 25, 3) := by decide +kernel
theorem dP_home_16 : decode (m_C mP_home) 16 = .ok (.areturn, 1) := by decide +kernel
theorem dP_home_17 : decode (m_C mP_home) 17 = .ok (.aload_n 0, 1) := by decide +kernel
theorem dP_home_18 : decode (m_C mP_home) 18 = .ok (.iload_n 1, 1) := by decide +kernel
theorem dP_home_19 : decode (m_C mP_home) 19 = .ok (.invokevirtual 135, 3) := by decide +kernel
theorem dP_home_22 : decode (m_C mP_home) 22 = .ok (.astore_n 3, 1) := by decide +kernel
theorem dP_home_23 : decode (m_C mP_home) 23 = .ok (.aload_n 3, 1) := by decide +kernel
theorem dP_home_24 : decode (m_C mP_home) 24 = .ok (.instanceof 16, 3) := by decide +kernel
theorem dP_home_27 : decode (m_C mP_home) 27 = .ok (.ifCond .eq 12, 3) := by decide +kernel
theorem dP_home_30 : decode (m_C mP_home) 30 = .ok (.aload_n 3, 1) := by decide +kernel
theorem dP_home_31 : decode (m_C mP_home) 31 = .ok (.checkcast 16, 3) := by decide +kernel
theorem dP_home_34 : decode (m_C mP_home) 34 = .ok (.astore_n 2, 1) := by decide +kernel
theorem dP_home_35 : decode (m_C mP_home) 35 = .ok (.aload_n 2, 1) := by decide +kernel
theorem dP_home_36 : decode (m_C mP_home) 36 = .ok (.goto 4, 3) := by decide +kernel
theorem dP_home_39 : decode (m_C mP_home) 39 = .ok (.aconst_null, 1) := by decide +kernel
theorem dP_home_40 : decode (m_C mP_home) 40 = .ok (.areturn, 1) := by decide +kernel
theorem dT_lastName_0 : decode (m_C mT_lastName) 0 = .ok (.aload_n 0, 1) := by decide +kernel
theorem dT_lastName_1 : decode (m_C mT_lastName) 1 = .ok (.getfield 9, 3) := by decide +kernel
theorem dT_lastName_4 : decode (m_C mT_lastName) 4 = .ok (.aload_n 0, 1) := by decide +kernel
theorem dT_lastName_5 : decode (m_C mT_lastName) 5 = .ok (.invokevirtual 34, 3) := by decide +kernel
theorem dT_lastName_8 : decode (m_C mT_lastName) 8 = .ok (.iconst 1, 1) := by decide +kernel
theorem dT_lastName_9 : decode (m_C mT_lastName) 9 = .ok (.iadd, 1) := by decide +kernel
theorem dT_lastName_10 : decode (m_C mT_lastName) 10 = .ok (.aload_n 0, 1) := by decide +kernel
theorem dT_lastName_11 : decode (m_C mT_lastName) 11 = .ok (.getfield 13, 3) := by decide +kernel
theorem dT_lastName_14 : decode (m_C mT_lastName) 14 = .ok (.invokestatic 45, 3) := by decide +kernel
theorem dT_lastName_17 : decode (m_C mT_lastName) 17 = .ok (.areturn, 1) := by decide +kernel
theorem dJ_copyOfRange_0 : decode (m_C mJ_copyOfRange) 0 = .ok (.iload_n 1, 1) := by decide +kernel
theorem dJ_copyOfRange_1 : decode (m_C mJ_copyOfRange) 1 = .ok (.ifCond .ne 9, 3) := by decide +kernel
theorem dJ_copyOfRange_4 : decode (m_C mJ_copyOfRange) 4 = .ok (.iload_n 2, 1) := by decide +kernel
theorem dJ_copyOfRange_5 : decode (m_C mJ_copyOfRange) 5 = .ok (.aload_n 0, 1) := by decide +kernel
theorem dJ_copyOfRange_6 : decode (m_C mJ_copyOfRange) 6 = .ok (.arraylength, 1) := by decide +kernel
theorem dJ_copyOfRange_7 : decode (m_C mJ_copyOfRange) 7 = .ok (.if_icmp .eq 10, 3) := by decide +kernel
theorem dJ_copyOfRange_10 : decode (m_C mJ_copyOfRange) 10 = .ok (.aload_n 0, 1) := by decide +kernel
theorem dJ_copyOfRange_11 : decode (m_C mJ_copyOfRange) 11 = .ok (.iload_n 1, 1) := by decide +kernel
theorem dJ_copyOfRange_12 : decode (m_C mJ_copyOfRange) 12 = .ok (.iload_n 2, 1) := by decide +kernel
theorem dJ_copyOfRange_13 : decode (m_C mJ_copyOfRange) 13 = .ok (.invokestatic 359, 3) := by decide +kernel
theorem dJ_copyOfRange_16 : decode (m_C mJ_copyOfRange) 16 = .ok (.areturn, 1) := by decide +kernel
theorem dJ_copyOfRange_17 : decode (m_C mJ_copyOfRange) 17 = .ok (.aload_n 0, 1) := by decide +kernel
theorem dJ_copyOfRange_18 : decode (m_C mJ_copyOfRange) 18 = .ok (.invokevirtual 322, 3) := by decide +kernel
theorem dJ_copyOfRange_21 : decode (m_C mJ_copyOfRange) 21 = .ok (.checkcast 323, 3) := by decide +kernel
theorem dJ_copyOfRange_24 : decode (m_C mJ_copyOfRange) 24 = .ok (.areturn, 1) := by decide +kernel
theorem dJ_copyOfRangeChar_0 : decode (m_C mJ_copyOfRangeChar) 0 = .ok (.iload_n 1, 1) := by decide +kernel
theorem dJ_copyOfRangeChar_1 : decode (m_C mJ_copyOfRangeChar) 1 = .ok (.iload_n 2, 1) := by decide +kernel
theorem dJ_copyOfRangeChar_2 : decode (m_C mJ_copyOfRangeChar) 2 = .ok (.invokestatic 343, 3) := by decide +kernel
theorem dJ_copyOfRangeChar_5 : decode (m_C mJ_copyOfRangeChar) 5 = .ok (.iload_n 2, 1) := by decide +kernel
theorem dJ_copyOfRangeChar_6 : decode (m_C mJ_copyOfRangeChar) 6 = .ok (.iload_n 1, 1) := by decide +kernel
theorem dJ_copyOfRangeChar_7 : decode (m_C mJ_copyOfRangeChar) 7 = .ok (.isub, 1) := by decide +kernel
theorem dJ_copyOfRangeChar_8 : decode (m_C mJ_copyOfRangeChar) 8 = .ok (.istore_n 3, 1) := by decide +kernel
theorem dJ_copyOfRangeChar_9 : decode (m_C mJ_copyOfRangeChar) 9 = .ok (.iload_n 3, 1) := by decide +kernel
theorem dJ_copyOfRangeChar_10 : decode (m_C mJ_copyOfRangeChar) 10 = .ok (.newarray .char, 2) := by decide +kernel
theorem dJ_copyOfRangeChar_12 : decode (m_C mJ_copyOfRangeChar) 12 = .ok (.astore 4, 2) := by decide +kernel
theorem dJ_copyOfRangeChar_14 : decode (m_C mJ_copyOfRangeChar) 14 = .ok (.aload_n 0, 1) := by decide +kernel
theorem dJ_copyOfRangeChar_15 : decode (m_C mJ_copyOfRangeChar) 15 = .ok (.iload_n 1, 1) := by decide +kernel
theorem dJ_copyOfRangeChar_16 : decode (m_C mJ_copyOfRangeChar) 16 = .ok (.aload 4, 2) := by decide +kernel
theorem dJ_copyOfRangeChar_18 : decode (m_C mJ_copyOfRangeChar) 18 = .ok (.iconst 0, 1) := by decide +kernel
theorem dJ_copyOfRangeChar_19 : decode (m_C mJ_copyOfRangeChar) 19 = .ok (.aload_n 0, 1) := by decide +kernel
theorem dJ_copyOfRangeChar_20 : decode (m_C mJ_copyOfRangeChar) 20 = .ok (.arraylength, 1) := by decide +kernel
theorem dJ_copyOfRangeChar_21 : decode (m_C mJ_copyOfRangeChar) 21 = .ok (.iload_n 1, 1) := by decide +kernel
theorem dJ_copyOfRangeChar_22 : decode (m_C mJ_copyOfRangeChar) 22 = .ok (.isub, 1) := by decide +kernel
theorem dJ_copyOfRangeChar_23 : decode (m_C mJ_copyOfRangeChar) 23 = .ok (.iload_n 3, 1) := by decide +kernel
theorem dJ_copyOfRangeChar_24 : decode (m_C mJ_copyOfRangeChar) 24 = .ok (.invokestatic 304, 3) := by decide +kernel
theorem dJ_copyOfRangeChar_27 : decode (m_C mJ_copyOfRangeChar) 27 = .ok (.invokestatic 150, 3) := by decide +kernel
theorem dJ_copyOfRangeChar_30 : decode (m_C mJ_copyOfRangeChar) 30 = .ok (.aload 4, 2) := by decide +kernel
theorem dJ_copyOfRangeChar_32 : decode (m_C mJ_copyOfRangeChar) 32 = .ok (.areturn, 1) := by decide +kernel
theorem dJ_checkLength_0 : decode (m_C mJ_checkLength) 0 = .ok (.iload_n 1, 1) := by decide +kernel
theorem dJ_checkLength_1 : decode (m_C mJ_checkLength) 1 = .ok (.iload_n 0, 1) := by decide +kernel
theorem dJ_checkLength_2 : decode (m_C mJ_checkLength) 2 = .ok (.if_icmp .ge 35, 3) := by decide +kernel
theorem dJ_checkLength_5 : decode (m_C mJ_checkLength) 5 = .ok (.new 43, 3) := by decide +kernel
theorem dJ_checkLength_8 : decode (m_C mJ_checkLength) 8 = .ok (.dup, 1) := by decide +kernel
theorem dJ_checkLength_9 : decode (m_C mJ_checkLength) 9 = .ok (.new 45, 3) := by decide +kernel
theorem dJ_checkLength_12 : decode (m_C mJ_checkLength) 12 = .ok (.dup, 1) := by decide +kernel
theorem dJ_checkLength_13 : decode (m_C mJ_checkLength) 13 = .ok (.invokespecial 47, 3) := by decide +kernel
theorem dJ_checkLength_16 : decode (m_C mJ_checkLength) 16 = .ok (.iload_n 0, 1) := by decide +kernel
theorem dJ_checkLength_17 : decode (m_C mJ_checkLength) 17 = .ok (.invokevirtual 54, 3) := by decide +kernel
theorem dJ_checkLength_20 : decode (m_C mJ_checkLength) 20 = .ok (.ldc_w 337, 3) := by decide +kernel
theorem dJ_checkLength_23 : decode (m_C mJ_checkLength) 23 = .ok (.invokevirtual 50, 3) := by decide +kernel
theorem dJ_checkLength_26 : decode (m_C mJ_checkLength) 26 = .ok (.iload_n 1, 1) := by decide +kernel
theorem dJ_checkLength_27 : decode (m_C mJ_checkLength) 27 = .ok (.invokevirtual 54, 3) := by decide +kernel
theorem dJ_checkLength_30 : decode (m_C mJ_checkLength) 30 = .ok (.invokevirtual 61, 3) := by decide +kernel
theorem dJ_checkLength_33 : decode (m_C mJ_checkLength) 33 = .ok (.invokespecial 65, 3) := by decide +kernel
theorem dJ_checkLength_36 : decode (m_C mJ_checkLength) 36 = .ok (.athrow, 1) := by decide +kernel
theorem dJ_checkLength_37 : decode (m_C mJ_checkLength) 37 = .ok (.return_, 1) := by decide +kernel
theorem dD_admit_0 : decode (m_C mD_admit) 0 = .ok (.aconst_null, 1) := by decide +kernel
theorem dD_admit_1 : decode (m_C mD_admit) 1 = .ok (.astore_n 2, 1) := by decide +kernel
theorem dD_admit_2 : decode (m_C mD_admit) 2 = .ok (.aload_n 0, 1) := by decide +kernel
theorem dD_admit_3 : decode (m_C mD_admit) 3 = .ok (.getfield 7, 3) := by decide +kernel
theorem dD_admit_6 : decode (m_C mD_admit) 6 = .ok (.astore_n 3, 1) := by decide +kernel
theorem dD_admit_7 : decode (m_C mD_admit) 7 = .ok (.aload_n 3, 1) := by decide +kernel
theorem dD_admit_8 : decode (m_C mD_admit) 8 = .ok (.ifnull 30, 3) := by decide +kernel
theorem dD_admit_11 : decode (m_C mD_admit) 11 = .ok (.aload_n 3, 1) := by decide +kernel
theorem dD_admit_12 : decode (m_C mD_admit) 12 = .ok (.aload_n 1, 1) := by decide +kernel
theorem dD_admit_13 : decode (m_C mD_admit) 13 = .ok (.getfield 28, 3) := by decide +kernel
theorem dD_admit_16 : decode (m_C mD_admit) 16 = .ok (.iconst 0, 1) := by decide +kernel
theorem dD_admit_17 : decode (m_C mD_admit) 17 = .ok (.aload_n 1, 1) := by decide +kernel
theorem dD_admit_18 : decode (m_C mD_admit) 18 = .ok (.getfield 28, 3) := by decide +kernel
theorem dD_admit_21 : decode (m_C mD_admit) 21 = .ok (.arraylength, 1) := by decide +kernel
theorem dD_admit_22 : decode (m_C mD_admit) 22 = .ok (.invokevirtual 17, 3) := by decide +kernel
theorem dD_admit_25 : decode (m_C mD_admit) 25 = .ok (.ifCond .ge 13, 3) := by decide +kernel
theorem dD_admit_28 : decode (m_C mD_admit) 28 = .ok (.aload_n 3, 1) := by decide +kernel
theorem dD_admit_29 : decode (m_C mD_admit) 29 = .ok (.astore_n 2, 1) := by decide +kernel
theorem dD_admit_30 : decode (m_C mD_admit) 30 = .ok (.aload_n 3, 1) := by decide +kernel
theorem dD_admit_31 : decode (m_C mD_admit) 31 = .ok (.getfield 21, 3) := by decide +kernel
theorem dD_admit_34 : decode (m_C mD_admit) 34 = .ok (.astore_n 3, 1) := by decide +kernel
theorem dD_admit_35 : decode (m_C mD_admit) 35 = .ok (.goto (-28), 3) := by decide +kernel
theorem dD_admit_38 : decode (m_C mD_admit) 38 = .ok (.aload_n 0, 1) := by decide +kernel
theorem dD_admit_39 : decode (m_C mD_admit) 39 = .ok (.aload_n 2, 1) := by decide +kernel
theorem dD_admit_40 : decode (m_C mD_admit) 40 = .ok (.aload_n 1, 1) := by decide +kernel
theorem dD_admit_41 : decode (m_C mD_admit) 41 = .ok (.invokevirtual 32, 3) := by decide +kernel
theorem dD_admit_44 : decode (m_C mD_admit) 44 = .ok (.aload_n 1, 1) := by decide +kernel
theorem dD_admit_45 : decode (m_C mD_admit) 45 = .ok (.aload_n 3, 1) := by decide +kernel
theorem dD_admit_46 : decode (m_C mD_admit) 46 = .ok (.putfield 21, 3) := by decide +kernel
theorem dD_admit_49 : decode (m_C mD_admit) 49 = .ok (.aload_n 1, 1) := by decide +kernel
theorem dD_admit_50 : decode (m_C mD_admit) 50 = .ok (.aload_n 0, 1) := by decide +kernel
theorem dD_admit_51 : decode (m_C mD_admit) 51 = .ok (.putfield 36, 3) := by decide +kernel
theorem dD_admit_54 : decode (m_C mD_admit) 54 = .ok (.aload_n 0, 1) := by decide +kernel
theorem dD_admit_55 : decode (m_C mD_admit) 55 = .ok (.dup, 1) := by decide +kernel
theorem dD_admit_56 : decode (m_C mD_admit) 56 = .ok (.getfield 13, 3) := by decide +kernel
theorem dD_admit_59 : decode (m_C mD_admit) 59 = .ok (.iconst 1, 1) := by decide +kernel
theorem dD_admit_60 : decode (m_C mD_admit) 60 = .ok (.iadd, 1) := by decide +kernel
theorem dD_admit_61 : decode (m_C mD_admit) 61 = .ok (.putfield 13, 3) := by decide +kernel
theorem dD_admit_64 : decode (m_C mD_admit) 64 = .ok (.return_, 1) := by decide +kernel
theorem dD_link_0 : decode (m_C mD_link) 0 = .ok (.aload_n 1, 1) := by decide +kernel
