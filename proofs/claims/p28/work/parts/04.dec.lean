theorem dX0_init_0 : decode cX0_init 0 = .ok (.aload_n 0, 1) := by decide +kernel
theorem dX0_init_1 : decode cX0_init 1 = .ok (.invokespecial 3, 3) := by decide +kernel
theorem dX0_init_4 : decode cX0_init 4 = .ok (.aload_n 0, 1) := by decide +kernel
theorem dX0_init_5 : decode cX0_init 5 = .ok (.iconst (-1), 1) := by decide +kernel
theorem dX0_init_6 : decode cX0_init 6 = .ok (.putfield 11, 3) := by decide +kernel
theorem dX0_init_9 : decode cX0_init 9 = .ok (.aload_n 0, 1) := by decide +kernel
theorem dX0_init_10 : decode cX0_init 10 = .ok (.bipush (-5), 2) := by decide +kernel
theorem dX0_init_12 : decode cX0_init 12 = .ok (.putfield 15, 3) := by decide +kernel
theorem dX0_init_15 : decode cX0_init 15 = .ok (.return_, 1) := by decide +kernel
theorem dX0_copyFrom_0 : decode cX0_copyFrom 0 = .ok (.aload_n 0, 1) := by decide +kernel
theorem dX0_copyFrom_1 : decode cX0_copyFrom 1 = .ok (.aload_n 1, 1) := by decide +kernel
theorem dX0_copyFrom_2 : decode cX0_copyFrom 2 = .ok (.getfield 11, 3) := by decide +kernel
theorem dX0_copyFrom_5 : decode cX0_copyFrom 5 = .ok (.putfield 11, 3) := by decide +kernel
theorem dX0_copyFrom_8 : decode cX0_copyFrom 8 = .ok (.aload_n 0, 1) := by decide +kernel
theorem dX0_copyFrom_9 : decode cX0_copyFrom 9 = .ok (.aload_n 1, 1) := by decide +kernel
theorem dX0_copyFrom_10 : decode cX0_copyFrom 10 = .ok (.getfield 18, 3) := by decide +kernel
theorem dX0_copyFrom_13 : decode cX0_copyFrom 13 = .ok (.putfield 18, 3) := by decide +kernel
theorem dX0_copyFrom_16 : decode cX0_copyFrom 16 = .ok (.aload_n 0, 1) := by decide +kernel
theorem dX0_copyFrom_17 : decode cX0_copyFrom 17 = .ok (.aload_n 1, 1) := by decide +kernel
theorem dX0_copyFrom_18 : decode cX0_copyFrom 18 = .ok (.getfield 21, 3) := by decide +kernel
theorem dX0_copyFrom_21 : decode cX0_copyFrom 21 = .ok (.putfield 21, 3) := by decide +kernel
theorem dX0_copyFrom_24 : decode cX0_copyFrom 24 = .ok (.aload_n 0, 1) := by decide +kernel
theorem dX0_copyFrom_25 : decode cX0_copyFrom 25 = .ok (.aload_n 1, 1) := by decide +kernel
theorem dX0_copyFrom_26 : decode cX0_copyFrom 26 = .ok (.getfield 24, 3) := by decide +kernel
theorem dX0_copyFrom_29 : decode cX0_copyFrom 29 = .ok (.putfield 24, 3) := by decide +kernel
theorem dX0_copyFrom_32 : decode cX0_copyFrom 32 = .ok (.aload_n 0, 1) := by decide +kernel
theorem dX0_copyFrom_33 : decode cX0_copyFrom 33 = .ok (.aload_n 1, 1) := by decide +kernel
theorem dX0_copyFrom_34 : decode cX0_copyFrom 34 = .ok (.getfield 27, 3) := by decide +kernel
theorem dX0_copyFrom_37 : decode cX0_copyFrom 37 = .ok (.putfield 27, 3) := by decide +kernel
theorem dX0_copyFrom_40 : decode cX0_copyFrom 40 = .ok (.aload_n 0, 1) := by decide +kernel
theorem dX0_copyFrom_41 : decode cX0_copyFrom 41 = .ok (.aload_n 1, 1) := by decide +kernel
theorem dX0_copyFrom_42 : decode cX0_copyFrom 42 = .ok (.getfield 30, 3) := by decide +kernel
theorem dX0_copyFrom_45 : decode cX0_copyFrom 45 = .ok (.putfield 30, 3) := by decide +kernel
theorem dX0_copyFrom_48 : decode cX0_copyFrom 48 = .ok (.aload_n 0, 1) := by decide +kernel
theorem dX0_copyFrom_49 : decode cX0_copyFrom 49 = .ok (.aload_n 1, 1) := by decide +kernel
theorem dX0_copyFrom_50 : decode cX0_copyFrom 50 = .ok (.getfield 33, 3) := by decide +kernel
theorem dX0_copyFrom_53 : decode cX0_copyFrom 53 = .ok (.putfield 33, 3) := by decide +kernel
theorem dX0_copyFrom_56 : decode cX0_copyFrom 56 = .ok (.aload_n 0, 1) := by decide +kernel
theorem dX0_copyFrom_57 : decode cX0_copyFrom 57 = .ok (.aload_n 1, 1) := by decide +kernel
theorem dX0_copyFrom_58 : decode cX0_copyFrom 58 = .ok (.getfield 36, 3) := by decide +kernel
theorem dX0_copyFrom_61 : decode cX0_copyFrom 61 = .ok (.putfield 36, 3) := by decide +kernel
theorem dX0_copyFrom_64 : decode cX0_copyFrom 64 = .ok (.aload_n 0, 1) := by decide +kernel
theorem dX0_copyFrom_65 : decode cX0_copyFrom 65 = .ok (.aload_n 1, 1) := by decide +kernel
theorem dX0_copyFrom_66 : decode cX0_copyFrom 66 = .ok (.getfield 39, 3) := by decide +kernel
theorem dX0_copyFrom_69 : decode cX0_copyFrom 69 = .ok (.putfield 39, 3) := by decide +kernel
theorem dX0_copyFrom_72 : decode cX0_copyFrom 72 = .ok (.aload_n 0, 1) := by decide +kernel
theorem dX0_copyFrom_73 : decode cX0_copyFrom 73 = .ok (.aload_n 1, 1) := by decide +kernel
theorem dX0_copyFrom_74 : decode cX0_copyFrom 74 = .ok (.getfield 42, 3) := by decide +kernel
theorem dX0_copyFrom_77 : decode cX0_copyFrom 77 = .ok (.putfield 42, 3) := by decide +kernel
theorem dX0_copyFrom_80 : decode cX0_copyFrom 80 = .ok (.aload_n 0, 1) := by decide +kernel
theorem dX0_copyFrom_81 : decode cX0_copyFrom 81 = .ok (.aload_n 1, 1) := by decide +kernel
theorem dX0_copyFrom_82 : decode cX0_copyFrom 82 = .ok (.getfield 45, 3) := by decide +kernel
theorem dX0_copyFrom_85 : decode cX0_copyFrom 85 = .ok (.putfield 45, 3) := by decide +kernel
theorem dX0_copyFrom_88 : decode cX0_copyFrom 88 = .ok (.aload_n 0, 1) := by decide +kernel
theorem dX0_copyFrom_89 : decode cX0_copyFrom 89 = .ok (.aload_n 1, 1) := by decide +kernel
theorem dX0_copyFrom_90 : decode cX0_copyFrom 90 = .ok (.getfield 48, 3) := by decide +kernel
theorem dX0_copyFrom_93 : decode cX0_copyFrom 93 = .ok (.putfield 48, 3) := by decide +kernel
theorem dX0_copyFrom_96 : decode cX0_copyFrom 96 = .ok (.aload_n 0, 1) := by decide +kernel
theorem dX0_copyFrom_97 : decode cX0_copyFrom 97 = .ok (.aload_n 1, 1) := by decide +kernel
theorem dX0_copyFrom_98 : decode cX0_copyFrom 98 = .ok (.getfield 51, 3) := by decide +kernel
theorem dX0_copyFrom_101 : decode cX0_copyFrom 101 = .ok (.putfield 51, 3) := by decide +kernel
theorem dX0_copyFrom_104 : decode cX0_copyFrom 104 = .ok (.aload_n 0, 1) := by decide +kernel
theorem dX0_copyFrom_105 : decode cX0_copyFrom 105 = .ok (.aload_n 1, 1) := by decide +kernel
theorem dX0_copyFrom_106 : decode cX0_copyFrom 106 = .ok (.getfield 15, 3) := by decide +kernel
theorem dX0_copyFrom_109 : decode cX0_copyFrom 109 = .ok (.putfield 15, 3) := by decide +kernel
theorem dX0_copyFrom_112 : decode cX0_copyFrom 112 = .ok (.return_, 1) := by decide +kernel
theorem dX0_write_0 : decode cX0_write 0 = .ok (.aload_n 0, 1) := by decide +kernel
theorem dX0_write_1 : decode cX0_write 1 = .ok (.iconst 0, 1) := by decide +kernel
theorem dX0_write_2 : decode cX0_write 2 = .ok (.putfield 11, 3) := by decide +kernel
theorem dX0_write_5 : decode cX0_write 5 = .ok (.aload_n 0, 1) := by decide +kernel
theorem dX0_write_6 : decode cX0_write 6 = .ok (.iload_n 1, 1) := by decide +kernel
theorem dX0_write_7 : decode cX0_write 7 = .ok (.putfield 18, 3) := by decide +kernel
theorem dX0_write_10 : decode cX0_write 10 = .ok (.aload_n 0, 1) := by decide +kernel
theorem dX0_write_11 : decode cX0_write 11 = .ok (.iload_n 2, 1) := by decide +kernel
theorem dX0_write_12 : decode cX0_write 12 = .ok (.putfield 21, 3) := by decide +kernel
theorem dX0_write_15 : decode cX0_write 15 = .ok (.aload_n 0, 1) := by decide +kernel
theorem dX0_write_16 : decode cX0_write 16 = .ok (.iload_n 3, 1) := by decide +kernel
theorem dX0_write_17 : decode cX0_write 17 = .ok (.putfield 24, 3) := by decide +kernel
theorem dX0_write_20 : decode cX0_write 20 = .ok (.aload_n 0, 1) := by decide +kernel
theorem dX0_write_21 : decode cX0_write 21 = .ok (.iload_n 2, 1) := by decide +kernel
theorem dX0_write_22 : decode cX0_write 22 = .ok (.iload_n 3, 1) := by decide +kernel
theorem dX0_write_23 : decode cX0_write 23 = .ok (.imul, 1) := by decide +kernel
theorem dX0_write_24 : decode cX0_write 24 = .ok (.bipush 50, 2) := by decide +kernel
theorem dX0_write_26 : decode cX0_write 26 = .ok (.iadd, 1) := by decide +kernel
theorem dX0_write_27 : decode cX0_write 27 = .ok (.bipush 100, 2) := by decide +kernel
theorem dX0_write_29 : decode cX0_write 29 = .ok (.idiv, 1) := by decide +kernel
theorem dX0_write_30 : decode cX0_write 30 = .ok (.putfield 27, 3) := by decide +kernel
theorem dX0_write_33 : decode cX0_write 33 = .ok (.aload_n 0, 1) := by decide +kernel
theorem dX0_write_34 : decode cX0_write 34 = .ok (.iload_n 2, 1) := by decide +kernel
theorem dX0_write_35 : decode cX0_write 35 = .ok (.aload_n 0, 1) := by decide +kernel
theorem dX0_write_36 : decode cX0_write 36 = .ok (.getfield 27, 3) := by decide +kernel
theorem dX0_write_39 : decode cX0_write 39 = .ok (.iadd, 1) := by decide +kernel
theorem dX0_write_40 : decode cX0_write 40 = .ok (.putfield 30, 3) := by decide +kernel
theorem dX0_write_43 : decode cX0_write 43 = .ok (.aload_n 0, 1) := by decide +kernel
theorem dX0_write_44 : decode cX0_write 44 = .ok (.iload 4, 2) := by decide +kernel
theorem dX0_write_46 : decode cX0_write 46 = .ok (.putfield 33, 3) := by decide +kernel
theorem dX0_write_49 : decode cX0_write 49 = .ok (.aload_n 0, 1) := by decide +kernel
theorem dX0_write_50 : decode cX0_write 50 = .ok (.iload 5, 2) := by decide +kernel
theorem dX0_write_52 : decode cX0_write 52 = .ok (.putfield 36, 3) := by decide +kernel
theorem dX0_write_55 : decode cX0_write 55 = .ok (.return_, 1) := by decide +kernel
theorem dX0_is_0 : decode cX0_is 0 = .ok (.aload_n 0, 1) := by decide +kernel
theorem dX0_is_1 : decode cX0_is 1 = .ok (.getfield 11, 3) := by decide +kernel
theorem dX0_is_4 : decode cX0_is 4 = .ok (.iconst (-1), 1) := by decide +kernel
theorem dX0_is_5 : decode cX0_is 5 = .ok (.if_icmp .eq 35, 3) := by decide +kernel
theorem dX0_is_8 : decode cX0_is 8 = .ok (.iload_n 1, 1) := by decide +kernel
theorem dX0_is_9 : decode cX0_is 9 = .ok (.bipush (-9), 2) := by decide +kernel
theorem dX0_is_11 : decode cX0_is 11 = .ok (.if_icmp .eq 11, 3) := by decide +kernel
theorem dX0_is_14 : decode cX0_is 14 = .ok (.iload_n 1, 1) := by decide +kernel
theorem dX0_is_15 : decode cX0_is 15 = .ok (.aload_n 0, 1) := by decide +kernel
theorem dX0_is_16 : decode cX0_is 16 = .ok (.getfield 18, 3) := by decide +kernel
theorem dX0_is_19 : decode cX0_is 19 = .ok (.if_icmp .ne 21, 3) := by decide +kernel
theorem dX0_is_22 : decode cX0_is 22 = .ok (.iload_n 2, 1) := by decide +kernel
theorem dX0_is_23 : decode cX0_is 23 = .ok (.bipush (-9), 2) := by decide +kernel
theorem dX0_is_25 : decode cX0_is 25 = .ok (.if_icmp .eq 11, 3) := by decide +kernel
theorem dX0_is_28 : decode cX0_is 28 = .ok (.iload_n 2, 1) := by decide +kernel
theorem dX0_is_29 : decode cX0_is 29 = .ok (.aload_n 0, 1) := by decide +kernel
theorem dX0_is_30 : decode cX0_is 30 = .ok (.getfield 11, 3) := by decide +kernel
theorem dX0_is_33 : decode cX0_is 33 = .ok (.if_icmp .ne 7, 3) := by decide +kernel
theorem dX0_is_36 : decode cX0_is 36 = .ok (.iconst 1, 1) := by decide +kernel
theorem dX0_is_37 : decode cX0_is 37 = .ok (.goto 4, 3) := by decide +kernel
theorem dX0_is_40 : decode cX0_is 40 = .ok (.iconst 0, 1) := by decide +kernel
theorem dX0_is_41 : decode cX0_is 41 = .ok (.ireturn, 1) := by decide +kernel
theorem dX0_owed_0 : decode cX0_owed 0 = .ok (.aload_n 0, 1) := by decide +kernel
theorem dX0_owed_1 : decode cX0_owed 1 = .ok (.getfield 30, 3) := by decide +kernel
theorem dX0_owed_4 : decode cX0_owed 4 = .ok (.aload_n 0, 1) := by decide +kernel
theorem dX0_owed_5 : decode cX0_owed 5 = .ok (.getfield 45, 3) := by decide +kernel
theorem dX0_owed_8 : decode cX0_owed 8 = .ok (.iadd, 1) := by decide +kernel
theorem dX0_owed_9 : decode cX0_owed 9 = .ok (.aload_n 0, 1) := by decide +kernel
theorem dX0_owed_10 : decode cX0_owed 10 = .ok (.getfield 39, 3) := by decide +kernel
theorem dX0_owed_13 : decode cX0_owed 13 = .ok (.isub, 1) := by decide +kernel
theorem dX0_owed_14 : decode cX0_owed 14 = .ok (.aload_n 0, 1) := by decide +kernel
theorem dX0_owed_15 : decode cX0_owed 15 = .ok (.getfield 42, 3) := by decide +kernel
theorem dX0_owed_18 : decode cX0_owed 18 = .ok (.isub, 1) := by decide +kernel
theorem dX0_owed_19 : decode cX0_owed 19 = .ok (.ireturn, 1) := by decide +kernel
theorem dX0_dueDay_0 : decode cX0_dueDay 0 = .ok (.aload_n 0, 1) := by decide +kernel
theorem dX0_dueDay_1 : decode cX0_dueDay 1 = .ok (.getfield 33, 3) := by decide +kernel
theorem dX0_dueDay_4 : decode cX0_dueDay 4 = .ok (.aload_n 0, 1) := by decide +kernel
theorem dX0_dueDay_5 : decode cX0_dueDay 5 = .ok (.getfield 36, 3) := by decide +kernel
theorem dX0_dueDay_8 : decode cX0_dueDay 8 = .ok (.iadd, 1) := by decide +kernel
theorem dX0_dueDay_9 : decode cX0_dueDay 9 = .ok (.ireturn, 1) := by decide +kernel
theorem dX0_isOverdue_0 : decode cX0_isOverdue 0 = .ok (.aload_n 0, 1) := by decide +kernel
theorem dX0_isOverdue_1 : decode cX0_isOverdue 1 = .ok (.getfield 11, 3) := by decide +kernel
theorem dX0_isOverdue_4 : decode cX0_isOverdue 4 = .ok (.ifCond .ne 20, 3) := by decide +kernel
theorem dX0_isOverdue_7 : decode cX0_isOverdue 7 = .ok (.iload_n 1, 1) := by decide +kernel
theorem dX0_isOverdue_8 : decode cX0_isOverdue 8 = .ok (.aload_n 0, 1) := by decide +kernel
theorem dX0_isOverdue_9 : decode cX0_isOverdue 9 = .ok (.getfield 33, 3) := by decide +kernel
theorem dX0_isOverdue_12 : decode cX0_isOverdue 12 = .ok (.isub, 1) := by decide +kernel
theorem dX0_isOverdue_13 : decode cX0_isOverdue 13 = .ok (.aload_n 0, 1) := by decide +kernel
theorem dX0_isOverdue_14 : decode cX0_isOverdue 14 = .ok (.getfield 36, 3) := by decide +kernel
theorem dX0_isOverdue_17 : decode cX0_isOverdue 17 = .ok (.if_icmp .le 7, 3) := by decide +kernel
theorem dX0_isOverdue_20 : decode cX0_isOverdue 20 = .ok (.iconst 1, 1) := by decide +kernel
theorem dX0_isOverdue_21 : decode cX0_isOverdue 21 = .ok (.goto 4, 3) := by decide +kernel
theorem dX0_isOverdue_24 : decode cX0_isOverdue 24 = .ok (.iconst 0, 1) := by decide +kernel
theorem dX0_isOverdue_25 : decode cX0_isOverdue 25 = .ok (.ireturn, 1) := by decide +kernel
theorem dX0_whyNoReminder_0 : decode cX0_whyNoReminder 0 = .ok (.aload_n 0, 1) := by decide +kernel
theorem dX0_whyNoReminder_1 : decode cX0_whyNoReminder 1 = .ok (.getfield 11, 3) := by decide +kernel
theorem dX0_whyNoReminder_4 : decode cX0_whyNoReminder 4 = .ok (.iconst 1, 1) := by decide +kernel
theorem dX0_whyNoReminder_5 : decode cX0_whyNoReminder 5 = .ok (.if_icmp .ne 5, 3) := by decide +kernel
theorem dX0_whyNoReminder_8 : decode cX0_whyNoReminder 8 = .ok (.iconst 1, 1) := by decide +kernel
theorem dX0_whyNoReminder_9 : decode cX0_whyNoReminder 9 = .ok (.ireturn, 1) := by decide +kernel
theorem dX0_whyNoReminder_10 : decode cX0_whyNoReminder 10 = .ok (.aload_n 0, 1) := by decide +kernel
theorem dX0_whyNoReminder_11 : decode cX0_whyNoReminder 11 = .ok (.getfield 11, 3) := by decide +kernel
theorem dX0_whyNoReminder_14 : decode cX0_whyNoReminder 14 = .ok (.iconst 2, 1) := by decide +kernel
theorem dX0_whyNoReminder_15 : decode cX0_whyNoReminder 15 = .ok (.if_icmp .ne 5, 3) := by decide +kernel
theorem dX0_whyNoReminder_18 : decode cX0_whyNoReminder 18 = .ok (.iconst 2, 1) := by decide +kernel
theorem dX0_whyNoReminder_19 : decode cX0_whyNoReminder 19 = .ok (.ireturn, 1) := by decide +kernel
theorem dX0_whyNoReminder_20 : decode cX0_whyNoReminder 20 = .ok (.aload_n 0, 1) := by decide +kernel
theorem dX0_whyNoReminder_21 : decode cX0_whyNoReminder 21 = .ok (.iload_n 1, 1) := by decide +kernel
theorem dX0_whyNoReminder_22 : decode cX0_whyNoReminder 22 = .ok (.invokevirtual 54, 3) := by decide +kernel
theorem dX0_whyNoReminder_25 : decode cX0_whyNoReminder 25 = .ok (.ifCond .ne 5, 3) := by decide +kernel
theorem dX0_whyNoReminder_28 : decode cX0_whyNoReminder 28 = .ok (.iconst 3, 1) := by decide +kernel
theorem dX0_whyNoReminder_29 : decode cX0_whyNoReminder 29 = .ok (.ireturn, 1) := by decide +kernel
theorem dX0_whyNoReminder_30 : decode cX0_whyNoReminder 30 = .ok (.aload_n 0, 1) := by decide +kernel
theorem dX0_whyNoReminder_31 : decode cX0_whyNoReminder 31 = .ok (.getfield 48, 3) := by decide +kernel
theorem dX0_whyNoReminder_34 : decode cX0_whyNoReminder 34 = .ok (.iconst 3, 1) := by decide +kernel
theorem dX0_whyNoReminder_35 : decode cX0_whyNoReminder 35 = .ok (.if_icmp .lt 5, 3) := by decide +kernel
theorem dX0_whyNoReminder_38 : decode cX0_whyNoReminder 38 = .ok (.iconst 4, 1) := by decide +kernel
theorem dX0_whyNoReminder_39 : decode cX0_whyNoReminder 39 = .ok (.ireturn, 1) := by decide +kernel
theorem dX0_whyNoReminder_40 : decode cX0_whyNoReminder 40 = .ok (.iload_n 1, 1) := by decide +kernel
theorem dX0_whyNoReminder_41 : decode cX0_whyNoReminder 41 = .ok (.aload_n 0, 1) := by decide +kernel
theorem dX0_whyNoReminder_42 : decode cX0_whyNoReminder 42 = .ok (.iload_n 2, 1) := by decide +kernel
theorem dX0_whyNoReminder_43 : decode cX0_whyNoReminder 43 = .ok (.invokevirtual 58, 3) := by decide +kernel
theorem dX0_whyNoReminder_46 : decode cX0_whyNoReminder 46 = .ok (.if_icmp .ge 7, 3) := by decide +kernel
theorem dX0_whyNoReminder_49 : decode cX0_whyNoReminder 49 = .ok (.iconst 5, 1) := by decide +kernel
theorem dX0_whyNoReminder_50 : decode cX0_whyNoReminder 50 = .ok (.goto 4, 3) := by decide +kernel
theorem dX0_whyNoReminder_53 : decode cX0_whyNoReminder 53 = .ok (.iconst 0, 1) := by decide +kernel
theorem dX0_whyNoReminder_54 : decode cX0_whyNoReminder 54 = .ok (.ireturn, 1) := by decide +kernel
theorem dX0_awaitsReminder_0 : decode cX0_awaitsReminder 0 = .ok (.aload_n 0, 1) := by decide +kernel
theorem dX0_awaitsReminder_1 : decode cX0_awaitsReminder 1 = .ok (.getfield 11, 3) := by decide +kernel
theorem dX0_awaitsReminder_4 : decode cX0_awaitsReminder 4 = .ok (.ifCond .ne 15, 3) := by decide +kernel
theorem dX0_awaitsReminder_7 : decode cX0_awaitsReminder 7 = .ok (.aload_n 0, 1) := by decide +kernel
theorem dX0_awaitsReminder_8 : decode cX0_awaitsReminder 8 = .ok (.getfield 48, 3) := by decide +kernel
theorem dX0_awaitsReminder_11 : decode cX0_awaitsReminder 11 = .ok (.iconst 3, 1) := by decide +kernel
theorem dX0_awaitsReminder_12 : decode cX0_awaitsReminder 12 = .ok (.if_icmp .ge 7, 3) := by decide +kernel
theorem dX0_awaitsReminder_15 : decode cX0_awaitsReminder 15 = .ok (.iconst 1, 1) := by decide +kernel
theorem dX0_awaitsReminder_16 : decode cX0_awaitsReminder 16 = .ok (.goto 4, 3) := by decide +kernel
theorem dX0_awaitsReminder_19 : decode cX0_awaitsReminder 19 = .ok (.iconst 0, 1) := by decide +kernel
theorem dX0_awaitsReminder_20 : decode cX0_awaitsReminder 20 = .ok (.ireturn, 1) := by decide +kernel
theorem dX0_reminderDay_0 : decode cX0_reminderDay 0 = .ok (.aload_n 0, 1) := by decide +kernel
theorem dX0_reminderDay_1 : decode cX0_reminderDay 1 = .ok (.getfield 48, 3) := by decide +kernel
theorem dX0_reminderDay_4 : decode cX0_reminderDay 4 = .ok (.ifCond .ne 10, 3) := by decide +kernel
theorem dX0_reminderDay_7 : decode cX0_reminderDay 7 = .ok (.aload_n 0, 1) := by decide +kernel
theorem dX0_reminderDay_8 : decode cX0_reminderDay 8 = .ok (.invokevirtual 62, 3) := by decide +kernel
theorem dX0_reminderDay_11 : decode cX0_reminderDay 11 = .ok (.goto 7, 3) := by decide +kernel
theorem dX0_reminderDay_14 : decode cX0_reminderDay 14 = .ok (.aload_n 0, 1) := by decide +kernel
theorem dX0_reminderDay_15 : decode cX0_reminderDay 15 = .ok (.getfield 51, 3) := by decide +kernel
theorem dX0_reminderDay_18 : decode cX0_reminderDay 18 = .ok (.iload_n 1, 1) := by decide +kernel
theorem dX0_reminderDay_19 : decode cX0_reminderDay 19 = .ok (.iadd, 1) := by decide +kernel
theorem dX0_reminderDay_20 : decode cX0_reminderDay 20 = .ok (.ireturn, 1) := by decide +kernel
theorem dX0_addReminder_0 : decode cX0_addReminder 0 = .ok (.aload_n 0, 1) := by decide +kernel
theorem dX0_addReminder_1 : decode cX0_addReminder 1 = .ok (.dup, 1) := by decide +kernel
theorem dX0_addReminder_2 : decode cX0_addReminder 2 = .ok (.getfield 45, 3) := by decide +kernel
theorem dX0_addReminder_5 : decode cX0_addReminder 5 = .ok (.aload_n 0, 1) := by decide +kernel
theorem dX0_addReminder_6 : decode cX0_addReminder 6 = .ok (.getfield 48, 3) := by decide +kernel
theorem dX0_addReminder_9 : decode cX0_addReminder 9 = .ok (.iload_n 2, 1) := by decide +kernel
theorem dX0_addReminder_10 : decode cX0_addReminder 10 = .ok (.imul, 1) := by decide +kernel
theorem dX0_addReminder_11 : decode cX0_addReminder 11 = .ok (.iadd, 1) := by decide +kernel
theorem dX0_addReminder_12 : decode cX0_addReminder 12 = .ok (.putfield 45, 3) := by decide +kernel
theorem dX0_addReminder_15 : decode cX0_addReminder 15 = .ok (.aload_n 0, 1) := by decide +kernel
theorem dX0_addReminder_16 : decode cX0_addReminder 16 = .ok (.dup, 1) := by decide +kernel
theorem dX0_addReminder_17 : decode cX0_addReminder 17 = .ok (.getfield 48, 3) := by decide +kernel
theorem dX0_addReminder_20 : decode cX0_addReminder 20 = .ok (.iconst 1, 1) := by decide +kernel
theorem dX0_addReminder_21 : decode cX0_addReminder 21 = .ok (.iadd, 1) := by decide +kernel
theorem dX0_addReminder_22 : decode cX0_addReminder 22 = .ok (.putfield 48, 3) := by decide +kernel
theorem dX0_addReminder_25 : decode cX0_addReminder 25 = .ok (.aload_n 0, 1) := by decide +kernel
theorem dX0_addReminder_26 : decode cX0_addReminder 26 = .ok (.iload_n 1, 1) := by decide +kernel
theorem dX0_addReminder_27 : decode cX0_addReminder 27 = .ok (.putfield 51, 3) := by decide +kernel
theorem dX0_addReminder_30 : decode cX0_addReminder 30 = .ok (.return_, 1) := by decide +kernel
theorem dX0_canBeWrittenOff_0 : decode cX0_canBeWrittenOff 0 = .ok (.aload_n 0, 1) := by decide +kernel
theorem dX0_canBeWrittenOff_1 : decode cX0_canBeWrittenOff 1 = .ok (.getfield 11, 3) := by decide +kernel
theorem dX0_canBeWrittenOff_4 : decode cX0_canBeWrittenOff 4 = .ok (.ifCond .ne 25, 3) := by decide +kernel
theorem dX0_canBeWrittenOff_7 : decode cX0_canBeWrittenOff 7 = .ok (.aload_n 0, 1) := by decide +kernel
theorem dX0_canBeWrittenOff_8 : decode cX0_canBeWrittenOff 8 = .ok (.getfield 48, 3) := by decide +kernel
theorem dX0_canBeWrittenOff_11 : decode cX0_canBeWrittenOff 11 = .ok (.iconst 3, 1) := by decide +kernel
theorem dX0_canBeWrittenOff_12 : decode cX0_canBeWrittenOff 12 = .ok (.if_icmp .lt 17, 3) := by decide +kernel
theorem dX0_canBeWrittenOff_15 : decode cX0_canBeWrittenOff 15 = .ok (.iload_n 1, 1) := by decide +kernel
theorem dX0_canBeWrittenOff_16 : decode cX0_canBeWrittenOff 16 = .ok (.aload_n 0, 1) := by decide +kernel
theorem dX0_canBeWrittenOff_17 : decode cX0_canBeWrittenOff 17 = .ok (.getfield 51, 3) := by decide +kernel
theorem dX0_canBeWrittenOff_20 : decode cX0_canBeWrittenOff 20 = .ok (.isub, 1) := by decide +kernel
theorem dX0_canBeWrittenOff_21 : decode cX0_canBeWrittenOff 21 = .ok (.iload_n 2, 1) := by decide +kernel
theorem dX0_canBeWrittenOff_22 : decode cX0_canBeWrittenOff 22 = .ok (.if_icmp .lt 7, 3) := by decide +kernel
theorem dX0_canBeWrittenOff_25 : decode cX0_canBeWrittenOff 25 = .ok (.iconst 1, 1) := by decide +kernel
theorem dX0_canBeWrittenOff_26 : decode cX0_canBeWrittenOff 26 = .ok (.goto 4, 3) := by decide +kernel
theorem dX0_canBeWrittenOff_29 : decode cX0_canBeWrittenOff 29 = .ok (.iconst 0, 1) := by decide +kernel
theorem dX0_canBeWrittenOff_30 : decode cX0_canBeWrittenOff 30 = .ok (.ireturn, 1) := by decide +kernel
theorem dX0_takeMoney_0 : decode cX0_takeMoney 0 = .ok (.aload_n 0, 1) := by decide +kernel
theorem dX0_takeMoney_1 : decode cX0_takeMoney 1 = .ok (.dup, 1) := by decide +kernel
theorem dX0_takeMoney_2 : decode cX0_takeMoney 2 = .ok (.getfield 39, 3) := by decide +kernel
theorem dX0_takeMoney_5 : decode cX0_takeMoney 5 = .ok (.iload_n 1, 1) := by decide +kernel
theorem dX0_takeMoney_6 : decode cX0_takeMoney 6 = .ok (.iadd, 1) := by decide +kernel
theorem dX0_takeMoney_7 : decode cX0_takeMoney 7 = .ok (.putfield 39, 3) := by decide +kernel
theorem dX0_takeMoney_10 : decode cX0_takeMoney 10 = .ok (.aload_n 0, 1) := by decide +kernel
theorem dX0_takeMoney_11 : decode cX0_takeMoney 11 = .ok (.dup, 1) := by decide +kernel
theorem dX0_takeMoney_12 : decode cX0_takeMoney 12 = .ok (.getfield 42, 3) := by decide +kernel
theorem dX0_takeMoney_15 : decode cX0_takeMoney 15 = .ok (.iload_n 2, 1) := by decide +kernel
theorem dX0_takeMoney_16 : decode cX0_takeMoney 16 = .ok (.iadd, 1) := by decide +kernel
theorem dX0_takeMoney_17 : decode cX0_takeMoney 17 = .ok (.putfield 42, 3) := by decide +kernel
theorem dX0_takeMoney_20 : decode cX0_takeMoney 20 = .ok (.aload_n 0, 1) := by decide +kernel
theorem dX0_takeMoney_21 : decode cX0_takeMoney 21 = .ok (.iload_n 3, 1) := by decide +kernel
theorem dX0_takeMoney_22 : decode cX0_takeMoney 22 = .ok (.putfield 15, 3) := by decide +kernel
theorem dX0_takeMoney_25 : decode cX0_takeMoney 25 = .ok (.aload_n 0, 1) := by decide +kernel
theorem dX0_takeMoney_26 : decode cX0_takeMoney 26 = .ok (.invokevirtual 66, 3) := by decide +kernel
theorem dX0_takeMoney_29 : decode cX0_takeMoney 29 = .ok (.ifCond .gt 8, 3) := by decide +kernel
theorem dX0_takeMoney_32 : decode cX0_takeMoney 32 = .ok (.aload_n 0, 1) := by decide +kernel
theorem dX0_takeMoney_33 : decode cX0_takeMoney 33 = .ok (.iconst 1, 1) := by decide +kernel
theorem dX0_takeMoney_34 : decode cX0_takeMoney 34 = .ok (.putfield 11, 3) := by decide +kernel
theorem dX0_takeMoney_37 : decode cX0_takeMoney 37 = .ok (.return_, 1) := by decide +kernel
theorem dX0_taxIn_0 : decode cX0_taxIn 0 = .ok (.bipush 100, 2) := by decide +kernel
theorem dX0_taxIn_2 : decode cX0_taxIn 2 = .ok (.aload_n 0, 1) := by decide +kernel
theorem dX0_taxIn_3 : decode cX0_taxIn 3 = .ok (.getfield 24, 3) := by decide +kernel
theorem dX0_taxIn_6 : decode cX0_taxIn 6 = .ok (.iadd, 1) := by decide +kernel
theorem dX0_taxIn_7 : decode cX0_taxIn 7 = .ok (.istore_n 2, 1) := by decide +kernel
theorem dX0_taxIn_8 : decode cX0_taxIn 8 = .ok (.iload_n 2, 1) := by decide +kernel
theorem dX0_taxIn_9 : decode cX0_taxIn 9 = .ok (.ifCond .le 14, 3) := by decide +kernel
theorem dX0_taxIn_12 : decode cX0_taxIn 12 = .ok (.iload_n 1, 1) := by decide +kernel
theorem dX0_taxIn_13 : decode cX0_taxIn 13 = .ok (.aload_n 0, 1) := by decide +kernel
theorem dX0_taxIn_14 : decode cX0_taxIn 14 = .ok (.getfield 24, 3) := by decide +kernel
theorem dX0_taxIn_17 : decode cX0_taxIn 17 = .ok (.imul, 1) := by decide +kernel
theorem dX0_taxIn_18 : decode cX0_taxIn 18 = .ok (.iload_n 2, 1) := by decide +kernel
theorem dX0_taxIn_19 : decode cX0_taxIn 19 = .ok (.idiv, 1) := by decide +kernel
theorem dX0_taxIn_20 : decode cX0_taxIn 20 = .ok (.goto 4, 3) := by decide +kernel
theorem dX0_taxIn_23 : decode cX0_taxIn 23 = .ok (.iconst 0, 1) := by decide +kernel
theorem dX0_taxIn_24 : decode cX0_taxIn 24 = .ok (.ireturn, 1) := by decide +kernel
theorem dX1_init_0 : decode cX1_init 0 = .ok (.aload_n 0, 1) := by decide +kernel
theorem dX1_init_1 : decode cX1_init 1 = .ok (.invokespecial 3, 3) := by decide +kernel
theorem dX1_init_4 : decode cX1_init 4 = .ok (.aload_n 0, 1) := by decide +kernel
theorem dX1_init_5 : decode cX1_init 5 = .ok (.bipush 40, 2) := by decide +kernel
theorem dX1_init_7 : decode cX1_init 7 = .ok (.anewarray 9, 3) := by decide +kernel
theorem dX1_init_10 : decode cX1_init 10 = .ok (.putfield 11, 3) := by decide +kernel
theorem dX1_init_13 : decode cX1_init 13 = .ok (.aload_n 0, 1) := by decide +kernel
theorem dX1_init_14 : decode cX1_init 14 = .ok (.bipush 8, 2) := by decide +kernel
theorem dX1_init_16 : decode cX1_init 16 = .ok (.newarray .int, 2) := by decide +kernel
theorem dX1_init_18 : decode cX1_init 18 = .ok (.putfield 17, 3) := by decide +kernel
theorem dX1_init_21 : decode cX1_init 21 = .ok (.aload_n 0, 1) := by decide +kernel
theorem dX1_init_22 : decode cX1_init 22 = .ok (.bipush 100, 2) := by decide +kernel
theorem dX1_init_24 : decode cX1_init 24 = .ok (.newarray .int, 2) := by decide +kernel
theorem dX1_init_26 : decode cX1_init 26 = .ok (.putfield 21, 3) := by decide +kernel
theorem dX1_init_29 : decode cX1_init 29 = .ok (.aload_n 0, 1) := by decide +kernel
theorem dX1_init_30 : decode cX1_init 30 = .ok (.bipush 100, 2) := by decide +kernel
theorem dX1_init_32 : decode cX1_init 32 = .ok (.newarray .int, 2) := by decide +kernel
theorem dX1_init_34 : decode cX1_init 34 = .ok (.putfield 24, 3) := by decide +kernel
theorem dX1_init_37 : decode cX1_init 37 = .ok (.aload_n 0, 1) := by decide +kernel
theorem dX1_init_38 : decode cX1_init 38 = .ok (.new 27, 3) := by decide +kernel
theorem dX1_init_41 : decode cX1_init 41 = .ok (.dup, 1) := by decide +kernel
theorem dX1_init_42 : decode cX1_init 42 = .ok (.invokespecial 29, 3) := by decide +kernel
theorem dX1_init_45 : decode cX1_init 45 = .ok (.putfield 30, 3) := by decide +kernel
theorem dX1_init_48 : decode cX1_init 48 = .ok (.iconst 0, 1) := by decide +kernel
theorem dX1_init_49 : decode cX1_init 49 = .ok (.istore_n 1, 1) := by decide +kernel
theorem dX1_init_50 : decode cX1_init 50 = .ok (.iload_n 1, 1) := by decide +kernel
theorem dX1_init_51 : decode cX1_init 51 = .ok (.aload_n 0, 1) := by decide +kernel
theorem dX1_init_52 : decode cX1_init 52 = .ok (.getfield 11, 3) := by decide +kernel
theorem dX1_init_55 : decode cX1_init 55 = .ok (.arraylength, 1) := by decide +kernel
theorem dX1_init_56 : decode cX1_init 56 = .ok (.if_icmp .ge 22, 3) := by decide +kernel
theorem dX1_init_59 : decode cX1_init 59 = .ok (.aload_n 0, 1) := by decide +kernel
theorem dX1_init_60 : decode cX1_init 60 = .ok (.getfield 11, 3) := by decide +kernel
theorem dX1_init_63 : decode cX1_init 63 = .ok (.iload_n 1, 1) := by decide +kernel
theorem dX1_init_64 : decode cX1_init 64 = .ok (.new 9, 3) := by decide +kernel
theorem dX1_init_67 : decode cX1_init 67 = .ok (.dup, 1) := by decide +kernel
theorem dX1_init_68 : decode cX1_init 68 = .ok (.invokespecial 34, 3) := by decide +kernel
theorem dX1_init_71 : decode cX1_init 71 = .ok (.aastore, 1) := by decide +kernel
theorem dX1_init_72 : decode cX1_init 72 = .ok (.iinc 1 1, 3) := by decide +kernel
theorem dX1_init_75 : decode cX1_init 75 = .ok (.goto (-25), 3) := by decide +kernel
theorem dX1_init_78 : decode cX1_init 78 = .ok (.return_, 1) := by decide +kernel
theorem dX1_copyFrom_0 : decode cX1_copyFrom 0 = .ok (.iconst 0, 1) := by decide +kernel
theorem dX1_copyFrom_1 : decode cX1_copyFrom 1 = .ok (.istore_n 2, 1) := by decide +kernel
theorem dX1_copyFrom_2 : decode cX1_copyFrom 2 = .ok (.iload_n 2, 1) := by decide +kernel
theorem dX1_copyFrom_3 : decode cX1_copyFrom 3 = .ok (.aload_n 0, 1) := by decide +kernel
theorem dX1_copyFrom_4 : decode cX1_copyFrom 4 = .ok (.getfield 11, 3) := by decide +kernel
theorem dX1_copyFrom_7 : decode cX1_copyFrom 7 = .ok (.arraylength, 1) := by decide +kernel
theorem dX1_copyFrom_8 : decode cX1_copyFrom 8 = .ok (.if_icmp .ge 24, 3) := by decide +kernel
theorem dX1_copyFrom_11 : decode cX1_copyFrom 11 = .ok (.aload_n 0, 1) := by decide +kernel
theorem dX1_copyFrom_12 : decode cX1_copyFrom 12 = .ok (.getfield 11, 3) := by decide +kernel
theorem dX1_copyFrom_15 : decode cX1_copyFrom 15 = .ok (.iload_n 2, 1) := by decide +kernel
theorem dX1_copyFrom_16 : decode cX1_copyFrom 16 = .ok (.aaload, 1) := by decide +kernel
theorem dX1_copyFrom_17 : decode cX1_copyFrom 17 = .ok (.aload_n 1, 1) := by decide +kernel
theorem dX1_copyFrom_18 : decode cX1_copyFrom 18 = .ok (.getfield 11, 3) := by decide +kernel
theorem dX1_copyFrom_21 : decode cX1_copyFrom 21 = .ok (.iload_n 2, 1) := by decide +kernel
theorem dX1_copyFrom_22 : decode cX1_copyFrom 22 = .ok (.aaload, 1) := by decide +kernel
theorem dX1_copyFrom_23 : decode cX1_copyFrom 23 = .ok (.invokevirtual 35, 3) := by decide +kernel
theorem dX1_copyFrom_26 : decode cX1_copyFrom 26 = .ok (.iinc 2 1, 3) := by decide +kernel
theorem dX1_copyFrom_29 : decode cX1_copyFrom 29 = .ok (.goto (-27), 3) := by decide +kernel
theorem dX1_copyFrom_32 : decode cX1_copyFrom 32 = .ok (.aload_n 1, 1) := by decide +kernel
theorem dX1_copyFrom_33 : decode cX1_copyFrom 33 = .ok (.getfield 17, 3) := by decide +kernel
theorem dX1_copyFrom_36 : decode cX1_copyFrom 36 = .ok (.iconst 0, 1) := by decide +kernel
theorem dX1_copyFrom_37 : decode cX1_copyFrom 37 = .ok (.aload_n 0, 1) := by decide +kernel
theorem dX1_copyFrom_38 : decode cX1_copyFrom 38 = .ok (.getfield 17, 3) := by decide +kernel
theorem dX1_copyFrom_41 : decode cX1_copyFrom 41 = .ok (.iconst 0, 1) := by decide +kernel
theorem dX1_copyFrom_42 : decode cX1_copyFrom 42 = .ok (.aload_n 0, 1) := by decide +kernel
theorem dX1_copyFrom_43 : decode cX1_copyFrom 43 = .ok (.getfield 17, 3) := by decide +kernel
theorem dX1_copyFrom_46 : decode cX1_copyFrom 46 = .ok (.arraylength, 1) := by decide +kernel
theorem dX1_copyFrom_47 : decode cX1_copyFrom 47 = .ok (.invokestatic 39, 3) := by decide +kernel
theorem dX1_copyFrom_50 : decode cX1_copyFrom 50 = .ok (.aload_n 1, 1) := by decide +kernel
theorem dX1_copyFrom_51 : decode cX1_copyFrom 51 = .ok (.getfield 21, 3) := by decide +kernel
theorem dX1_copyFrom_54 : decode cX1_copyFrom 54 = .ok (.iconst 0, 1) := by decide +kernel
theorem dX1_copyFrom_55 : decode cX1_copyFrom 55 = .ok (.aload_n 0, 1) := by decide +kernel
theorem dX1_copyFrom_56 : decode cX1_copyFrom 56 = .ok (.getfield 21, 3) := by decide +kernel
theorem dX1_copyFrom_59 : decode cX1_copyFrom 59 = .ok (.iconst 0, 1) := by decide +kernel
theorem dX1_copyFrom_60 : decode cX1_copyFrom 60 = .ok (.aload_n 0, 1) := by decide +kernel
theorem dX1_copyFrom_61 : decode cX1_copyFrom 61 = .ok (.getfield 21, 3) := by decide +kernel
theorem dX1_copyFrom_64 : decode cX1_copyFrom 64 = .ok (.arraylength, 1) := by decide +kernel
theorem dX1_copyFrom_65 : decode cX1_copyFrom 65 = .ok (.invokestatic 39, 3) := by decide +kernel
theorem dX1_copyFrom_68 : decode cX1_copyFrom 68 = .ok (.aload_n 1, 1) := by decide +kernel
theorem dX1_copyFrom_69 : decode cX1_copyFrom 69 = .ok (.getfield 24, 3) := by decide +kernel
theorem dX1_copyFrom_72 : decode cX1_copyFrom 72 = .ok (.iconst 0, 1) := by decide +kernel
theorem dX1_copyFrom_73 : decode cX1_copyFrom 73 = .ok (.aload_n 0, 1) := by decide +kernel
theorem dX1_copyFrom_74 : decode cX1_copyFrom 74 = .ok (.getfield 24, 3) := by decide +kernel
theorem dX1_copyFrom_77 : decode cX1_copyFrom 77 = .ok (.iconst 0, 1) := by decide +kernel
theorem dX1_copyFrom_78 : decode cX1_copyFrom 78 = .ok (.aload_n 0, 1) := by decide +kernel
theorem dX1_copyFrom_79 : decode cX1_copyFrom 79 = .ok (.getfield 24, 3) := by decide +kernel
theorem dX1_copyFrom_82 : decode cX1_copyFrom 82 = .ok (.arraylength, 1) := by decide +kernel
theorem dX1_copyFrom_83 : decode cX1_copyFrom 83 = .ok (.invokestatic 39, 3) := by decide +kernel
theorem dX1_copyFrom_86 : decode cX1_copyFrom 86 = .ok (.aload_n 0, 1) := by decide +kernel
theorem dX1_copyFrom_87 : decode cX1_copyFrom 87 = .ok (.getfield 30, 3) := by decide +kernel
theorem dX1_copyFrom_90 : decode cX1_copyFrom 90 = .ok (.aload_n 1, 1) := by decide +kernel
theorem dX1_copyFrom_91 : decode cX1_copyFrom 91 = .ok (.getfield 30, 3) := by decide +kernel
theorem dX1_copyFrom_94 : decode cX1_copyFrom 94 = .ok (.invokevirtual 45, 3) := by decide +kernel
theorem dX1_copyFrom_97 : decode cX1_copyFrom 97 = .ok (.aload_n 0, 1) := by decide +kernel
theorem dX1_copyFrom_98 : decode cX1_copyFrom 98 = .ok (.aload_n 1, 1) := by decide +kernel
theorem dX1_copyFrom_99 : decode cX1_copyFrom 99 = .ok (.getfield 48, 3) := by decide +kernel
theorem dX1_copyFrom_102 : decode cX1_copyFrom 102 = .ok (.putfield 48, 3) := by decide +kernel
theorem dX1_copyFrom_105 : decode cX1_copyFrom 105 = .ok (.aload_n 0, 1) := by decide +kernel
theorem dX1_copyFrom_106 : decode cX1_copyFrom 106 = .ok (.aload_n 1, 1) := by decide +kernel
theorem dX1_copyFrom_107 : decode cX1_copyFrom 107 = .ok (.getfield 52, 3) := by decide +kernel
theorem dX1_copyFrom_110 : decode cX1_copyFrom 110 = .ok (.putfield 52, 3) := by decide +kernel
theorem dX1_copyFrom_113 : decode cX1_copyFrom 113 = .ok (.aload_n 0, 1) := by decide +kernel
theorem dX1_copyFrom_114 : decode cX1_copyFrom 114 = .ok (.aload_n 1, 1) := by decide +kernel
theorem dX1_copyFrom_115 : decode cX1_copyFrom 115 = .ok (.getfield 55, 3) := by decide +kernel
theorem dX1_copyFrom_118 : decode cX1_copyFrom 118 = .ok (.putfield 55, 3) := by decide +kernel
theorem dX1_copyFrom_121 : decode cX1_copyFrom 121 = .ok (.return_, 1) := by decide +kernel
theorem dX1_billAt_0 : decode cX1_billAt 0 = .ok (.iload_n 1, 1) := by decide +kernel
theorem dX1_billAt_1 : decode cX1_billAt 1 = .ok (.ifCond .lt 25, 3) := by decide +kernel
theorem dX1_billAt_4 : decode cX1_billAt 4 = .ok (.iload_n 1, 1) := by decide +kernel
theorem dX1_billAt_5 : decode cX1_billAt 5 = .ok (.aload_n 0, 1) := by decide +kernel
theorem dX1_billAt_6 : decode cX1_billAt 6 = .ok (.getfield 11, 3) := by decide +kernel
theorem dX1_billAt_9 : decode cX1_billAt 9 = .ok (.arraylength, 1) := by decide +kernel
theorem dX1_billAt_10 : decode cX1_billAt 10 = .ok (.if_icmp .ge 16, 3) := by decide +kernel
theorem dX1_billAt_13 : decode cX1_billAt 13 = .ok (.aload_n 0, 1) := by decide +kernel
theorem dX1_billAt_14 : decode cX1_billAt 14 = .ok (.getfield 11, 3) := by decide +kernel
theorem dX1_billAt_17 : decode cX1_billAt 17 = .ok (.iload_n 1, 1) := by decide +kernel
theorem dX1_billAt_18 : decode cX1_billAt 18 = .ok (.aaload, 1) := by decide +kernel
theorem dX1_billAt_19 : decode cX1_billAt 19 = .ok (.getfield 58, 3) := by decide +kernel
theorem dX1_billAt_22 : decode cX1_billAt 22 = .ok (.iconst (-1), 1) := by decide +kernel
theorem dX1_billAt_23 : decode cX1_billAt 23 = .ok (.if_icmp .ne 5, 3) := by decide +kernel
theorem dX1_billAt_26 : decode cX1_billAt 26 = .ok (.aconst_null, 1) := by decide +kernel
theorem dX1_billAt_27 : decode cX1_billAt 27 = .ok (.areturn, 1) := by decide +kernel
theorem dX1_billAt_28 : decode cX1_billAt 28 = .ok (.aload_n 0, 1) := by decide +kernel
theorem dX1_billAt_29 : decode cX1_billAt 29 = .ok (.getfield 11, 3) := by decide +kernel
theorem dX1_billAt_32 : decode cX1_billAt 32 = .ok (.iload_n 1, 1) := by decide +kernel
theorem dX1_billAt_33 : decode cX1_billAt 33 = .ok (.aaload, 1) := by decide +kernel
theorem dX1_billAt_34 : decode cX1_billAt 34 = .ok (.areturn, 1) := by decide +kernel
theorem dX1_creditOf_0 : decode cX1_creditOf 0 = .ok (.iload_n 1, 1) := by decide +kernel
theorem dX1_creditOf_1 : decode cX1_creditOf 1 = .ok (.invokestatic 61, 3) := by decide +kernel
theorem dX1_creditOf_4 : decode cX1_creditOf 4 = .ok (.ifCond .eq 12, 3) := by decide +kernel
theorem dX1_creditOf_7 : decode cX1_creditOf 7 = .ok (.aload_n 0, 1) := by decide +kernel
theorem dX1_creditOf_8 : decode cX1_creditOf 8 = .ok (.getfield 17, 3) := by decide +kernel
theorem dX1_creditOf_11 : decode cX1_creditOf 11 = .ok (.iload_n 1, 1) := by decide +kernel
theorem dX1_creditOf_12 : decode cX1_creditOf 12 = .ok (.iaload, 1) := by decide +kernel
theorem dX1_creditOf_13 : decode cX1_creditOf 13 = .ok (.goto 4, 3) := by decide +kernel
theorem dX1_creditOf_16 : decode cX1_creditOf 16 = .ok (.iconst 0, 1) := by decide +kernel
theorem dX1_creditOf_17 : decode cX1_creditOf 17 = .ok (.ireturn, 1) := by decide +kernel
theorem dX1_setCredit_0 : decode cX1_setCredit 0 = .ok (.iload_n 1, 1) := by decide +kernel
theorem dX1_setCredit_1 : decode cX1_setCredit 1 = .ok (.invokestatic 61, 3) := by decide +kernel
theorem dX1_setCredit_4 : decode cX1_setCredit 4 = .ok (.ifCond .eq 10, 3) := by decide +kernel
theorem dX1_setCredit_7 : decode cX1_setCredit 7 = .ok (.aload_n 0, 1) := by decide +kernel
theorem dX1_setCredit_8 : decode cX1_setCredit 8 = .ok (.getfield 17, 3) := by decide +kernel
theorem dX1_setCredit_11 : decode cX1_setCredit 11 = .ok (.iload_n 1, 1) := by decide +kernel
theorem dX1_setCredit_12 : decode cX1_setCredit 12 = .ok (.iload_n 2, 1) := by decide +kernel
theorem dX1_setCredit_13 : decode cX1_setCredit 13 = .ok (.iastore, 1) := by decide +kernel
theorem dX1_setCredit_14 : decode cX1_setCredit 14 = .ok (.return_, 1) := by decide +kernel
theorem dX1_writeBill_0 : decode cX1_writeBill 0 = .ok (.iload_n 1, 1) := by decide +kernel
theorem dX1_writeBill_1 : decode cX1_writeBill 1 = .ok (.invokestatic 61, 3) := by decide +kernel
theorem dX1_writeBill_4 : decode cX1_writeBill 4 = .ok (.ifCond .ne 5, 3) := by decide +kernel
theorem dX1_writeBill_7 : decode cX1_writeBill 7 = .ok (.iconst (-1), 1) := by decide +kernel
theorem dX1_writeBill_8 : decode cX1_writeBill 8 = .ok (.ireturn, 1) := by decide +kernel
theorem dX1_writeBill_9 : decode cX1_writeBill 9 = .ok (.iload_n 2, 1) := by decide +kernel
theorem dX1_writeBill_10 : decode cX1_writeBill 10 = .ok (.iconst 1, 1) := by decide +kernel
theorem dX1_writeBill_11 : decode cX1_writeBill 11 = .ok (.if_icmp .lt 32, 3) := by decide +kernel
theorem dX1_writeBill_14 : decode cX1_writeBill 14 = .ok (.iload_n 2, 1) := by decide +kernel
theorem dX1_writeBill_15 : decode cX1_writeBill 15 = .ok (.sipush 9999, 3) := by decide +kernel
theorem dX1_writeBill_18 : decode cX1_writeBill 18 = .ok (.if_icmp .gt 25, 3) := by decide +kernel
theorem dX1_writeBill_21 : decode cX1_writeBill 21 = .ok (.iload_n 3, 1) := by decide +kernel
theorem dX1_writeBill_22 : decode cX1_writeBill 22 = .ok (.ifCond .lt 21, 3) := by decide +kernel
theorem dX1_writeBill_25 : decode cX1_writeBill 25 = .ok (.iload_n 3, 1) := by decide +kernel
theorem dX1_writeBill_26 : decode cX1_writeBill 26 = .ok (.bipush 40, 2) := by decide +kernel
theorem dX1_writeBill_28 : decode cX1_writeBill 28 = .ok (.if_icmp .gt 15, 3) := by decide +kernel
theorem dX1_writeBill_31 : decode cX1_writeBill 31 = .ok (.iload 4, 2) := by decide +kernel
theorem dX1_writeBill_33 : decode cX1_writeBill 33 = .ok (.ifCond .lt 10, 3) := by decide +kernel
theorem dX1_writeBill_36 : decode cX1_writeBill 36 = .ok (.iload 4, 2) := by decide +kernel
theorem dX1_writeBill_38 : decode cX1_writeBill 38 = .ok (.bipush 99, 2) := by decide +kernel
theorem dX1_writeBill_40 : decode cX1_writeBill 40 = .ok (.if_icmp .le 6, 3) := by decide +kernel
theorem dX1_writeBill_43 : decode cX1_writeBill 43 = .ok (.bipush (-2), 2) := by decide +kernel
theorem dX1_writeBill_45 : decode cX1_writeBill 45 = .ok (.ireturn, 1) := by decide +kernel
theorem dX1_writeBill_46 : decode cX1_writeBill 46 = .ok (.aload_n 0, 1) := by decide +kernel
theorem dX1_writeBill_47 : decode cX1_writeBill 47 = .ok (.bipush (-9), 2) := by decide +kernel
theorem dX1_writeBill_49 : decode cX1_writeBill 49 = .ok (.bipush (-9), 2) := by decide +kernel
theorem dX1_writeBill_51 : decode cX1_writeBill 51 = .ok (.invokevirtual 65, 3) := by decide +kernel
theorem dX1_writeBill_54 : decode cX1_writeBill 54 = .ok (.istore 5, 2) := by decide +kernel
theorem dX1_writeBill_56 : decode cX1_writeBill 56 = .ok (.iload 5, 2) := by decide +kernel
theorem dX1_writeBill_58 : decode cX1_writeBill 58 = .ok (.aload_n 0, 1) := by decide +kernel
theorem dX1_writeBill_59 : decode cX1_writeBill 59 = .ok (.getfield 11, 3) := by decide +kernel
theorem dX1_writeBill_62 : decode cX1_writeBill 62 = .ok (.arraylength, 1) := by decide +kernel
theorem dX1_writeBill_63 : decode cX1_writeBill 63 = .ok (.if_icmp .lt 6, 3) := by decide +kernel
theorem dX1_writeBill_66 : decode cX1_writeBill 66 = .ok (.bipush (-3), 2) := by decide +kernel
theorem dX1_writeBill_68 : decode cX1_writeBill 68 = .ok (.ireturn, 1) := by decide +kernel
theorem dX1_writeBill_69 : decode cX1_writeBill 69 = .ok (.aload_n 0, 1) := by decide +kernel
theorem dX1_writeBill_70 : decode cX1_writeBill 70 = .ok (.getfield 11, 3) := by decide +kernel
theorem dX1_writeBill_73 : decode cX1_writeBill 73 = .ok (.iload 5, 2) := by decide +kernel
theorem dX1_writeBill_75 : decode cX1_writeBill 75 = .ok (.aaload, 1) := by decide +kernel
theorem dX1_writeBill_76 : decode cX1_writeBill 76 = .ok (.astore 6, 2) := by decide +kernel
theorem dX1_writeBill_78 : decode cX1_writeBill 78 = .ok (.aload 6, 2) := by decide +kernel
theorem dX1_writeBill_80 : decode cX1_writeBill 80 = .ok (.iload_n 1, 1) := by decide +kernel
theorem dX1_writeBill_81 : decode cX1_writeBill 81 = .ok (.iload_n 2, 1) := by decide +kernel
theorem dX1_writeBill_82 : decode cX1_writeBill 82 = .ok (.iload_n 3, 1) := by decide +kernel
theorem dX1_writeBill_83 : decode cX1_writeBill 83 = .ok (.aload_n 0, 1) := by decide +kernel
theorem dX1_writeBill_84 : decode cX1_writeBill 84 = .ok (.getfield 48, 3) := by decide +kernel
theorem dX1_writeBill_87 : decode cX1_writeBill 87 = .ok (.iload 4, 2) := by decide +kernel
theorem dX1_writeBill_89 : decode cX1_writeBill 89 = .ok (.invokevirtual 69, 3) := by decide +kernel
theorem dX1_writeBill_92 : decode cX1_writeBill 92 = .ok (.aload_n 0, 1) := by decide +kernel
theorem dX1_writeBill_93 : decode cX1_writeBill 93 = .ok (.iload_n 1, 1) := by decide +kernel
theorem dX1_writeBill_94 : decode cX1_writeBill 94 = .ok (.invokevirtual 73, 3) := by decide +kernel
theorem dX1_writeBill_97 : decode cX1_writeBill 97 = .ok (.istore 7, 2) := by decide +kernel
theorem dX1_writeBill_99 : decode cX1_writeBill 99 = .ok (.aload_n 0, 1) := by decide +kernel
theorem dX1_writeBill_100 : decode cX1_writeBill 100 = .ok (.iload_n 1, 1) := by decide +kernel
theorem dX1_writeBill_101 : decode cX1_writeBill 101 = .ok (.iload 7, 2) := by decide +kernel
theorem dX1_writeBill_103 : decode cX1_writeBill 103 = .ok (.aload_n 0, 1) := by decide +kernel
theorem dX1_writeBill_104 : decode cX1_writeBill 104 = .ok (.aload 6, 2) := by decide +kernel
theorem dX1_writeBill_106 : decode cX1_writeBill 106 = .ok (.iload 7, 2) := by decide +kernel
theorem dX1_writeBill_108 : decode cX1_writeBill 108 = .ok (.invokevirtual 77, 3) := by decide +kernel
theorem dX1_writeBill_111 : decode cX1_writeBill 111 = .ok (.isub, 1) := by decide +kernel
theorem dX1_writeBill_112 : decode cX1_writeBill 112 = .ok (.invokevirtual 81, 3) := by decide +kernel
theorem dX1_writeBill_115 : decode cX1_writeBill 115 = .ok (.iload 5, 2) := by decide +kernel
theorem dX1_writeBill_117 : decode cX1_writeBill 117 = .ok (.ireturn, 1) := by decide +kernel
theorem dX1_takePayment_0 : decode cX1_takePayment 0 = .ok (.iload_n 1, 1) := by decide +kernel
theorem dX1_takePayment_1 : decode cX1_takePayment 1 = .ok (.invokestatic 61, 3) := by decide +kernel
theorem dX1_takePayment_4 : decode cX1_takePayment 4 = .ok (.ifCond .ne 5, 3) := by decide +kernel
theorem dX1_takePayment_7 : decode cX1_takePayment 7 = .ok (.iconst (-1), 1) := by decide +kernel
theorem dX1_takePayment_8 : decode cX1_takePayment 8 = .ok (.ireturn, 1) := by decide +kernel
theorem dX1_takePayment_9 : decode cX1_takePayment 9 = .ok (.iload_n 2, 1) := by decide +kernel
theorem dX1_takePayment_10 : decode cX1_takePayment 10 = .ok (.invokestatic 85, 3) := by decide +kernel
theorem dX1_takePayment_13 : decode cX1_takePayment 13 = .ok (.ifCond .ne 6, 3) := by decide +kernel
theorem dX1_takePayment_16 : decode cX1_takePayment 16 = .ok (.bipush (-2), 2) := by decide +kernel
theorem dX1_takePayment_18 : decode cX1_takePayment 18 = .ok (.ireturn, 1) := by decide +kernel
theorem dX1_takePayment_19 : decode cX1_takePayment 19 = .ok (.iload_n 2, 1) := by decide +kernel
theorem dX1_takePayment_20 : decode cX1_takePayment 20 = .ok (.istore_n 3, 1) := by decide +kernel
theorem dX1_takePayment_21 : decode cX1_takePayment 21 = .ok (.iconst 0, 1) := by decide +kernel
theorem dX1_takePayment_22 : decode cX1_takePayment 22 = .ok (.istore 4, 2) := by decide +kernel
theorem dX1_takePayment_24 : decode cX1_takePayment 24 = .ok (.aload_n 0, 1) := by decide +kernel
theorem dX1_takePayment_25 : decode cX1_takePayment 25 = .ok (.getfield 11, 3) := by decide +kernel
theorem dX1_takePayment_28 : decode cX1_takePayment 28 = .ok (.astore 5, 2) := by decide +kernel
theorem dX1_takePayment_30 : decode cX1_takePayment 30 = .ok (.aload 5, 2) := by decide +kernel
theorem dX1_takePayment_32 : decode cX1_takePayment 32 = .ok (.arraylength, 1) := by decide +kernel
theorem dX1_takePayment_33 : decode cX1_takePayment 33 = .ok (.istore 6, 2) := by decide +kernel
theorem dX1_takePayment_35 : decode cX1_takePayment 35 = .ok (.iconst 0, 1) := by decide +kernel
theorem dX1_takePayment_36 : decode cX1_takePayment 36 = .ok (.istore 7, 2) := by decide +kernel
theorem dX1_takePayment_38 : decode cX1_takePayment 38 = .ok (.iload 7, 2) := by decide +kernel
theorem dX1_takePayment_40 : decode cX1_takePayment 40 = .ok (.iload 6, 2) := by decide +kernel
theorem dX1_takePayment_42 : decode cX1_takePayment 42 = .ok (.if_icmp .ge 55, 3) := by decide +kernel
theorem dX1_takePayment_45 : decode cX1_takePayment 45 = .ok (.aload 5, 2) := by decide +kernel
theorem dX1_takePayment_47 : decode cX1_takePayment 47 = .ok (.iload 7, 2) := by decide +kernel
theorem dX1_takePayment_49 : decode cX1_takePayment 49 = .ok (.aaload, 1) := by decide +kernel
theorem dX1_takePayment_50 : decode cX1_takePayment 50 = .ok (.astore 8, 2) := by decide +kernel
theorem dX1_takePayment_52 : decode cX1_takePayment 52 = .ok (.aload 8, 2) := by decide +kernel
theorem dX1_takePayment_54 : decode cX1_takePayment 54 = .ok (.iload_n 1, 1) := by decide +kernel
theorem dX1_takePayment_55 : decode cX1_takePayment 55 = .ok (.iconst 0, 1) := by decide +kernel
theorem dX1_takePayment_56 : decode cX1_takePayment 56 = .ok (.invokevirtual 88, 3) := by decide +kernel
theorem dX1_takePayment_59 : decode cX1_takePayment 59 = .ok (.ifCond .eq 32, 3) := by decide +kernel
theorem dX1_takePayment_62 : decode cX1_takePayment 62 = .ok (.iload_n 3, 1) := by decide +kernel
theorem dX1_takePayment_63 : decode cX1_takePayment 63 = .ok (.aload_n 0, 1) := by decide +kernel
theorem dX1_takePayment_64 : decode cX1_takePayment 64 = .ok (.aload 8, 2) := by decide +kernel
theorem dX1_takePayment_66 : decode cX1_takePayment 66 = .ok (.iload_n 3, 1) := by decide +kernel
theorem dX1_takePayment_67 : decode cX1_takePayment 67 = .ok (.invokevirtual 77, 3) := by decide +kernel
theorem dX1_takePayment_70 : decode cX1_takePayment 70 = .ok (.isub, 1) := by decide +kernel
theorem dX1_takePayment_71 : decode cX1_takePayment 71 = .ok (.istore_n 3, 1) := by decide +kernel
theorem dX1_takePayment_72 : decode cX1_takePayment 72 = .ok (.iload 4, 2) := by decide +kernel
theorem dX1_takePayment_74 : decode cX1_takePayment 74 = .ok (.aload 8, 2) := by decide +kernel
theorem dX1_takePayment_76 : decode cX1_takePayment 76 = .ok (.getfield 58, 3) := by decide +kernel
theorem dX1_takePayment_79 : decode cX1_takePayment 79 = .ok (.iconst 1, 1) := by decide +kernel
theorem dX1_takePayment_80 : decode cX1_takePayment 80 = .ok (.if_icmp .ne 7, 3) := by decide +kernel
theorem dX1_takePayment_83 : decode cX1_takePayment 83 = .ok (.iconst 1, 1) := by decide +kernel
theorem dX1_takePayment_84 : decode cX1_takePayment 84 = .ok (.goto 4, 3) := by decide +kernel
theorem dX1_takePayment_87 : decode cX1_takePayment 87 = .ok (.iconst 0, 1) := by decide +kernel
theorem dX1_takePayment_88 : decode cX1_takePayment 88 = .ok (.iadd, 1) := by decide +kernel
theorem dX1_takePayment_89 : decode cX1_takePayment 89 = .ok (.istore 4, 2) := by decide +kernel
theorem dX1_takePayment_91 : decode cX1_takePayment 91 = .ok (.iinc 7 1, 3) := by decide +kernel
theorem dX1_takePayment_94 : decode cX1_takePayment 94 = .ok (.goto (-56), 3) := by decide +kernel
theorem dX1_takePayment_97 : decode cX1_takePayment 97 = .ok (.aload_n 0, 1) := by decide +kernel
theorem dX1_takePayment_98 : decode cX1_takePayment 98 = .ok (.iload_n 1, 1) := by decide +kernel
theorem dX1_takePayment_99 : decode cX1_takePayment 99 = .ok (.iload_n 3, 1) := by decide +kernel
theorem dX1_takePayment_100 : decode cX1_takePayment 100 = .ok (.invokevirtual 92, 3) := by decide +kernel
theorem dX1_takePayment_103 : decode cX1_takePayment 103 = .ok (.ifCond .eq 8, 3) := by decide +kernel
theorem dX1_takePayment_106 : decode cX1_takePayment 106 = .ok (.iload 4, 2) := by decide +kernel
theorem dX1_takePayment_108 : decode cX1_takePayment 108 = .ok (.goto 5, 3) := by decide +kernel
theorem dX1_takePayment_111 : decode cX1_takePayment 111 = .ok (.bipush (-3), 2) := by decide +kernel
theorem dX1_takePayment_113 : decode cX1_takePayment 113 = .ok (.ireturn, 1) := by decide +kernel
theorem dX1_takePaymentFor_0 : decode cX1_takePaymentFor 0 = .ok (.aload_n 0, 1) := by decide +kernel
theorem dX1_takePaymentFor_1 : decode cX1_takePaymentFor 1 = .ok (.iload_n 1, 1) := by decide +kernel
theorem dX1_takePaymentFor_2 : decode cX1_takePaymentFor 2 = .ok (.invokevirtual 95, 3) := by decide +kernel
theorem dX1_takePaymentFor_5 : decode cX1_takePaymentFor 5 = .ok (.astore_n 3, 1) := by decide +kernel
theorem dX1_takePaymentFor_6 : decode cX1_takePaymentFor 6 = .ok (.aload_n 3, 1) := by decide +kernel
theorem dX1_takePaymentFor_7 : decode cX1_takePaymentFor 7 = .ok (.ifnonnull 5, 3) := by decide +kernel
theorem dX1_takePaymentFor_10 : decode cX1_takePaymentFor 10 = .ok (.iconst (-1), 1) := by decide +kernel
theorem dX1_takePaymentFor_11 : decode cX1_takePaymentFor 11 = .ok (.ireturn, 1) := by decide +kernel
theorem dX1_takePaymentFor_12 : decode cX1_takePaymentFor 12 = .ok (.iload_n 2, 1) := by decide +kernel
theorem dX1_takePaymentFor_13 : decode cX1_takePaymentFor 13 = .ok (.invokestatic 85, 3) := by decide +kernel
theorem dX1_takePaymentFor_16 : decode cX1_takePaymentFor 16 = .ok (.ifCond .ne 6, 3) := by decide +kernel
theorem dX1_takePaymentFor_19 : decode cX1_takePaymentFor 19 = .ok (.bipush (-2), 2) := by decide +kernel
theorem dX1_takePaymentFor_21 : decode cX1_takePaymentFor 21 = .ok (.ireturn, 1) := by decide +kernel
theorem dX1_takePaymentFor_22 : decode cX1_takePaymentFor 22 = .ok (.aload_n 3, 1) := by decide +kernel
theorem dX1_takePaymentFor_23 : decode cX1_takePaymentFor 23 = .ok (.getfield 58, 3) := by decide +kernel
theorem dX1_takePaymentFor_26 : decode cX1_takePaymentFor 26 = .ok (.iconst 1, 1) := by decide +kernel
theorem dX1_takePaymentFor_27 : decode cX1_takePaymentFor 27 = .ok (.if_icmp .ne 6, 3) := by decide +kernel
theorem dX1_takePaymentFor_30 : decode cX1_takePaymentFor 30 = .ok (.bipush (-4), 2) := by decide +kernel
theorem dX1_takePaymentFor_32 : decode cX1_takePaymentFor 32 = .ok (.ireturn, 1) := by decide +kernel
theorem dX1_takePaymentFor_33 : decode cX1_takePaymentFor 33 = .ok (.iload_n 2, 1) := by decide +kernel
theorem dX1_takePaymentFor_34 : decode cX1_takePaymentFor 34 = .ok (.aload_n 0, 1) := by decide +kernel
theorem dX1_takePaymentFor_35 : decode cX1_takePaymentFor 35 = .ok (.aload_n 3, 1) := by decide +kernel
theorem dX1_takePaymentFor_36 : decode cX1_takePaymentFor 36 = .ok (.iload_n 2, 1) := by decide +kernel
theorem dX1_takePaymentFor_37 : decode cX1_takePaymentFor 37 = .ok (.invokevirtual 77, 3) := by decide +kernel
theorem dX1_takePaymentFor_40 : decode cX1_takePaymentFor 40 = .ok (.isub, 1) := by decide +kernel
theorem dX1_takePaymentFor_41 : decode cX1_takePaymentFor 41 = .ok (.istore 4, 2) := by decide +kernel
theorem dX1_takePaymentFor_43 : decode cX1_takePaymentFor 43 = .ok (.aload_n 0, 1) := by decide +kernel
theorem dX1_takePaymentFor_44 : decode cX1_takePaymentFor 44 = .ok (.aload_n 3, 1) := by decide +kernel
theorem dX1_takePaymentFor_45 : decode cX1_takePaymentFor 45 = .ok (.getfield 99, 3) := by decide +kernel
theorem dX1_takePaymentFor_48 : decode cX1_takePaymentFor 48 = .ok (.iload 4, 2) := by decide +kernel
theorem dX1_takePaymentFor_50 : decode cX1_takePaymentFor 50 = .ok (.invokevirtual 92, 3) := by decide +kernel
theorem dX1_takePaymentFor_53 : decode cX1_takePaymentFor 53 = .ok (.ifCond .eq 10, 3) := by decide +kernel
theorem dX1_takePaymentFor_56 : decode cX1_takePaymentFor 56 = .ok (.aload_n 3, 1) := by decide +kernel
theorem dX1_takePaymentFor_57 : decode cX1_takePaymentFor 57 = .ok (.invokevirtual 102, 3) := by decide +kernel
theorem dX1_takePaymentFor_60 : decode cX1_takePaymentFor 60 = .ok (.goto 5, 3) := by decide +kernel
theorem dX1_takePaymentFor_63 : decode cX1_takePaymentFor 63 = .ok (.bipush (-3), 2) := by decide +kernel
theorem dX1_takePaymentFor_65 : decode cX1_takePaymentFor 65 = .ok (.ireturn, 1) := by decide +kernel
theorem dX1_payOn_0 : decode cX1_payOn 0 = .ok (.iload_n 2, 1) := by decide +kernel
theorem dX1_payOn_1 : decode cX1_payOn 1 = .ok (.ifCond .gt 5, 3) := by decide +kernel
theorem dX1_payOn_4 : decode cX1_payOn 4 = .ok (.iconst 0, 1) := by decide +kernel
theorem dX1_payOn_5 : decode cX1_payOn 5 = .ok (.ireturn, 1) := by decide +kernel
theorem dX1_payOn_6 : decode cX1_payOn 6 = .ok (.aload_n 0, 1) := by decide +kernel
theorem dX1_payOn_7 : decode cX1_payOn 7 = .ok (.aload_n 1, 1) := by decide +kernel
theorem dX1_payOn_8 : decode cX1_payOn 8 = .ok (.invokevirtual 106, 3) := by decide +kernel
theorem dX1_payOn_11 : decode cX1_payOn 11 = .ok (.istore_n 3, 1) := by decide +kernel
theorem dX1_payOn_12 : decode cX1_payOn 12 = .ok (.aload_n 1, 1) := by decide +kernel
theorem dX1_payOn_13 : decode cX1_payOn 13 = .ok (.invokevirtual 102, 3) := by decide +kernel
theorem dX1_payOn_16 : decode cX1_payOn 16 = .ok (.iload_n 3, 1) := by decide +kernel
theorem dX1_payOn_17 : decode cX1_payOn 17 = .ok (.isub, 1) := by decide +kernel
theorem dX1_payOn_18 : decode cX1_payOn 18 = .ok (.istore 4, 2) := by decide +kernel
theorem dX1_payOn_20 : decode cX1_payOn 20 = .ok (.iload_n 2, 1) := by decide +kernel
theorem dX1_payOn_21 : decode cX1_payOn 21 = .ok (.iload 4, 2) := by decide +kernel
theorem dX1_payOn_23 : decode cX1_payOn 23 = .ok (.if_icmp .lt 7, 3) := by decide +kernel
theorem dX1_payOn_26 : decode cX1_payOn 26 = .ok (.iconst 1, 1) := by decide +kernel
theorem dX1_payOn_27 : decode cX1_payOn 27 = .ok (.goto 4, 3) := by decide +kernel
theorem dX1_payOn_30 : decode cX1_payOn 30 = .ok (.iconst 0, 1) := by decide +kernel
theorem dX1_payOn_31 : decode cX1_payOn 31 = .ok (.istore 5, 2) := by decide +kernel
theorem dX1_payOn_33 : decode cX1_payOn 33 = .ok (.iload 5, 2) := by decide +kernel
theorem dX1_payOn_35 : decode cX1_payOn 35 = .ok (.ifCond .eq 8, 3) := by decide +kernel
theorem dX1_payOn_38 : decode cX1_payOn 38 = .ok (.iload 4, 2) := by decide +kernel
theorem dX1_payOn_40 : decode cX1_payOn 40 = .ok (.goto 4, 3) := by decide +kernel
theorem dX1_payOn_43 : decode cX1_payOn 43 = .ok (.iload_n 2, 1) := by decide +kernel
theorem dX1_payOn_44 : decode cX1_payOn 44 = .ok (.istore 6, 2) := by decide +kernel
theorem dX1_payOn_46 : decode cX1_payOn 46 = .ok (.aload_n 1, 1) := by decide +kernel
theorem dX1_payOn_47 : decode cX1_payOn 47 = .ok (.iload 6, 2) := by decide +kernel
theorem dX1_payOn_49 : decode cX1_payOn 49 = .ok (.iload 5, 2) := by decide +kernel
theorem dX1_payOn_51 : decode cX1_payOn 51 = .ok (.ifCond .eq 7, 3) := by decide +kernel
theorem dX1_payOn_54 : decode cX1_payOn 54 = .ok (.iload_n 3, 1) := by decide +kernel
theorem dX1_payOn_55 : decode cX1_payOn 55 = .ok (.goto 4, 3) := by decide +kernel
theorem dX1_payOn_58 : decode cX1_payOn 58 = .ok (.iconst 0, 1) := by decide +kernel
theorem dX1_payOn_59 : decode cX1_payOn 59 = .ok (.aload_n 0, 1) := by decide +kernel
theorem dX1_payOn_60 : decode cX1_payOn 60 = .ok (.getfield 48, 3) := by decide +kernel
theorem dX1_payOn_63 : decode cX1_payOn 63 = .ok (.invokevirtual 110, 3) := by decide +kernel
theorem dX1_payOn_66 : decode cX1_payOn 66 = .ok (.aload_n 0, 1) := by decide +kernel
theorem dX1_payOn_67 : decode cX1_payOn 67 = .ok (.getfield 48, 3) := by decide +kernel
theorem dX1_payOn_70 : decode cX1_payOn 70 = .ok (.bipush 100, 2) := by decide +kernel
theorem dX1_payOn_72 : decode cX1_payOn 72 = .ok (.idiv, 1) := by decide +kernel
theorem dX1_payOn_73 : decode cX1_payOn 73 = .ok (.istore 7, 2) := by decide +kernel
theorem dX1_payOn_75 : decode cX1_payOn 75 = .ok (.iload 7, 2) := by decide +kernel
theorem dX1_payOn_77 : decode cX1_payOn 77 = .ok (.invokestatic 114, 3) := by decide +kernel
theorem dX1_payOn_80 : decode cX1_payOn 80 = .ok (.ifCond .eq 19, 3) := by decide +kernel
theorem dX1_payOn_83 : decode cX1_payOn 83 = .ok (.aload_n 0, 1) := by decide +kernel
theorem dX1_payOn_84 : decode cX1_payOn 84 = .ok (.getfield 21, 3) := by decide +kernel
theorem dX1_payOn_87 : decode cX1_payOn 87 = .ok (.iload 7, 2) := by decide +kernel
theorem dX1_payOn_89 : decode cX1_payOn 89 = .ok (.dup2, 1) := by decide +kernel
theorem dX1_payOn_90 : decode cX1_payOn 90 = .ok (.iaload, 1) := by decide +kernel
theorem dX1_payOn_91 : decode cX1_payOn 91 = .ok (.aload_n 1, 1) := by decide +kernel
theorem dX1_payOn_92 : decode cX1_payOn 92 = .ok (.iload 6, 2) := by decide +kernel
theorem dX1_payOn_94 : decode cX1_payOn 94 = .ok (.invokevirtual 117, 3) := by decide +kernel
theorem dX1_payOn_97 : decode cX1_payOn 97 = .ok (.iadd, 1) := by decide +kernel
theorem dX1_payOn_98 : decode cX1_payOn 98 = .ok (.iastore, 1) := by decide +kernel
theorem dX1_payOn_99 : decode cX1_payOn 99 = .ok (.iload 6, 2) := by decide +kernel
theorem dX1_payOn_101 : decode cX1_payOn 101 = .ok (.ireturn, 1) := by decide +kernel
theorem dX1_discountOn_0 : decode cX1_discountOn 0 = .ok (.aload_n 1, 1) := by decide +kernel
theorem dX1_discountOn_1 : decode cX1_discountOn 1 = .ok (.getfield 120, 3) := by decide +kernel
theorem dX1_discountOn_4 : decode cX1_discountOn 4 = .ok (.ifCond .gt 22, 3) := by decide +kernel
theorem dX1_discountOn_7 : decode cX1_discountOn 7 = .ok (.aload_n 0, 1) := by decide +kernel
theorem dX1_discountOn_8 : decode cX1_discountOn 8 = .ok (.getfield 48, 3) := by decide +kernel
theorem dX1_discountOn_11 : decode cX1_discountOn 11 = .ok (.aload_n 1, 1) := by decide +kernel
theorem dX1_discountOn_12 : decode cX1_discountOn 12 = .ok (.getfield 123, 3) := by decide +kernel
theorem dX1_discountOn_15 : decode cX1_discountOn 15 = .ok (.isub, 1) := by decide +kernel
theorem dX1_discountOn_16 : decode cX1_discountOn 16 = .ok (.aload_n 0, 1) := by decide +kernel
theorem dX1_discountOn_17 : decode cX1_discountOn 17 = .ok (.getfield 30, 3) := by decide +kernel
theorem dX1_discountOn_20 : decode cX1_discountOn 20 = .ok (.invokevirtual 124, 3) := by decide +kernel
theorem dX1_discountOn_23 : decode cX1_discountOn 23 = .ok (.if_icmp .le 5, 3) := by decide +kernel
theorem dX1_discountOn_26 : decode cX1_discountOn 26 = .ok (.iconst 0, 1) := by decide +kernel
theorem dX1_discountOn_27 : decode cX1_discountOn 27 = .ok (.ireturn, 1) := by decide +kernel
theorem dX1_discountOn_28 : decode cX1_discountOn 28 = .ok (.aload_n 1, 1) := by decide +kernel
theorem dX1_discountOn_29 : decode cX1_discountOn 29 = .ok (.getfield 127, 3) := by decide +kernel
theorem dX1_discountOn_32 : decode cX1_discountOn 32 = .ok (.aload_n 0, 1) := by decide +kernel
theorem dX1_discountOn_33 : decode cX1_discountOn 33 = .ok (.getfield 30, 3) := by decide +kernel
theorem dX1_discountOn_36 : decode cX1_discountOn 36 = .ok (.invokevirtual 130, 3) := by decide +kernel
theorem dX1_discountOn_39 : decode cX1_discountOn 39 = .ok (.imul, 1) := by decide +kernel
theorem dX1_discountOn_40 : decode cX1_discountOn 40 = .ok (.bipush 100, 2) := by decide +kernel
theorem dX1_discountOn_42 : decode cX1_discountOn 42 = .ok (.idiv, 1) := by decide +kernel
theorem dX1_discountOn_43 : decode cX1_discountOn 43 = .ok (.aload_n 1, 1) := by decide +kernel
theorem dX1_discountOn_44 : decode cX1_discountOn 44 = .ok (.invokevirtual 102, 3) := by decide +kernel
theorem dX1_discountOn_47 : decode cX1_discountOn 47 = .ok (.iconst 1, 1) := by decide +kernel
theorem dX1_discountOn_48 : decode cX1_discountOn 48 = .ok (.isub, 1) := by decide +kernel
theorem dX1_discountOn_49 : decode cX1_discountOn 49 = .ok (.invokestatic 133, 3) := by decide +kernel
theorem dX1_discountOn_52 : decode cX1_discountOn 52 = .ok (.ireturn, 1) := by decide +kernel
theorem dX1_addCredit_0 : decode cX1_addCredit 0 = .ok (.aload_n 0, 1) := by decide +kernel
theorem dX1_addCredit_1 : decode cX1_addCredit 1 = .ok (.iload_n 1, 1) := by decide +kernel
theorem dX1_addCredit_2 : decode cX1_addCredit 2 = .ok (.invokevirtual 73, 3) := by decide +kernel
theorem dX1_addCredit_5 : decode cX1_addCredit 5 = .ok (.iload_n 2, 1) := by decide +kernel
theorem dX1_addCredit_6 : decode cX1_addCredit 6 = .ok (.iadd, 1) := by decide +kernel
theorem dX1_addCredit_7 : decode cX1_addCredit 7 = .ok (.istore_n 3, 1) := by decide +kernel
theorem dX1_addCredit_8 : decode cX1_addCredit 8 = .ok (.aload_n 0, 1) := by decide +kernel
theorem dX1_addCredit_9 : decode cX1_addCredit 9 = .ok (.iload_n 1, 1) := by decide +kernel
theorem dX1_addCredit_10 : decode cX1_addCredit 10 = .ok (.iload_n 3, 1) := by decide +kernel
theorem dX1_addCredit_11 : decode cX1_addCredit 11 = .ok (.invokevirtual 81, 3) := by decide +kernel
theorem dX1_addCredit_14 : decode cX1_addCredit 14 = .ok (.iload_n 3, 1) := by decide +kernel
theorem dX1_addCredit_15 : decode cX1_addCredit 15 = .ok (.ldc 138, 2) := by decide +kernel
theorem dX1_addCredit_17 : decode cX1_addCredit 17 = .ok (.if_icmp .gt 7, 3) := by decide +kernel
theorem dX1_addCredit_20 : decode cX1_addCredit 20 = .ok (.iconst 1, 1) := by decide +kernel
theorem dX1_addCredit_21 : decode cX1_addCredit 21 = .ok (.goto 4, 3) := by decide +kernel
theorem dX1_addCredit_24 : decode cX1_addCredit 24 = .ok (.iconst 0, 1) := by decide +kernel
theorem dX1_addCredit_25 : decode cX1_addCredit 25 = .ok (.ireturn, 1) := by decide +kernel
theorem dX1_returnCredit_0 : decode cX1_returnCredit 0 = .ok (.iload_n 1, 1) := by decide +kernel
theorem dX1_returnCredit_1 : decode cX1_returnCredit 1 = .ok (.invokestatic 61, 3) := by decide +kernel
theorem dX1_returnCredit_4 : decode cX1_returnCredit 4 = .ok (.ifCond .ne 5, 3) := by decide +kernel
theorem dX1_returnCredit_7 : decode cX1_returnCredit 7 = .ok (.iconst (-1), 1) := by decide +kernel
theorem dX1_returnCredit_8 : decode cX1_returnCredit 8 = .ok (.ireturn, 1) := by decide +kernel
theorem dX1_returnCredit_9 : decode cX1_returnCredit 9 = .ok (.aload_n 0, 1) := by decide +kernel
theorem dX1_returnCredit_10 : decode cX1_returnCredit 10 = .ok (.iload_n 1, 1) := by decide +kernel
theorem dX1_returnCredit_11 : decode cX1_returnCredit 11 = .ok (.invokevirtual 73, 3) := by decide +kernel
theorem dX1_returnCredit_14 : decode cX1_returnCredit 14 = .ok (.istore_n 2, 1) := by decide +kernel
theorem dX1_returnCredit_15 : decode cX1_returnCredit 15 = .ok (.iload_n 2, 1) := by decide +kernel
theorem dX1_returnCredit_16 : decode cX1_returnCredit 16 = .ok (.ifCond .ne 6, 3) := by decide +kernel
theorem dX1_returnCredit_19 : decode cX1_returnCredit 19 = .ok (.bipush (-5), 2) := by decide +kernel
theorem dX1_returnCredit_21 : decode cX1_returnCredit 21 = .ok (.ireturn, 1) := by decide +kernel
theorem dX1_returnCredit_22 : decode cX1_returnCredit 22 = .ok (.aload_n 0, 1) := by decide +kernel
theorem dX1_returnCredit_23 : decode cX1_returnCredit 23 = .ok (.iload_n 1, 1) := by decide +kernel
theorem dX1_returnCredit_24 : decode cX1_returnCredit 24 = .ok (.iconst 0, 1) := by decide +kernel
theorem dX1_returnCredit_25 : decode cX1_returnCredit 25 = .ok (.invokevirtual 81, 3) := by decide +kernel
theorem dX1_returnCredit_28 : decode cX1_returnCredit 28 = .ok (.aload_n 0, 1) := by decide +kernel
theorem dX1_returnCredit_29 : decode cX1_returnCredit 29 = .ok (.dup, 1) := by decide +kernel
theorem dX1_returnCredit_30 : decode cX1_returnCredit 30 = .ok (.getfield 55, 3) := by decide +kernel
theorem dX1_returnCredit_33 : decode cX1_returnCredit 33 = .ok (.iload_n 2, 1) := by decide +kernel
theorem dX1_returnCredit_34 : decode cX1_returnCredit 34 = .ok (.iadd, 1) := by decide +kernel
theorem dX1_returnCredit_35 : decode cX1_returnCredit 35 = .ok (.putfield 55, 3) := by decide +kernel
theorem dX1_returnCredit_38 : decode cX1_returnCredit 38 = .ok (.iload_n 2, 1) := by decide +kernel
theorem dX1_returnCredit_39 : decode cX1_returnCredit 39 = .ok (.ireturn, 1) := by decide +kernel
theorem dX1_goOn_0 : decode cX1_goOn 0 = .ok (.iload_n 1, 1) := by decide +kernel
theorem dX1_goOn_1 : decode cX1_goOn 1 = .ok (.iconst 1, 1) := by decide +kernel
theorem dX1_goOn_2 : decode cX1_goOn 2 = .ok (.if_icmp .lt 9, 3) := by decide +kernel
theorem dX1_goOn_5 : decode cX1_goOn 5 = .ok (.iload_n 1, 1) := by decide +kernel
theorem dX1_goOn_6 : decode cX1_goOn 6 = .ok (.bipush 99, 2) := by decide +kernel
theorem dX1_goOn_8 : decode cX1_goOn 8 = .ok (.if_icmp .le 6, 3) := by decide +kernel
theorem dX1_goOn_11 : decode cX1_goOn 11 = .ok (.bipush (-2), 2) := by decide +kernel
theorem dX1_goOn_13 : decode cX1_goOn 13 = .ok (.ireturn, 1) := by decide +kernel
theorem dX1_goOn_14 : decode cX1_goOn 14 = .ok (.aload_n 0, 1) := by decide +kernel
theorem dX1_goOn_15 : decode cX1_goOn 15 = .ok (.getfield 48, 3) := by decide +kernel
theorem dX1_goOn_18 : decode cX1_goOn 18 = .ok (.iload_n 1, 1) := by decide +kernel
theorem dX1_goOn_19 : decode cX1_goOn 19 = .ok (.iadd, 1) := by decide +kernel
theorem dX1_goOn_20 : decode cX1_goOn 20 = .ok (.sipush 9999, 3) := by decide +kernel
theorem dX1_goOn_23 : decode cX1_goOn 23 = .ok (.if_icmp .le 6, 3) := by decide +kernel
theorem dX1_goOn_26 : decode cX1_goOn 26 = .ok (.bipush (-3), 2) := by decide +kernel
theorem dX1_goOn_28 : decode cX1_goOn 28 = .ok (.ireturn, 1) := by decide +kernel
theorem dX1_goOn_29 : decode cX1_goOn 29 = .ok (.aload_n 0, 1) := by decide +kernel
theorem dX1_goOn_30 : decode cX1_goOn 30 = .ok (.dup, 1) := by decide +kernel
theorem dX1_goOn_31 : decode cX1_goOn 31 = .ok (.getfield 48, 3) := by decide +kernel
theorem dX1_goOn_34 : decode cX1_goOn 34 = .ok (.iload_n 1, 1) := by decide +kernel
theorem dX1_goOn_35 : decode cX1_goOn 35 = .ok (.iadd, 1) := by decide +kernel
theorem dX1_goOn_36 : decode cX1_goOn 36 = .ok (.putfield 48, 3) := by decide +kernel
theorem dX1_goOn_39 : decode cX1_goOn 39 = .ok (.aload_n 0, 1) := by decide +kernel
theorem dX1_goOn_40 : decode cX1_goOn 40 = .ok (.invokevirtual 139, 3) := by decide +kernel
theorem dX1_goOn_43 : decode cX1_goOn 43 = .ok (.ireturn, 1) := by decide +kernel
theorem dX1_sendReminders_0 : decode cX1_sendReminders 0 = .ok (.iconst 0, 1) := by decide +kernel
theorem dX1_sendReminders_1 : decode cX1_sendReminders 1 = .ok (.istore_n 1, 1) := by decide +kernel
theorem dX1_sendReminders_2 : decode cX1_sendReminders 2 = .ok (.aload_n 0, 1) := by decide +kernel
theorem dX1_sendReminders_3 : decode cX1_sendReminders 3 = .ok (.getfield 11, 3) := by decide +kernel
theorem dX1_sendReminders_6 : decode cX1_sendReminders 6 = .ok (.astore_n 2, 1) := by decide +kernel
theorem dX1_sendReminders_7 : decode cX1_sendReminders 7 = .ok (.aload_n 2, 1) := by decide +kernel
theorem dX1_sendReminders_8 : decode cX1_sendReminders 8 = .ok (.arraylength, 1) := by decide +kernel
theorem dX1_sendReminders_9 : decode cX1_sendReminders 9 = .ok (.istore_n 3, 1) := by decide +kernel
theorem dX1_sendReminders_10 : decode cX1_sendReminders 10 = .ok (.iconst 0, 1) := by decide +kernel
theorem dX1_sendReminders_11 : decode cX1_sendReminders 11 = .ok (.istore 4, 2) := by decide +kernel
theorem dX1_sendReminders_13 : decode cX1_sendReminders 13 = .ok (.iload 4, 2) := by decide +kernel
theorem dX1_sendReminders_15 : decode cX1_sendReminders 15 = .ok (.iload_n 3, 1) := by decide +kernel
theorem dX1_sendReminders_16 : decode cX1_sendReminders 16 = .ok (.if_icmp .ge 53, 3) := by decide +kernel
theorem dX1_sendReminders_19 : decode cX1_sendReminders 19 = .ok (.aload_n 2, 1) := by decide +kernel
theorem dX1_sendReminders_20 : decode cX1_sendReminders 20 = .ok (.iload 4, 2) := by decide +kernel
theorem dX1_sendReminders_22 : decode cX1_sendReminders 22 = .ok (.aaload, 1) := by decide +kernel
theorem dX1_sendReminders_23 : decode cX1_sendReminders 23 = .ok (.astore 5, 2) := by decide +kernel
theorem dX1_sendReminders_25 : decode cX1_sendReminders 25 = .ok (.aload 5, 2) := by decide +kernel
theorem dX1_sendReminders_27 : decode cX1_sendReminders 27 = .ok (.aload_n 0, 1) := by decide +kernel
theorem dX1_sendReminders_28 : decode cX1_sendReminders 28 = .ok (.getfield 48, 3) := by decide +kernel
theorem dX1_sendReminders_31 : decode cX1_sendReminders 31 = .ok (.aload_n 0, 1) := by decide +kernel
theorem dX1_sendReminders_32 : decode cX1_sendReminders 32 = .ok (.getfield 30, 3) := by decide +kernel
theorem dX1_sendReminders_35 : decode cX1_sendReminders 35 = .ok (.invokevirtual 142, 3) := by decide +kernel
theorem dX1_sendReminders_38 : decode cX1_sendReminders 38 = .ok (.invokevirtual 145, 3) := by decide +kernel
theorem dX1_sendReminders_41 : decode cX1_sendReminders 41 = .ok (.ifCond .ne 22, 3) := by decide +kernel
theorem dX1_sendReminders_44 : decode cX1_sendReminders 44 = .ok (.aload 5, 2) := by decide +kernel
theorem dX1_sendReminders_46 : decode cX1_sendReminders 46 = .ok (.aload_n 0, 1) := by decide +kernel
theorem dX1_sendReminders_47 : decode cX1_sendReminders 47 = .ok (.getfield 48, 3) := by decide +kernel
theorem dX1_sendReminders_50 : decode cX1_sendReminders 50 = .ok (.aload_n 0, 1) := by decide +kernel
theorem dX1_sendReminders_51 : decode cX1_sendReminders 51 = .ok (.getfield 30, 3) := by decide +kernel
theorem dX1_sendReminders_54 : decode cX1_sendReminders 54 = .ok (.invokevirtual 148, 3) := by decide +kernel
theorem dX1_sendReminders_57 : decode cX1_sendReminders 57 = .ok (.invokevirtual 151, 3) := by decide +kernel
theorem dX1_sendReminders_60 : decode cX1_sendReminders 60 = .ok (.iinc 1 1, 3) := by decide +kernel
theorem dX1_sendReminders_63 : decode cX1_sendReminders 63 = .ok (.iinc 4 1, 3) := by decide +kernel
theorem dX1_sendReminders_66 : decode cX1_sendReminders 66 = .ok (.goto (-53), 3) := by decide +kernel
theorem dX1_sendReminders_69 : decode cX1_sendReminders 69 = .ok (.iload_n 1, 1) := by decide +kernel
theorem dX1_sendReminders_70 : decode cX1_sendReminders 70 = .ok (.ifCond .le 7, 3) := by decide +kernel
theorem dX1_sendReminders_73 : decode cX1_sendReminders 73 = .ok (.iload_n 1, 1) := by decide +kernel
theorem dX1_sendReminders_74 : decode cX1_sendReminders 74 = .ok (.goto 5, 3) := by decide +kernel
theorem dX1_sendReminders_77 : decode cX1_sendReminders 77 = .ok (.bipush (-5), 2) := by decide +kernel
theorem dX1_sendReminders_79 : decode cX1_sendReminders 79 = .ok (.ireturn, 1) := by decide +kernel
theorem dX1_giveUp_0 : decode cX1_giveUp 0 = .ok (.aload_n 0, 1) := by decide +kernel
theorem dX1_giveUp_1 : decode cX1_giveUp 1 = .ok (.iload_n 1, 1) := by decide +kernel
theorem dX1_giveUp_2 : decode cX1_giveUp 2 = .ok (.invokevirtual 95, 3) := by decide +kernel
theorem dX1_giveUp_5 : decode cX1_giveUp 5 = .ok (.astore_n 2, 1) := by decide +kernel
theorem dX1_giveUp_6 : decode cX1_giveUp 6 = .ok (.aload_n 2, 1) := by decide +kernel
theorem dX1_giveUp_7 : decode cX1_giveUp 7 = .ok (.ifnonnull 5, 3) := by decide +kernel
theorem dX1_giveUp_10 : decode cX1_giveUp 10 = .ok (.iconst (-1), 1) := by decide +kernel
theorem dX1_giveUp_11 : decode cX1_giveUp 11 = .ok (.ireturn, 1) := by decide +kernel
theorem dX1_giveUp_12 : decode cX1_giveUp 12 = .ok (.aload_n 2, 1) := by decide +kernel
theorem dX1_giveUp_13 : decode cX1_giveUp 13 = .ok (.aload_n 0, 1) := by decide +kernel
theorem dX1_giveUp_14 : decode cX1_giveUp 14 = .ok (.getfield 48, 3) := by decide +kernel
theorem dX1_giveUp_17 : decode cX1_giveUp 17 = .ok (.aload_n 0, 1) := by decide +kernel
theorem dX1_giveUp_18 : decode cX1_giveUp 18 = .ok (.getfield 30, 3) := by decide +kernel
theorem dX1_giveUp_21 : decode cX1_giveUp 21 = .ok (.invokevirtual 142, 3) := by decide +kernel
theorem dX1_giveUp_24 : decode cX1_giveUp 24 = .ok (.invokevirtual 154, 3) := by decide +kernel
theorem dX1_giveUp_27 : decode cX1_giveUp 27 = .ok (.ifCond .ne 6, 3) := by decide +kernel
theorem dX1_giveUp_30 : decode cX1_giveUp 30 = .ok (.bipush (-4), 2) := by decide +kernel
theorem dX1_giveUp_32 : decode cX1_giveUp 32 = .ok (.ireturn, 1) := by decide +kernel
theorem dX1_giveUp_33 : decode cX1_giveUp 33 = .ok (.aload_n 2, 1) := by decide +kernel
theorem dX1_giveUp_34 : decode cX1_giveUp 34 = .ok (.iconst 2, 1) := by decide +kernel
theorem dX1_giveUp_35 : decode cX1_giveUp 35 = .ok (.putfield 58, 3) := by decide +kernel
theorem dX1_giveUp_38 : decode cX1_giveUp 38 = .ok (.aload_n 2, 1) := by decide +kernel
theorem dX1_giveUp_39 : decode cX1_giveUp 39 = .ok (.invokevirtual 102, 3) := by decide +kernel
theorem dX1_giveUp_42 : decode cX1_giveUp 42 = .ok (.ireturn, 1) := by decide +kernel
theorem dX1_endYear_0 : decode cX1_endYear 0 = .ok (.iload_n 1, 1) := by decide +kernel
theorem dX1_endYear_1 : decode cX1_endYear 1 = .ok (.invokestatic 114, 3) := by decide +kernel
theorem dX1_endYear_4 : decode cX1_endYear 4 = .ok (.ifCond .ne 5, 3) := by decide +kernel
theorem dX1_endYear_7 : decode cX1_endYear 7 = .ok (.iconst (-1), 1) := by decide +kernel
theorem dX1_endYear_8 : decode cX1_endYear 8 = .ok (.ireturn, 1) := by decide +kernel
theorem dX1_endYear_9 : decode cX1_endYear 9 = .ok (.aload_n 0, 1) := by decide +kernel
theorem dX1_endYear_10 : decode cX1_endYear 10 = .ok (.getfield 48, 3) := by decide +kernel
theorem dX1_endYear_13 : decode cX1_endYear 13 = .ok (.iload_n 1, 1) := by decide +kernel
theorem dX1_endYear_14 : decode cX1_endYear 14 = .ok (.iconst 1, 1) := by decide +kernel
theorem dX1_endYear_15 : decode cX1_endYear 15 = .ok (.iadd, 1) := by decide +kernel
theorem dX1_endYear_16 : decode cX1_endYear 16 = .ok (.bipush 100, 2) := by decide +kernel
theorem dX1_endYear_18 : decode cX1_endYear 18 = .ok (.imul, 1) := by decide +kernel
theorem dX1_endYear_19 : decode cX1_endYear 19 = .ok (.if_icmp .lt 11, 3) := by decide +kernel
theorem dX1_endYear_22 : decode cX1_endYear 22 = .ok (.iload_n 1, 1) := by decide +kernel
theorem dX1_endYear_23 : decode cX1_endYear 23 = .ok (.aload_n 0, 1) := by decide +kernel
theorem dX1_endYear_24 : decode cX1_endYear 24 = .ok (.getfield 52, 3) := by decide +kernel
theorem dX1_endYear_27 : decode cX1_endYear 27 = .ok (.if_icmp .le 6, 3) := by decide +kernel
theorem dX1_endYear_30 : decode cX1_endYear 30 = .ok (.bipush (-4), 2) := by decide +kernel
theorem dX1_endYear_32 : decode cX1_endYear 32 = .ok (.ireturn, 1) := by decide +kernel
theorem dX1_endYear_33 : decode cX1_endYear 33 = .ok (.iload_n 1, 1) := by decide +kernel
theorem dX1_endYear_34 : decode cX1_endYear 34 = .ok (.aload_n 0, 1) := by decide +kernel
theorem dX1_endYear_35 : decode cX1_endYear 35 = .ok (.getfield 52, 3) := by decide +kernel
theorem dX1_endYear_38 : decode cX1_endYear 38 = .ok (.if_icmp .ge 6, 3) := by decide +kernel
theorem dX1_endYear_41 : decode cX1_endYear 41 = .ok (.bipush (-5), 2) := by decide +kernel
theorem dX1_endYear_43 : decode cX1_endYear 43 = .ok (.ireturn, 1) := by decide +kernel
theorem dX1_endYear_44 : decode cX1_endYear 44 = .ok (.aload_n 0, 1) := by decide +kernel
theorem dX1_endYear_45 : decode cX1_endYear 45 = .ok (.getfield 24, 3) := by decide +kernel
theorem dX1_endYear_48 : decode cX1_endYear 48 = .ok (.iload_n 1, 1) := by decide +kernel
theorem dX1_endYear_49 : decode cX1_endYear 49 = .ok (.aload_n 0, 1) := by decide +kernel
theorem dX1_endYear_50 : decode cX1_endYear 50 = .ok (.iload_n 1, 1) := by decide +kernel
theorem dX1_endYear_51 : decode cX1_endYear 51 = .ok (.aload_n 0, 1) := by decide +kernel
theorem dX1_endYear_52 : decode cX1_endYear 52 = .ok (.getfield 30, 3) := by decide +kernel
theorem dX1_endYear_55 : decode cX1_endYear 55 = .ok (.invokevirtual 157, 3) := by decide +kernel
theorem dX1_endYear_58 : decode cX1_endYear 58 = .ok (.invokevirtual 160, 3) := by decide +kernel
theorem dX1_endYear_61 : decode cX1_endYear 61 = .ok (.iastore, 1) := by decide +kernel
theorem dX1_endYear_62 : decode cX1_endYear 62 = .ok (.aload_n 0, 1) := by decide +kernel
theorem dX1_endYear_63 : decode cX1_endYear 63 = .ok (.dup, 1) := by decide +kernel
theorem dX1_endYear_64 : decode cX1_endYear 64 = .ok (.getfield 52, 3) := by decide +kernel
theorem dX1_endYear_67 : decode cX1_endYear 67 = .ok (.iconst 1, 1) := by decide +kernel
theorem dX1_endYear_68 : decode cX1_endYear 68 = .ok (.iadd, 1) := by decide +kernel
theorem dX1_endYear_69 : decode cX1_endYear 69 = .ok (.putfield 52, 3) := by decide +kernel
theorem dX1_endYear_72 : decode cX1_endYear 72 = .ok (.aload_n 0, 1) := by decide +kernel
theorem dX1_endYear_73 : decode cX1_endYear 73 = .ok (.getfield 24, 3) := by decide +kernel
theorem dX1_endYear_76 : decode cX1_endYear 76 = .ok (.iload_n 1, 1) := by decide +kernel
theorem dX1_endYear_77 : decode cX1_endYear 77 = .ok (.iaload, 1) := by decide +kernel
theorem dX1_endYear_78 : decode cX1_endYear 78 = .ok (.ireturn, 1) := by decide +kernel
theorem dX1_taxOf_0 : decode cX1_taxOf 0 = .ok (.iload_n 2, 1) := by decide +kernel
theorem dX1_taxOf_1 : decode cX1_taxOf 1 = .ok (.iconst 1, 1) := by decide +kernel
theorem dX1_taxOf_2 : decode cX1_taxOf 2 = .ok (.if_icmp .ne 21, 3) := by decide +kernel
theorem dX1_taxOf_5 : decode cX1_taxOf 5 = .ok (.iload_n 1, 1) := by decide +kernel
theorem dX1_taxOf_6 : decode cX1_taxOf 6 = .ok (.invokestatic 114, 3) := by decide +kernel
theorem dX1_taxOf_9 : decode cX1_taxOf 9 = .ok (.ifCond .eq 12, 3) := by decide +kernel
theorem dX1_taxOf_12 : decode cX1_taxOf 12 = .ok (.aload_n 0, 1) := by decide +kernel
theorem dX1_taxOf_13 : decode cX1_taxOf 13 = .ok (.getfield 21, 3) := by decide +kernel
theorem dX1_taxOf_16 : decode cX1_taxOf 16 = .ok (.iload_n 1, 1) := by decide +kernel
theorem dX1_taxOf_17 : decode cX1_taxOf 17 = .ok (.iaload, 1) := by decide +kernel
theorem dX1_taxOf_18 : decode cX1_taxOf 18 = .ok (.goto 4, 3) := by decide +kernel
theorem dX1_taxOf_21 : decode cX1_taxOf 21 = .ok (.iconst 0, 1) := by decide +kernel
theorem dX1_taxOf_22 : decode cX1_taxOf 22 = .ok (.ireturn, 1) := by decide +kernel
theorem dX1_taxOf_23 : decode cX1_taxOf 23 = .ok (.iconst 0, 1) := by decide +kernel
theorem dX1_taxOf_24 : decode cX1_taxOf 24 = .ok (.istore_n 3, 1) := by decide +kernel
theorem dX1_taxOf_25 : decode cX1_taxOf 25 = .ok (.aload_n 0, 1) := by decide +kernel
theorem dX1_taxOf_26 : decode cX1_taxOf 26 = .ok (.getfield 11, 3) := by decide +kernel
theorem dX1_taxOf_29 : decode cX1_taxOf 29 = .ok (.astore 4, 2) := by decide +kernel
theorem dX1_taxOf_31 : decode cX1_taxOf 31 = .ok (.aload 4, 2) := by decide +kernel
theorem dX1_taxOf_33 : decode cX1_taxOf 33 = .ok (.arraylength, 1) := by decide +kernel
theorem dX1_taxOf_34 : decode cX1_taxOf 34 = .ok (.istore 5, 2) := by decide +kernel
theorem dX1_taxOf_36 : decode cX1_taxOf 36 = .ok (.iconst 0, 1) := by decide +kernel
theorem dX1_taxOf_37 : decode cX1_taxOf 37 = .ok (.istore 6, 2) := by decide +kernel
theorem dX1_taxOf_39 : decode cX1_taxOf 39 = .ok (.iload 6, 2) := by decide +kernel
theorem dX1_taxOf_41 : decode cX1_taxOf 41 = .ok (.iload 5, 2) := by decide +kernel
theorem dX1_taxOf_43 : decode cX1_taxOf 43 = .ok (.if_icmp .ge 48, 3) := by decide +kernel
theorem dX1_taxOf_46 : decode cX1_taxOf 46 = .ok (.aload 4, 2) := by decide +kernel
theorem dX1_taxOf_48 : decode cX1_taxOf 48 = .ok (.iload 6, 2) := by decide +kernel
theorem dX1_taxOf_50 : decode cX1_taxOf 50 = .ok (.aaload, 1) := by decide +kernel
theorem dX1_taxOf_51 : decode cX1_taxOf 51 = .ok (.astore 7, 2) := by decide +kernel
theorem dX1_taxOf_53 : decode cX1_taxOf 53 = .ok (.aload 7, 2) := by decide +kernel
theorem dX1_taxOf_55 : decode cX1_taxOf 55 = .ok (.bipush (-9), 2) := by decide +kernel
theorem dX1_taxOf_57 : decode cX1_taxOf 57 = .ok (.bipush (-9), 2) := by decide +kernel
theorem dX1_taxOf_59 : decode cX1_taxOf 59 = .ok (.invokevirtual 88, 3) := by decide +kernel
theorem dX1_taxOf_62 : decode cX1_taxOf 62 = .ok (.ifCond .eq 23, 3) := by decide +kernel
theorem dX1_taxOf_65 : decode cX1_taxOf 65 = .ok (.aload 7, 2) := by decide +kernel
theorem dX1_taxOf_67 : decode cX1_taxOf 67 = .ok (.getfield 123, 3) := by decide +kernel
theorem dX1_taxOf_70 : decode cX1_taxOf 70 = .ok (.bipush 100, 2) := by decide +kernel
theorem dX1_taxOf_72 : decode cX1_taxOf 72 = .ok (.idiv, 1) := by decide +kernel
theorem dX1_taxOf_73 : decode cX1_taxOf 73 = .ok (.iload_n 1, 1) := by decide +kernel
theorem dX1_taxOf_74 : decode cX1_taxOf 74 = .ok (.if_icmp .ne 11, 3) := by decide +kernel
theorem dX1_taxOf_77 : decode cX1_taxOf 77 = .ok (.iload_n 3, 1) := by decide +kernel
theorem dX1_taxOf_78 : decode cX1_taxOf 78 = .ok (.aload 7, 2) := by decide +kernel
theorem dX1_taxOf_80 : decode cX1_taxOf 80 = .ok (.getfield 163, 3) := by decide +kernel
theorem dX1_taxOf_83 : decode cX1_taxOf 83 = .ok (.iadd, 1) := by decide +kernel
theorem dX1_taxOf_84 : decode cX1_taxOf 84 = .ok (.istore_n 3, 1) := by decide +kernel
theorem dX1_taxOf_85 : decode cX1_taxOf 85 = .ok (.iinc 6 1, 3) := by decide +kernel
theorem dX1_taxOf_88 : decode cX1_taxOf 88 = .ok (.goto (-49), 3) := by decide +kernel
theorem dX1_taxOf_91 : decode cX1_taxOf 91 = .ok (.iload_n 3, 1) := by decide +kernel
theorem dX1_taxOf_92 : decode cX1_taxOf 92 = .ok (.ireturn, 1) := by decide +kernel
theorem dX1_taxTold_0 : decode cX1_taxTold 0 = .ok (.iload_n 1, 1) := by decide +kernel
theorem dX1_taxTold_1 : decode cX1_taxTold 1 = .ok (.invokestatic 114, 3) := by decide +kernel
theorem dX1_taxTold_4 : decode cX1_taxTold 4 = .ok (.ifCond .eq 20, 3) := by decide +kernel
theorem dX1_taxTold_7 : decode cX1_taxTold 7 = .ok (.iload_n 1, 1) := by decide +kernel
theorem dX1_taxTold_8 : decode cX1_taxTold 8 = .ok (.aload_n 0, 1) := by decide +kernel
theorem dX1_taxTold_9 : decode cX1_taxTold 9 = .ok (.getfield 52, 3) := by decide +kernel
theorem dX1_taxTold_12 : decode cX1_taxTold 12 = .ok (.if_icmp .ge 12, 3) := by decide +kernel
theorem dX1_taxTold_15 : decode cX1_taxTold 15 = .ok (.aload_n 0, 1) := by decide +kernel
theorem dX1_taxTold_16 : decode cX1_taxTold 16 = .ok (.getfield 24, 3) := by decide +kernel
theorem dX1_taxTold_19 : decode cX1_taxTold 19 = .ok (.iload_n 1, 1) := by decide +kernel
theorem dX1_taxTold_20 : decode cX1_taxTold 20 = .ok (.iaload, 1) := by decide +kernel
theorem dX1_taxTold_21 : decode cX1_taxTold 21 = .ok (.goto 5, 3) := by decide +kernel
theorem dX1_taxTold_24 : decode cX1_taxTold 24 = .ok (.bipush (-5), 2) := by decide +kernel
theorem dX1_taxTold_26 : decode cX1_taxTold 26 = .ok (.ireturn, 1) := by decide +kernel
theorem dX1_countBills_0 : decode cX1_countBills 0 = .ok (.iconst 0, 1) := by decide +kernel
theorem dX1_countBills_1 : decode cX1_countBills 1 = .ok (.istore_n 3, 1) := by decide +kernel
theorem dX1_countBills_2 : decode cX1_countBills 2 = .ok (.aload_n 0, 1) := by decide +kernel
theorem dX1_countBills_3 : decode cX1_countBills 3 = .ok (.getfield 11, 3) := by decide +kernel
theorem dX1_countBills_6 : decode cX1_countBills 6 = .ok (.astore 4, 2) := by decide +kernel
theorem dX1_countBills_8 : decode cX1_countBills 8 = .ok (.aload 4, 2) := by decide +kernel
theorem dX1_countBills_10 : decode cX1_countBills 10 = .ok (.arraylength, 1) := by decide +kernel
theorem dX1_countBills_11 : decode cX1_countBills 11 = .ok (.istore 5, 2) := by decide +kernel
theorem dX1_countBills_13 : decode cX1_countBills 13 = .ok (.iconst 0, 1) := by decide +kernel
theorem dX1_countBills_14 : decode cX1_countBills 14 = .ok (.istore 6, 2) := by decide +kernel
theorem dX1_countBills_16 : decode cX1_countBills 16 = .ok (.iload 6, 2) := by decide +kernel
theorem dX1_countBills_18 : decode cX1_countBills 18 = .ok (.iload 5, 2) := by decide +kernel
theorem dX1_countBills_20 : decode cX1_countBills 20 = .ok (.if_icmp .ge 34, 3) := by decide +kernel
theorem dX1_countBills_23 : decode cX1_countBills 23 = .ok (.aload 4, 2) := by decide +kernel
theorem dX1_countBills_25 : decode cX1_countBills 25 = .ok (.iload 6, 2) := by decide +kernel
theorem dX1_countBills_27 : decode cX1_countBills 27 = .ok (.aaload, 1) := by decide +kernel
theorem dX1_countBills_28 : decode cX1_countBills 28 = .ok (.astore 7, 2) := by decide +kernel
theorem dX1_countBills_30 : decode cX1_countBills 30 = .ok (.iload_n 3, 1) := by decide +kernel
theorem dX1_countBills_31 : decode cX1_countBills 31 = .ok (.aload 7, 2) := by decide +kernel
theorem dX1_countBills_33 : decode cX1_countBills 33 = .ok (.iload_n 1, 1) := by decide +kernel
theorem dX1_countBills_34 : decode cX1_countBills 34 = .ok (.iload_n 2, 1) := by decide +kernel
theorem dX1_countBills_35 : decode cX1_countBills 35 = .ok (.invokevirtual 88, 3) := by decide +kernel
theorem dX1_countBills_38 : decode cX1_countBills 38 = .ok (.ifCond .eq 7, 3) := by decide +kernel
theorem dX1_countBills_41 : decode cX1_countBills 41 = .ok (.iconst 1, 1) := by decide +kernel
theorem dX1_countBills_42 : decode cX1_countBills 42 = .ok (.goto 4, 3) := by decide +kernel
theorem dX1_countBills_45 : decode cX1_countBills 45 = .ok (.iconst 0, 1) := by decide +kernel
theorem dX1_countBills_46 : decode cX1_countBills 46 = .ok (.iadd, 1) := by decide +kernel
theorem dX1_countBills_47 : decode cX1_countBills 47 = .ok (.istore_n 3, 1) := by decide +kernel
theorem dX1_countBills_48 : decode cX1_countBills 48 = .ok (.iinc 6 1, 3) := by decide +kernel
theorem dX1_countBills_51 : decode cX1_countBills 51 = .ok (.goto (-35), 3) := by decide +kernel
theorem dX1_countBills_54 : decode cX1_countBills 54 = .ok (.iload_n 3, 1) := by decide +kernel
theorem dX1_countBills_55 : decode cX1_countBills 55 = .ok (.ireturn, 1) := by decide +kernel
theorem dX1_countOverdue_0 : decode cX1_countOverdue 0 = .ok (.iconst 0, 1) := by decide +kernel
theorem dX1_countOverdue_1 : decode cX1_countOverdue 1 = .ok (.istore_n 1, 1) := by decide +kernel
theorem dX1_countOverdue_2 : decode cX1_countOverdue 2 = .ok (.aload_n 0, 1) := by decide +kernel
theorem dX1_countOverdue_3 : decode cX1_countOverdue 3 = .ok (.getfield 11, 3) := by decide +kernel
theorem dX1_countOverdue_6 : decode cX1_countOverdue 6 = .ok (.astore_n 2, 1) := by decide +kernel
theorem dX1_countOverdue_7 : decode cX1_countOverdue 7 = .ok (.aload_n 2, 1) := by decide +kernel
theorem dX1_countOverdue_8 : decode cX1_countOverdue 8 = .ok (.arraylength, 1) := by decide +kernel
theorem dX1_countOverdue_9 : decode cX1_countOverdue 9 = .ok (.istore_n 3, 1) := by decide +kernel
theorem dX1_countOverdue_10 : decode cX1_countOverdue 10 = .ok (.iconst 0, 1) := by decide +kernel
theorem dX1_countOverdue_11 : decode cX1_countOverdue 11 = .ok (.istore 4, 2) := by decide +kernel
theorem dX1_countOverdue_13 : decode cX1_countOverdue 13 = .ok (.iload 4, 2) := by decide +kernel
theorem dX1_countOverdue_15 : decode cX1_countOverdue 15 = .ok (.iload_n 3, 1) := by decide +kernel
theorem dX1_countOverdue_16 : decode cX1_countOverdue 16 = .ok (.if_icmp .ge 35, 3) := by decide +kernel
theorem dX1_countOverdue_19 : decode cX1_countOverdue 19 = .ok (.aload_n 2, 1) := by decide +kernel
theorem dX1_countOverdue_20 : decode cX1_countOverdue 20 = .ok (.iload 4, 2) := by decide +kernel
theorem dX1_countOverdue_22 : decode cX1_countOverdue 22 = .ok (.aaload, 1) := by decide +kernel
theorem dX1_countOverdue_23 : decode cX1_countOverdue 23 = .ok (.astore 5, 2) := by decide +kernel
theorem dX1_countOverdue_25 : decode cX1_countOverdue 25 = .ok (.iload_n 1, 1) := by decide +kernel
theorem dX1_countOverdue_26 : decode cX1_countOverdue 26 = .ok (.aload 5, 2) := by decide +kernel
theorem dX1_countOverdue_28 : decode cX1_countOverdue 28 = .ok (.aload_n 0, 1) := by decide +kernel
theorem dX1_countOverdue_29 : decode cX1_countOverdue 29 = .ok (.getfield 48, 3) := by decide +kernel
theorem dX1_countOverdue_32 : decode cX1_countOverdue 32 = .ok (.invokevirtual 166, 3) := by decide +kernel
theorem dX1_countOverdue_35 : decode cX1_countOverdue 35 = .ok (.ifCond .eq 7, 3) := by decide +kernel
theorem dX1_countOverdue_38 : decode cX1_countOverdue 38 = .ok (.iconst 1, 1) := by decide +kernel
theorem dX1_countOverdue_39 : decode cX1_countOverdue 39 = .ok (.goto 4, 3) := by decide +kernel
theorem dX1_countOverdue_42 : decode cX1_countOverdue 42 = .ok (.iconst 0, 1) := by decide +kernel
theorem dX1_countOverdue_43 : decode cX1_countOverdue 43 = .ok (.iadd, 1) := by decide +kernel
theorem dX1_countOverdue_44 : decode cX1_countOverdue 44 = .ok (.istore_n 1, 1) := by decide +kernel
theorem dX1_countOverdue_45 : decode cX1_countOverdue 45 = .ok (.iinc 4 1, 3) := by decide +kernel
theorem dX1_countOverdue_48 : decode cX1_countOverdue 48 = .ok (.goto (-35), 3) := by decide +kernel
theorem dX1_countOverdue_51 : decode cX1_countOverdue 51 = .ok (.iload_n 1, 1) := by decide +kernel
theorem dX1_countOverdue_52 : decode cX1_countOverdue 52 = .ok (.ireturn, 1) := by decide +kernel
theorem dX1_owedOn_0 : decode cX1_owedOn 0 = .ok (.iconst 0, 1) := by decide +kernel
theorem dX1_owedOn_1 : decode cX1_owedOn 1 = .ok (.istore_n 3, 1) := by decide +kernel
theorem dX1_owedOn_2 : decode cX1_owedOn 2 = .ok (.aload_n 0, 1) := by decide +kernel
theorem dX1_owedOn_3 : decode cX1_owedOn 3 = .ok (.getfield 11, 3) := by decide +kernel
theorem dX1_owedOn_6 : decode cX1_owedOn 6 = .ok (.astore 4, 2) := by decide +kernel
theorem dX1_owedOn_8 : decode cX1_owedOn 8 = .ok (.aload 4, 2) := by decide +kernel
theorem dX1_owedOn_10 : decode cX1_owedOn 10 = .ok (.arraylength, 1) := by decide +kernel
theorem dX1_owedOn_11 : decode cX1_owedOn 11 = .ok (.istore 5, 2) := by decide +kernel
theorem dX1_owedOn_13 : decode cX1_owedOn 13 = .ok (.iconst 0, 1) := by decide +kernel
theorem dX1_owedOn_14 : decode cX1_owedOn 14 = .ok (.istore 6, 2) := by decide +kernel
theorem dX1_owedOn_16 : decode cX1_owedOn 16 = .ok (.iload 6, 2) := by decide +kernel
theorem dX1_owedOn_18 : decode cX1_owedOn 18 = .ok (.iload 5, 2) := by decide +kernel
theorem dX1_owedOn_20 : decode cX1_owedOn 20 = .ok (.if_icmp .ge 38, 3) := by decide +kernel
theorem dX1_owedOn_23 : decode cX1_owedOn 23 = .ok (.aload 4, 2) := by decide +kernel
theorem dX1_owedOn_25 : decode cX1_owedOn 25 = .ok (.iload 6, 2) := by decide +kernel
theorem dX1_owedOn_27 : decode cX1_owedOn 27 = .ok (.aaload, 1) := by decide +kernel
theorem dX1_owedOn_28 : decode cX1_owedOn 28 = .ok (.astore 7, 2) := by decide +kernel
theorem dX1_owedOn_30 : decode cX1_owedOn 30 = .ok (.iload_n 3, 1) := by decide +kernel
theorem dX1_owedOn_31 : decode cX1_owedOn 31 = .ok (.aload 7, 2) := by decide +kernel
theorem dX1_owedOn_33 : decode cX1_owedOn 33 = .ok (.iload_n 1, 1) := by decide +kernel
theorem dX1_owedOn_34 : decode cX1_owedOn 34 = .ok (.iload_n 2, 1) := by decide +kernel
theorem dX1_owedOn_35 : decode cX1_owedOn 35 = .ok (.invokevirtual 88, 3) := by decide +kernel
theorem dX1_owedOn_38 : decode cX1_owedOn 38 = .ok (.ifCond .eq 11, 3) := by decide +kernel
theorem dX1_owedOn_41 : decode cX1_owedOn 41 = .ok (.aload 7, 2) := by decide +kernel
theorem dX1_owedOn_43 : decode cX1_owedOn 43 = .ok (.invokevirtual 102, 3) := by decide +kernel
theorem dX1_owedOn_46 : decode cX1_owedOn 46 = .ok (.goto 4, 3) := by decide +kernel
theorem dX1_owedOn_49 : decode cX1_owedOn 49 = .ok (.iconst 0, 1) := by decide +kernel
theorem dX1_owedOn_50 : decode cX1_owedOn 50 = .ok (.iadd, 1) := by decide +kernel
theorem dX1_owedOn_51 : decode cX1_owedOn 51 = .ok (.istore_n 3, 1) := by decide +kernel
theorem dX1_owedOn_52 : decode cX1_owedOn 52 = .ok (.iinc 6 1, 3) := by decide +kernel
theorem dX1_owedOn_55 : decode cX1_owedOn 55 = .ok (.goto (-39), 3) := by decide +kernel
theorem dX1_owedOn_58 : decode cX1_owedOn 58 = .ok (.iload_n 3, 1) := by decide +kernel
theorem dX1_owedOn_59 : decode cX1_owedOn 59 = .ok (.ireturn, 1) := by decide +kernel
theorem dX1_leastToPayAll_0 : decode cX1_leastToPayAll 0 = .ok (.iconst 0, 1) := by decide +kernel
theorem dX1_leastToPayAll_1 : decode cX1_leastToPayAll 1 = .ok (.istore_n 2, 1) := by decide +kernel
theorem dX1_leastToPayAll_2 : decode cX1_leastToPayAll 2 = .ok (.aload_n 0, 1) := by decide +kernel
theorem dX1_leastToPayAll_3 : decode cX1_leastToPayAll 3 = .ok (.getfield 11, 3) := by decide +kernel
theorem dX1_leastToPayAll_6 : decode cX1_leastToPayAll 6 = .ok (.astore_n 3, 1) := by decide +kernel
theorem dX1_leastToPayAll_7 : decode cX1_leastToPayAll 7 = .ok (.aload_n 3, 1) := by decide +kernel
theorem dX1_leastToPayAll_8 : decode cX1_leastToPayAll 8 = .ok (.arraylength, 1) := by decide +kernel
theorem dX1_leastToPayAll_9 : decode cX1_leastToPayAll 9 = .ok (.istore 4, 2) := by decide +kernel
theorem dX1_leastToPayAll_11 : decode cX1_leastToPayAll 11 = .ok (.iconst 0, 1) := by decide +kernel
theorem dX1_leastToPayAll_12 : decode cX1_leastToPayAll 12 = .ok (.istore 5, 2) := by decide +kernel
theorem dX1_leastToPayAll_14 : decode cX1_leastToPayAll 14 = .ok (.iload 5, 2) := by decide +kernel
theorem dX1_leastToPayAll_16 : decode cX1_leastToPayAll 16 = .ok (.iload 4, 2) := by decide +kernel
theorem dX1_leastToPayAll_18 : decode cX1_leastToPayAll 18 = .ok (.if_icmp .ge 44, 3) := by decide +kernel
theorem dX1_leastToPayAll_21 : decode cX1_leastToPayAll 21 = .ok (.aload_n 3, 1) := by decide +kernel
theorem dX1_leastToPayAll_22 : decode cX1_leastToPayAll 22 = .ok (.iload 5, 2) := by decide +kernel
theorem dX1_leastToPayAll_24 : decode cX1_leastToPayAll 24 = .ok (.aaload, 1) := by decide +kernel
theorem dX1_leastToPayAll_25 : decode cX1_leastToPayAll 25 = .ok (.astore 6, 2) := by decide +kernel
theorem dX1_leastToPayAll_27 : decode cX1_leastToPayAll 27 = .ok (.iload_n 2, 1) := by decide +kernel
theorem dX1_leastToPayAll_28 : decode cX1_leastToPayAll 28 = .ok (.aload 6, 2) := by decide +kernel
theorem dX1_leastToPayAll_30 : decode cX1_leastToPayAll 30 = .ok (.iload_n 1, 1) := by decide +kernel
theorem dX1_leastToPayAll_31 : decode cX1_leastToPayAll 31 = .ok (.iconst 0, 1) := by decide +kernel
theorem dX1_leastToPayAll_32 : decode cX1_leastToPayAll 32 = .ok (.invokevirtual 88, 3) := by decide +kernel
theorem dX1_leastToPayAll_35 : decode cX1_leastToPayAll 35 = .ok (.ifCond .eq 18, 3) := by decide +kernel
theorem dX1_leastToPayAll_38 : decode cX1_leastToPayAll 38 = .ok (.aload 6, 2) := by decide +kernel
theorem dX1_leastToPayAll_40 : decode cX1_leastToPayAll 40 = .ok (.invokevirtual 102, 3) := by decide +kernel
theorem dX1_leastToPayAll_43 : decode cX1_leastToPayAll 43 = .ok (.aload_n 0, 1) := by decide +kernel
theorem dX1_leastToPayAll_44 : decode cX1_leastToPayAll 44 = .ok (.aload 6, 2) := by decide +kernel
theorem dX1_leastToPayAll_46 : decode cX1_leastToPayAll 46 = .ok (.invokevirtual 106, 3) := by decide +kernel
theorem dX1_leastToPayAll_49 : decode cX1_leastToPayAll 49 = .ok (.isub, 1) := by decide +kernel
theorem dX1_leastToPayAll_50 : decode cX1_leastToPayAll 50 = .ok (.goto 4, 3) := by decide +kernel
theorem dX1_leastToPayAll_53 : decode cX1_leastToPayAll 53 = .ok (.iconst 0, 1) := by decide +kernel
theorem dX1_leastToPayAll_54 : decode cX1_leastToPayAll 54 = .ok (.iadd, 1) := by decide +kernel
theorem dX1_leastToPayAll_55 : decode cX1_leastToPayAll 55 = .ok (.istore_n 2, 1) := by decide +kernel
theorem dX1_leastToPayAll_56 : decode cX1_leastToPayAll 56 = .ok (.iinc 5 1, 3) := by decide +kernel
theorem dX1_leastToPayAll_59 : decode cX1_leastToPayAll 59 = .ok (.goto (-45), 3) := by decide +kernel
theorem dX1_leastToPayAll_62 : decode cX1_leastToPayAll 62 = .ok (.iload_n 2, 1) := by decide +kernel
theorem dX1_leastToPayAll_63 : decode cX1_leastToPayAll 63 = .ok (.ireturn, 1) := by decide +kernel
theorem dX1_oldestOpenBill_0 : decode cX1_oldestOpenBill 0 = .ok (.iconst 0, 1) := by decide +kernel
theorem dX1_oldestOpenBill_1 : decode cX1_oldestOpenBill 1 = .ok (.istore_n 2, 1) := by decide +kernel
theorem dX1_oldestOpenBill_2 : decode cX1_oldestOpenBill 2 = .ok (.iload_n 2, 1) := by decide +kernel
theorem dX1_oldestOpenBill_3 : decode cX1_oldestOpenBill 3 = .ok (.aload_n 0, 1) := by decide +kernel
theorem dX1_oldestOpenBill_4 : decode cX1_oldestOpenBill 4 = .ok (.getfield 11, 3) := by decide +kernel
theorem dX1_oldestOpenBill_7 : decode cX1_oldestOpenBill 7 = .ok (.arraylength, 1) := by decide +kernel
theorem dX1_oldestOpenBill_8 : decode cX1_oldestOpenBill 8 = .ok (.if_icmp .ge 25, 3) := by decide +kernel
theorem dX1_oldestOpenBill_11 : decode cX1_oldestOpenBill 11 = .ok (.aload_n 0, 1) := by decide +kernel
theorem dX1_oldestOpenBill_12 : decode cX1_oldestOpenBill 12 = .ok (.getfield 11, 3) := by decide +kernel
theorem dX1_oldestOpenBill_15 : decode cX1_oldestOpenBill 15 = .ok (.iload_n 2, 1) := by decide +kernel
theorem dX1_oldestOpenBill_16 : decode cX1_oldestOpenBill 16 = .ok (.aaload, 1) := by decide +kernel
theorem dX1_oldestOpenBill_17 : decode cX1_oldestOpenBill 17 = .ok (.iload_n 1, 1) := by decide +kernel
theorem dX1_oldestOpenBill_18 : decode cX1_oldestOpenBill 18 = .ok (.iconst 0, 1) := by decide +kernel
theorem dX1_oldestOpenBill_19 : decode cX1_oldestOpenBill 19 = .ok (.invokevirtual 88, 3) := by decide +kernel
theorem dX1_oldestOpenBill_22 : decode cX1_oldestOpenBill 22 = .ok (.ifCond .eq 5, 3) := by decide +kernel
theorem dX1_oldestOpenBill_25 : decode cX1_oldestOpenBill 25 = .ok (.iload_n 2, 1) := by decide +kernel
theorem dX1_oldestOpenBill_26 : decode cX1_oldestOpenBill 26 = .ok (.ireturn, 1) := by decide +kernel
theorem dX1_oldestOpenBill_27 : decode cX1_oldestOpenBill 27 = .ok (.iinc 2 1, 3) := by decide +kernel
theorem dX1_oldestOpenBill_30 : decode cX1_oldestOpenBill 30 = .ok (.goto (-28), 3) := by decide +kernel
theorem dX1_oldestOpenBill_33 : decode cX1_oldestOpenBill 33 = .ok (.bipush (-5), 2) := by decide +kernel
theorem dX1_oldestOpenBill_35 : decode cX1_oldestOpenBill 35 = .ok (.ireturn, 1) := by decide +kernel
theorem dX1_paidOn_0 : decode cX1_paidOn 0 = .ok (.iconst 0, 1) := by decide +kernel
theorem dX1_paidOn_1 : decode cX1_paidOn 1 = .ok (.istore_n 2, 1) := by decide +kernel
theorem dX1_paidOn_2 : decode cX1_paidOn 2 = .ok (.aload_n 0, 1) := by decide +kernel
theorem dX1_paidOn_3 : decode cX1_paidOn 3 = .ok (.getfield 11, 3) := by decide +kernel
theorem dX1_paidOn_6 : decode cX1_paidOn 6 = .ok (.astore_n 3, 1) := by decide +kernel
theorem dX1_paidOn_7 : decode cX1_paidOn 7 = .ok (.aload_n 3, 1) := by decide +kernel
theorem dX1_paidOn_8 : decode cX1_paidOn 8 = .ok (.arraylength, 1) := by decide +kernel
theorem dX1_paidOn_9 : decode cX1_paidOn 9 = .ok (.istore 4, 2) := by decide +kernel
theorem dX1_paidOn_11 : decode cX1_paidOn 11 = .ok (.iconst 0, 1) := by decide +kernel
theorem dX1_paidOn_12 : decode cX1_paidOn 12 = .ok (.istore 5, 2) := by decide +kernel
theorem dX1_paidOn_14 : decode cX1_paidOn 14 = .ok (.iload 5, 2) := by decide +kernel
theorem dX1_paidOn_16 : decode cX1_paidOn 16 = .ok (.iload 4, 2) := by decide +kernel
theorem dX1_paidOn_18 : decode cX1_paidOn 18 = .ok (.if_icmp .ge 38, 3) := by decide +kernel
theorem dX1_paidOn_21 : decode cX1_paidOn 21 = .ok (.aload_n 3, 1) := by decide +kernel
theorem dX1_paidOn_22 : decode cX1_paidOn 22 = .ok (.iload 5, 2) := by decide +kernel
theorem dX1_paidOn_24 : decode cX1_paidOn 24 = .ok (.aaload, 1) := by decide +kernel
theorem dX1_paidOn_25 : decode cX1_paidOn 25 = .ok (.astore 6, 2) := by decide +kernel
theorem dX1_paidOn_27 : decode cX1_paidOn 27 = .ok (.iload_n 2, 1) := by decide +kernel
theorem dX1_paidOn_28 : decode cX1_paidOn 28 = .ok (.aload 6, 2) := by decide +kernel
theorem dX1_paidOn_30 : decode cX1_paidOn 30 = .ok (.iload_n 1, 1) := by decide +kernel
theorem dX1_paidOn_31 : decode cX1_paidOn 31 = .ok (.bipush (-9), 2) := by decide +kernel
theorem dX1_paidOn_33 : decode cX1_paidOn 33 = .ok (.invokevirtual 88, 3) := by decide +kernel
theorem dX1_paidOn_36 : decode cX1_paidOn 36 = .ok (.ifCond .eq 11, 3) := by decide +kernel
theorem dX1_paidOn_39 : decode cX1_paidOn 39 = .ok (.aload 6, 2) := by decide +kernel
theorem dX1_paidOn_41 : decode cX1_paidOn 41 = .ok (.getfield 169, 3) := by decide +kernel
theorem dX1_paidOn_44 : decode cX1_paidOn 44 = .ok (.goto 4, 3) := by decide +kernel
theorem dX1_paidOn_47 : decode cX1_paidOn 47 = .ok (.iconst 0, 1) := by decide +kernel
theorem dX1_paidOn_48 : decode cX1_paidOn 48 = .ok (.iadd, 1) := by decide +kernel
theorem dX1_paidOn_49 : decode cX1_paidOn 49 = .ok (.istore_n 2, 1) := by decide +kernel
theorem dX1_paidOn_50 : decode cX1_paidOn 50 = .ok (.iinc 5 1, 3) := by decide +kernel
theorem dX1_paidOn_53 : decode cX1_paidOn 53 = .ok (.goto (-39), 3) := by decide +kernel
theorem dX1_paidOn_56 : decode cX1_paidOn 56 = .ok (.iload_n 2, 1) := by decide +kernel
theorem dX1_paidOn_57 : decode cX1_paidOn 57 = .ok (.ireturn, 1) := by decide +kernel
theorem dX1_allCredit_0 : decode cX1_allCredit 0 = .ok (.iconst 0, 1) := by decide +kernel
theorem dX1_allCredit_1 : decode cX1_allCredit 1 = .ok (.istore_n 1, 1) := by decide +kernel
theorem dX1_allCredit_2 : decode cX1_allCredit 2 = .ok (.aload_n 0, 1) := by decide +kernel
theorem dX1_allCredit_3 : decode cX1_allCredit 3 = .ok (.getfield 17, 3) := by decide +kernel
theorem dX1_allCredit_6 : decode cX1_allCredit 6 = .ok (.astore_n 2, 1) := by decide +kernel
theorem dX1_allCredit_7 : decode cX1_allCredit 7 = .ok (.aload_n 2, 1) := by decide +kernel
theorem dX1_allCredit_8 : decode cX1_allCredit 8 = .ok (.arraylength, 1) := by decide +kernel
theorem dX1_allCredit_9 : decode cX1_allCredit 9 = .ok (.istore_n 3, 1) := by decide +kernel
theorem dX1_allCredit_10 : decode cX1_allCredit 10 = .ok (.iconst 0, 1) := by decide +kernel
theorem dX1_allCredit_11 : decode cX1_allCredit 11 = .ok (.istore 4, 2) := by decide +kernel
theorem dX1_allCredit_13 : decode cX1_allCredit 13 = .ok (.iload 4, 2) := by decide +kernel
theorem dX1_allCredit_15 : decode cX1_allCredit 15 = .ok (.iload_n 3, 1) := by decide +kernel
theorem dX1_allCredit_16 : decode cX1_allCredit 16 = .ok (.if_icmp .ge 20, 3) := by decide +kernel
theorem dX1_allCredit_19 : decode cX1_allCredit 19 = .ok (.aload_n 2, 1) := by decide +kernel
theorem dX1_allCredit_20 : decode cX1_allCredit 20 = .ok (.iload 4, 2) := by decide +kernel
theorem dX1_allCredit_22 : decode cX1_allCredit 22 = .ok (.iaload, 1) := by decide +kernel
theorem dX1_allCredit_23 : decode cX1_allCredit 23 = .ok (.istore 5, 2) := by decide +kernel
theorem dX1_allCredit_25 : decode cX1_allCredit 25 = .ok (.iload_n 1, 1) := by decide +kernel
theorem dX1_allCredit_26 : decode cX1_allCredit 26 = .ok (.iload 5, 2) := by decide +kernel
theorem dX1_allCredit_28 : decode cX1_allCredit 28 = .ok (.iadd, 1) := by decide +kernel
theorem dX1_allCredit_29 : decode cX1_allCredit 29 = .ok (.istore_n 1, 1) := by decide +kernel
theorem dX1_allCredit_30 : decode cX1_allCredit 30 = .ok (.iinc 4 1, 3) := by decide +kernel
theorem dX1_allCredit_33 : decode cX1_allCredit 33 = .ok (.goto (-20), 3) := by decide +kernel
theorem dX1_allCredit_36 : decode cX1_allCredit 36 = .ok (.iload_n 1, 1) := by decide +kernel
theorem dX1_allCredit_37 : decode cX1_allCredit 37 = .ok (.ireturn, 1) := by decide +kernel
theorem dX1_allDiscounts_0 : decode cX1_allDiscounts 0 = .ok (.iconst 0, 1) := by decide +kernel
theorem dX1_allDiscounts_1 : decode cX1_allDiscounts 1 = .ok (.istore_n 1, 1) := by decide +kernel
theorem dX1_allDiscounts_2 : decode cX1_allDiscounts 2 = .ok (.aload_n 0, 1) := by decide +kernel
theorem dX1_allDiscounts_3 : decode cX1_allDiscounts 3 = .ok (.getfield 11, 3) := by decide +kernel
theorem dX1_allDiscounts_6 : decode cX1_allDiscounts 6 = .ok (.astore_n 2, 1) := by decide +kernel
theorem dX1_allDiscounts_7 : decode cX1_allDiscounts 7 = .ok (.aload_n 2, 1) := by decide +kernel
theorem dX1_allDiscounts_8 : decode cX1_allDiscounts 8 = .ok (.arraylength, 1) := by decide +kernel
theorem dX1_allDiscounts_9 : decode cX1_allDiscounts 9 = .ok (.istore_n 3, 1) := by decide +kernel
theorem dX1_allDiscounts_10 : decode cX1_allDiscounts 10 = .ok (.iconst 0, 1) := by decide +kernel
theorem dX1_allDiscounts_11 : decode cX1_allDiscounts 11 = .ok (.istore 4, 2) := by decide +kernel
theorem dX1_allDiscounts_13 : decode cX1_allDiscounts 13 = .ok (.iload 4, 2) := by decide +kernel
theorem dX1_allDiscounts_15 : decode cX1_allDiscounts 15 = .ok (.iload_n 3, 1) := by decide +kernel
theorem dX1_allDiscounts_16 : decode cX1_allDiscounts 16 = .ok (.if_icmp .ge 23, 3) := by decide +kernel
theorem dX1_allDiscounts_19 : decode cX1_allDiscounts 19 = .ok (.aload_n 2, 1) := by decide +kernel
theorem dX1_allDiscounts_20 : decode cX1_allDiscounts 20 = .ok (.iload 4, 2) := by decide +kernel
theorem dX1_allDiscounts_22 : decode cX1_allDiscounts 22 = .ok (.aaload, 1) := by decide +kernel
theorem dX1_allDiscounts_23 : decode cX1_allDiscounts 23 = .ok (.astore 5, 2) := by decide +kernel
theorem dX1_allDiscounts_25 : decode cX1_allDiscounts 25 = .ok (.iload_n 1, 1) := by decide +kernel
theorem dX1_allDiscounts_26 : decode cX1_allDiscounts 26 = .ok (.aload 5, 2) := by decide +kernel
theorem dX1_allDiscounts_28 : decode cX1_allDiscounts 28 = .ok (.getfield 172, 3) := by decide +kernel
theorem dX1_allDiscounts_31 : decode cX1_allDiscounts 31 = .ok (.iadd, 1) := by decide +kernel
theorem dX1_allDiscounts_32 : decode cX1_allDiscounts 32 = .ok (.istore_n 1, 1) := by decide +kernel
theorem dX1_allDiscounts_33 : decode cX1_allDiscounts 33 = .ok (.iinc 4 1, 3) := by decide +kernel
theorem dX1_allDiscounts_36 : decode cX1_allDiscounts 36 = .ok (.goto (-23), 3) := by decide +kernel
theorem dX1_allDiscounts_39 : decode cX1_allDiscounts 39 = .ok (.iload_n 1, 1) := by decide +kernel
theorem dX1_allDiscounts_40 : decode cX1_allDiscounts 40 = .ok (.ireturn, 1) := by decide +kernel
theorem dX1_allFees_0 : decode cX1_allFees 0 = .ok (.iconst 0, 1) := by decide +kernel
theorem dX1_allFees_1 : decode cX1_allFees 1 = .ok (.istore_n 1, 1) := by decide +kernel
theorem dX1_allFees_2 : decode cX1_allFees 2 = .ok (.aload_n 0, 1) := by decide +kernel
theorem dX1_allFees_3 : decode cX1_allFees 3 = .ok (.getfield 11, 3) := by decide +kernel
theorem dX1_allFees_6 : decode cX1_allFees 6 = .ok (.astore_n 2, 1) := by decide +kernel
theorem dX1_allFees_7 : decode cX1_allFees 7 = .ok (.aload_n 2, 1) := by decide +kernel
theorem dX1_allFees_8 : decode cX1_allFees 8 = .ok (.arraylength, 1) := by decide +kernel
theorem dX1_allFees_9 : decode cX1_allFees 9 = .ok (.istore_n 3, 1) := by decide +kernel
theorem dX1_allFees_10 : decode cX1_allFees 10 = .ok (.iconst 0, 1) := by decide +kernel
theorem dX1_allFees_11 : decode cX1_allFees 11 = .ok (.istore 4, 2) := by decide +kernel
theorem dX1_allFees_13 : decode cX1_allFees 13 = .ok (.iload 4, 2) := by decide +kernel
theorem dX1_allFees_15 : decode cX1_allFees 15 = .ok (.iload_n 3, 1) := by decide +kernel
theorem dX1_allFees_16 : decode cX1_allFees 16 = .ok (.if_icmp .ge 23, 3) := by decide +kernel
theorem dX1_allFees_19 : decode cX1_allFees 19 = .ok (.aload_n 2, 1) := by decide +kernel
theorem dX1_allFees_20 : decode cX1_allFees 20 = .ok (.iload 4, 2) := by decide +kernel
theorem dX1_allFees_22 : decode cX1_allFees 22 = .ok (.aaload, 1) := by decide +kernel
theorem dX1_allFees_23 : decode cX1_allFees 23 = .ok (.astore 5, 2) := by decide +kernel
theorem dX1_allFees_25 : decode cX1_allFees 25 = .ok (.iload_n 1, 1) := by decide +kernel
theorem dX1_allFees_26 : decode cX1_allFees 26 = .ok (.aload 5, 2) := by decide +kernel
theorem dX1_allFees_28 : decode cX1_allFees 28 = .ok (.getfield 175, 3) := by decide +kernel
theorem dX1_allFees_31 : decode cX1_allFees 31 = .ok (.iadd, 1) := by decide +kernel
theorem dX1_allFees_32 : decode cX1_allFees 32 = .ok (.istore_n 1, 1) := by decide +kernel
theorem dX1_allFees_33 : decode cX1_allFees 33 = .ok (.iinc 4 1, 3) := by decide +kernel
theorem dX1_allFees_36 : decode cX1_allFees 36 = .ok (.goto (-23), 3) := by decide +kernel
theorem dX1_allFees_39 : decode cX1_allFees 39 = .ok (.iload_n 1, 1) := by decide +kernel
theorem dX1_allFees_40 : decode cX1_allFees 40 = .ok (.ireturn, 1) := by decide +kernel
theorem dX1_allReminders_0 : decode cX1_allReminders 0 = .ok (.iconst 0, 1) := by decide +kernel
theorem dX1_allReminders_1 : decode cX1_allReminders 1 = .ok (.istore_n 1, 1) := by decide +kernel
theorem dX1_allReminders_2 : decode cX1_allReminders 2 = .ok (.aload_n 0, 1) := by decide +kernel
theorem dX1_allReminders_3 : decode cX1_allReminders 3 = .ok (.getfield 11, 3) := by decide +kernel
theorem dX1_allReminders_6 : decode cX1_allReminders 6 = .ok (.astore_n 2, 1) := by decide +kernel
theorem dX1_allReminders_7 : decode cX1_allReminders 7 = .ok (.aload_n 2, 1) := by decide +kernel
theorem dX1_allReminders_8 : decode cX1_allReminders 8 = .ok (.arraylength, 1) := by decide +kernel
theorem dX1_allReminders_9 : decode cX1_allReminders 9 = .ok (.istore_n 3, 1) := by decide +kernel
theorem dX1_allReminders_10 : decode cX1_allReminders 10 = .ok (.iconst 0, 1) := by decide +kernel
theorem dX1_allReminders_11 : decode cX1_allReminders 11 = .ok (.istore 4, 2) := by decide +kernel
theorem dX1_allReminders_13 : decode cX1_allReminders 13 = .ok (.iload 4, 2) := by decide +kernel
theorem dX1_allReminders_15 : decode cX1_allReminders 15 = .ok (.iload_n 3, 1) := by decide +kernel
theorem dX1_allReminders_16 : decode cX1_allReminders 16 = .ok (.if_icmp .ge 23, 3) := by decide +kernel
theorem dX1_allReminders_19 : decode cX1_allReminders 19 = .ok (.aload_n 2, 1) := by decide +kernel
theorem dX1_allReminders_20 : decode cX1_allReminders 20 = .ok (.iload 4, 2) := by decide +kernel
theorem dX1_allReminders_22 : decode cX1_allReminders 22 = .ok (.aaload, 1) := by decide +kernel
theorem dX1_allReminders_23 : decode cX1_allReminders 23 = .ok (.astore 5, 2) := by decide +kernel
theorem dX1_allReminders_25 : decode cX1_allReminders 25 = .ok (.iload_n 1, 1) := by decide +kernel
theorem dX1_allReminders_26 : decode cX1_allReminders 26 = .ok (.aload 5, 2) := by decide +kernel
theorem dX1_allReminders_28 : decode cX1_allReminders 28 = .ok (.getfield 120, 3) := by decide +kernel
theorem dX1_allReminders_31 : decode cX1_allReminders 31 = .ok (.iadd, 1) := by decide +kernel
theorem dX1_allReminders_32 : decode cX1_allReminders 32 = .ok (.istore_n 1, 1) := by decide +kernel
theorem dX1_allReminders_33 : decode cX1_allReminders 33 = .ok (.iinc 4 1, 3) := by decide +kernel
theorem dX1_allReminders_36 : decode cX1_allReminders 36 = .ok (.goto (-23), 3) := by decide +kernel
theorem dX1_allReminders_39 : decode cX1_allReminders 39 = .ok (.iload_n 1, 1) := by decide +kernel
theorem dX1_allReminders_40 : decode cX1_allReminders 40 = .ok (.ireturn, 1) := by decide +kernel
theorem dX3_init_0 : decode cX3_init 0 = .ok (.aload_n 0, 1) := by decide +kernel
theorem dX3_init_1 : decode cX3_init 1 = .ok (.invokespecial 3, 3) := by decide +kernel
theorem dX3_init_4 : decode cX3_init 4 = .ok (.aload_n 0, 1) := by decide +kernel
theorem dX3_init_5 : decode cX3_init 5 = .ok (.iconst 5, 1) := by decide +kernel
theorem dX3_init_6 : decode cX3_init 6 = .ok (.newarray .int, 2) := by decide +kernel
theorem dX3_init_8 : decode cX3_init 8 = .ok (.dup, 1) := by decide +kernel
theorem dX3_init_9 : decode cX3_init 9 = .ok (.iconst 0, 1) := by decide +kernel
theorem dX3_init_10 : decode cX3_init 10 = .ok (.bipush 10, 2) := by decide +kernel
theorem dX3_init_12 : decode cX3_init 12 = .ok (.iastore, 1) := by decide +kernel
theorem dX3_init_13 : decode cX3_init 13 = .ok (.dup, 1) := by decide +kernel
theorem dX3_init_14 : decode cX3_init 14 = .ok (.iconst 1, 1) := by decide +kernel
theorem dX3_init_15 : decode cX3_init 15 = .ok (.iconst 2, 1) := by decide +kernel
theorem dX3_init_16 : decode cX3_init 16 = .ok (.iastore, 1) := by decide +kernel
theorem dX3_init_17 : decode cX3_init 17 = .ok (.dup, 1) := by decide +kernel
theorem dX3_init_18 : decode cX3_init 18 = .ok (.iconst 2, 1) := by decide +kernel
theorem dX3_init_19 : decode cX3_init 19 = .ok (.bipush 7, 2) := by decide +kernel
theorem dX3_init_21 : decode cX3_init 21 = .ok (.iastore, 1) := by decide +kernel
theorem dX3_init_22 : decode cX3_init 22 = .ok (.dup, 1) := by decide +kernel
theorem dX3_init_23 : decode cX3_init 23 = .ok (.iconst 3, 1) := by decide +kernel
theorem dX3_init_24 : decode cX3_init 24 = .ok (.iconst 5, 1) := by decide +kernel
theorem dX3_init_25 : decode cX3_init 25 = .ok (.iastore, 1) := by decide +kernel
theorem dX3_init_26 : decode cX3_init 26 = .ok (.dup, 1) := by decide +kernel
theorem dX3_init_27 : decode cX3_init 27 = .ok (.iconst 4, 1) := by decide +kernel
theorem dX3_init_28 : decode cX3_init 28 = .ok (.iconst 0, 1) := by decide +kernel
theorem dX3_init_29 : decode cX3_init 29 = .ok (.iastore, 1) := by decide +kernel
theorem dX3_init_30 : decode cX3_init 30 = .ok (.putfield 9, 3) := by decide +kernel
theorem dX3_init_33 : decode cX3_init 33 = .ok (.return_, 1) := by decide +kernel
theorem dX3_copyFrom_0 : decode cX3_copyFrom 0 = .ok (.aload_n 1, 1) := by decide +kernel
theorem dX3_copyFrom_1 : decode cX3_copyFrom 1 = .ok (.getfield 9, 3) := by decide +kernel
theorem dX3_copyFrom_4 : decode cX3_copyFrom 4 = .ok (.iconst 0, 1) := by decide +kernel
theorem dX3_copyFrom_5 : decode cX3_copyFrom 5 = .ok (.aload_n 0, 1) := by decide +kernel
theorem dX3_copyFrom_6 : decode cX3_copyFrom 6 = .ok (.getfield 9, 3) := by decide +kernel
theorem dX3_copyFrom_9 : decode cX3_copyFrom 9 = .ok (.iconst 0, 1) := by decide +kernel
theorem dX3_copyFrom_10 : decode cX3_copyFrom 10 = .ok (.aload_n 0, 1) := by decide +kernel
theorem dX3_copyFrom_11 : decode cX3_copyFrom 11 = .ok (.getfield 9, 3) := by decide +kernel
theorem dX3_copyFrom_14 : decode cX3_copyFrom 14 = .ok (.arraylength, 1) := by decide +kernel
theorem dX3_copyFrom_15 : decode cX3_copyFrom 15 = .ok (.invokestatic 15, 3) := by decide +kernel
theorem dX3_copyFrom_18 : decode cX3_copyFrom 18 = .ok (.return_, 1) := by decide +kernel
theorem dX3_change_0 : decode cX3_change 0 = .ok (.iload_n 1, 1) := by decide +kernel
theorem dX3_change_1 : decode cX3_change 1 = .ok (.ifCond .lt 12, 3) := by decide +kernel
theorem dX3_change_4 : decode cX3_change 4 = .ok (.iload_n 1, 1) := by decide +kernel
theorem dX3_change_5 : decode cX3_change 5 = .ok (.aload_n 0, 1) := by decide +kernel
theorem dX3_change_6 : decode cX3_change 6 = .ok (.getfield 9, 3) := by decide +kernel
theorem dX3_change_9 : decode cX3_change 9 = .ok (.arraylength, 1) := by decide +kernel
theorem dX3_change_10 : decode cX3_change 10 = .ok (.if_icmp .lt 5, 3) := by decide +kernel
theorem dX3_change_13 : decode cX3_change 13 = .ok (.iconst (-1), 1) := by decide +kernel
theorem dX3_change_14 : decode cX3_change 14 = .ok (.ireturn, 1) := by decide +kernel
theorem dX3_change_15 : decode cX3_change 15 = .ok (.iload_n 2, 1) := by decide +kernel
theorem dX3_change_16 : decode cX3_change 16 = .ok (.getstatic 21, 3) := by decide +kernel
theorem dX3_change_19 : decode cX3_change 19 = .ok (.iload_n 1, 1) := by decide +kernel
theorem dX3_change_20 : decode cX3_change 20 = .ok (.iaload, 1) := by decide +kernel
theorem dX3_change_21 : decode cX3_change 21 = .ok (.if_icmp .lt 12, 3) := by decide +kernel
theorem dX3_change_24 : decode cX3_change 24 = .ok (.iload_n 2, 1) := by decide +kernel
theorem dX3_change_25 : decode cX3_change 25 = .ok (.getstatic 24, 3) := by decide +kernel
theorem dX3_change_28 : decode cX3_change 28 = .ok (.iload_n 1, 1) := by decide +kernel
theorem dX3_change_29 : decode cX3_change 29 = .ok (.iaload, 1) := by decide +kernel
theorem dX3_change_30 : decode cX3_change 30 = .ok (.if_icmp .le 6, 3) := by decide +kernel
theorem dX3_change_33 : decode cX3_change 33 = .ok (.bipush (-2), 2) := by decide +kernel
theorem dX3_change_35 : decode cX3_change 35 = .ok (.ireturn, 1) := by decide +kernel
theorem dX3_change_36 : decode cX3_change 36 = .ok (.aload_n 0, 1) := by decide +kernel
theorem dX3_change_37 : decode cX3_change 37 = .ok (.getfield 9, 3) := by decide +kernel
theorem dX3_change_40 : decode cX3_change 40 = .ok (.iload_n 1, 1) := by decide +kernel
theorem dX3_change_41 : decode cX3_change 41 = .ok (.iaload, 1) := by decide +kernel
theorem dX3_change_42 : decode cX3_change 42 = .ok (.istore_n 3, 1) := by decide +kernel
theorem dX3_change_43 : decode cX3_change 43 = .ok (.iload_n 2, 1) := by decide +kernel
theorem dX3_change_44 : decode cX3_change 44 = .ok (.iload_n 3, 1) := by decide +kernel
theorem dX3_change_45 : decode cX3_change 45 = .ok (.if_icmp .ne 6, 3) := by decide +kernel
theorem dX3_change_48 : decode cX3_change 48 = .ok (.bipush (-5), 2) := by decide +kernel
theorem dX3_change_50 : decode cX3_change 50 = .ok (.ireturn, 1) := by decide +kernel
theorem dX3_change_51 : decode cX3_change 51 = .ok (.aload_n 0, 1) := by decide +kernel
theorem dX3_change_52 : decode cX3_change 52 = .ok (.getfield 9, 3) := by decide +kernel
theorem dX3_change_55 : decode cX3_change 55 = .ok (.iload_n 1, 1) := by decide +kernel
theorem dX3_change_56 : decode cX3_change 56 = .ok (.iload_n 2, 1) := by decide +kernel
theorem dX3_change_57 : decode cX3_change 57 = .ok (.iastore, 1) := by decide +kernel
theorem dX3_change_58 : decode cX3_change 58 = .ok (.iload_n 3, 1) := by decide +kernel
theorem dX3_change_59 : decode cX3_change 59 = .ok (.ireturn, 1) := by decide +kernel
theorem dX3_discountDays_0 : decode cX3_discountDays 0 = .ok (.aload_n 0, 1) := by decide +kernel
theorem dX3_discountDays_1 : decode cX3_discountDays 1 = .ok (.getfield 9, 3) := by decide +kernel
theorem dX3_discountDays_4 : decode cX3_discountDays 4 = .ok (.iconst 0, 1) := by decide +kernel
theorem dX3_discountDays_5 : decode cX3_discountDays 5 = .ok (.iaload, 1) := by decide +kernel
theorem dX3_discountDays_6 : decode cX3_discountDays 6 = .ok (.ireturn, 1) := by decide +kernel
theorem dX3_discountPercent_0 : decode cX3_discountPercent 0 = .ok (.aload_n 0, 1) := by decide +kernel
theorem dX3_discountPercent_1 : decode cX3_discountPercent 1 = .ok (.getfield 9, 3) := by decide +kernel
theorem dX3_discountPercent_4 : decode cX3_discountPercent 4 = .ok (.iconst 1, 1) := by decide +kernel
theorem dX3_discountPercent_5 : decode cX3_discountPercent 5 = .ok (.iaload, 1) := by decide +kernel
theorem dX3_discountPercent_6 : decode cX3_discountPercent 6 = .ok (.ireturn, 1) := by decide +kernel
theorem dX3_reminderDays_0 : decode cX3_reminderDays 0 = .ok (.aload_n 0, 1) := by decide +kernel
theorem dX3_reminderDays_1 : decode cX3_reminderDays 1 = .ok (.getfield 9, 3) := by decide +kernel
theorem dX3_reminderDays_4 : decode cX3_reminderDays 4 = .ok (.iconst 2, 1) := by decide +kernel
theorem dX3_reminderDays_5 : decode cX3_reminderDays 5 = .ok (.iaload, 1) := by decide +kernel
theorem dX3_reminderDays_6 : decode cX3_reminderDays 6 = .ok (.ireturn, 1) := by decide +kernel
theorem dX3_reminderFee_0 : decode cX3_reminderFee 0 = .ok (.aload_n 0, 1) := by decide +kernel
theorem dX3_reminderFee_1 : decode cX3_reminderFee 1 = .ok (.getfield 9, 3) := by decide +kernel
theorem dX3_reminderFee_4 : decode cX3_reminderFee 4 = .ok (.iconst 3, 1) := by decide +kernel
theorem dX3_reminderFee_5 : decode cX3_reminderFee 5 = .ok (.iaload, 1) := by decide +kernel
theorem dX3_reminderFee_6 : decode cX3_reminderFee 6 = .ok (.ireturn, 1) := by decide +kernel
theorem dX3_taxWay_0 : decode cX3_taxWay 0 = .ok (.aload_n 0, 1) := by decide +kernel
theorem dX3_taxWay_1 : decode cX3_taxWay 1 = .ok (.getfield 9, 3) := by decide +kernel
theorem dX3_taxWay_4 : decode cX3_taxWay 4 = .ok (.iconst 4, 1) := by decide +kernel
theorem dX3_taxWay_5 : decode cX3_taxWay 5 = .ok (.iaload, 1) := by decide +kernel
theorem dX3_taxWay_6 : decode cX3_taxWay 6 = .ok (.ireturn, 1) := by decide +kernel
theorem dX2_init_0 : decode cX2_init 0 = .ok (.aload_n 0, 1) := by decide +kernel
theorem dX2_init_1 : decode cX2_init 1 = .ok (.invokespecial 3, 3) := by decide +kernel
theorem dX2_init_4 : decode cX2_init 4 = .ok (.aload_n 0, 1) := by decide +kernel
theorem dX2_init_5 : decode cX2_init 5 = .ok (.iconst 4, 1) := by decide +kernel
theorem dX2_init_6 : decode cX2_init 6 = .ok (.anewarray 9, 3) := by decide +kernel
theorem dX2_init_9 : decode cX2_init 9 = .ok (.putfield 11, 3) := by decide +kernel
theorem dX2_init_12 : decode cX2_init 12 = .ok (.iconst 0, 1) := by decide +kernel
theorem dX2_init_13 : decode cX2_init 13 = .ok (.istore_n 1, 1) := by decide +kernel
theorem dX2_init_14 : decode cX2_init 14 = .ok (.iload_n 1, 1) := by decide +kernel
theorem dX2_init_15 : decode cX2_init 15 = .ok (.aload_n 0, 1) := by decide +kernel
theorem dX2_init_16 : decode cX2_init 16 = .ok (.getfield 11, 3) := by decide +kernel
theorem dX2_init_19 : decode cX2_init 19 = .ok (.arraylength, 1) := by decide +kernel
theorem dX2_init_20 : decode cX2_init 20 = .ok (.if_icmp .ge 22, 3) := by decide +kernel
theorem dX2_init_23 : decode cX2_init 23 = .ok (.aload_n 0, 1) := by decide +kernel
theorem dX2_init_24 : decode cX2_init 24 = .ok (.getfield 11, 3) := by decide +kernel
theorem dX2_init_27 : decode cX2_init 27 = .ok (.iload_n 1, 1) := by decide +kernel
theorem dX2_init_28 : decode cX2_init 28 = .ok (.new 9, 3) := by decide +kernel
theorem dX2_init_31 : decode cX2_init 31 = .ok (.dup, 1) := by decide +kernel
theorem dX2_init_32 : decode cX2_init 32 = .ok (.invokespecial 17, 3) := by decide +kernel
theorem dX2_init_35 : decode cX2_init 35 = .ok (.aastore, 1) := by decide +kernel
theorem dX2_init_36 : decode cX2_init 36 = .ok (.iinc 1 1, 3) := by decide +kernel
theorem dX2_init_39 : decode cX2_init 39 = .ok (.goto (-25), 3) := by decide +kernel
theorem dX2_init_42 : decode cX2_init 42 = .ok (.return_, 1) := by decide +kernel
theorem dX2_add_0 : decode cX2_add 0 = .ok (.aload_n 0, 1) := by decide +kernel
theorem dX2_add_1 : decode cX2_add 1 = .ok (.getfield 18, 3) := by decide +kernel
theorem dX2_add_4 : decode cX2_add 4 = .ok (.ifCond .lt 47, 3) := by decide +kernel
theorem dX2_add_7 : decode cX2_add 7 = .ok (.aload_n 0, 1) := by decide +kernel
theorem dX2_add_8 : decode cX2_add 8 = .ok (.getfield 18, 3) := by decide +kernel
theorem dX2_add_11 : decode cX2_add 11 = .ok (.aload_n 0, 1) := by decide +kernel
theorem dX2_add_12 : decode cX2_add 12 = .ok (.getfield 11, 3) := by decide +kernel
theorem dX2_add_15 : decode cX2_add 15 = .ok (.arraylength, 1) := by decide +kernel
theorem dX2_add_16 : decode cX2_add 16 = .ok (.if_icmp .ge 35, 3) := by decide +kernel
theorem dX2_add_19 : decode cX2_add 19 = .ok (.aload_n 0, 1) := by decide +kernel
theorem dX2_add_20 : decode cX2_add 20 = .ok (.getfield 11, 3) := by decide +kernel
theorem dX2_add_23 : decode cX2_add 23 = .ok (.aload_n 0, 1) := by decide +kernel
theorem dX2_add_24 : decode cX2_add 24 = .ok (.getfield 18, 3) := by decide +kernel
theorem dX2_add_27 : decode cX2_add 27 = .ok (.aaload, 1) := by decide +kernel
theorem dX2_add_28 : decode cX2_add 28 = .ok (.astore_n 2, 1) := by decide +kernel
theorem dX2_add_29 : decode cX2_add 29 = .ok (.aload_n 0, 1) := by decide +kernel
theorem dX2_add_30 : decode cX2_add 30 = .ok (.getfield 11, 3) := by decide +kernel
theorem dX2_add_33 : decode cX2_add 33 = .ok (.aload_n 0, 1) := by decide +kernel
theorem dX2_add_34 : decode cX2_add 34 = .ok (.getfield 18, 3) := by decide +kernel
theorem dX2_add_37 : decode cX2_add 37 = .ok (.aload_n 1, 1) := by decide +kernel
theorem dX2_add_38 : decode cX2_add 38 = .ok (.aastore, 1) := by decide +kernel
theorem dX2_add_39 : decode cX2_add 39 = .ok (.aload_n 0, 1) := by decide +kernel
theorem dX2_add_40 : decode cX2_add 40 = .ok (.dup, 1) := by decide +kernel
theorem dX2_add_41 : decode cX2_add 41 = .ok (.getfield 18, 3) := by decide +kernel
theorem dX2_add_44 : decode cX2_add 44 = .ok (.iconst 1, 1) := by decide +kernel
theorem dX2_add_45 : decode cX2_add 45 = .ok (.iadd, 1) := by decide +kernel
theorem dX2_add_46 : decode cX2_add 46 = .ok (.putfield 18, 3) := by decide +kernel
theorem dX2_add_49 : decode cX2_add 49 = .ok (.aload_n 2, 1) := by decide +kernel
theorem dX2_add_50 : decode cX2_add 50 = .ok (.areturn, 1) := by decide +kernel
theorem dX2_add_51 : decode cX2_add 51 = .ok (.aload_n 0, 1) := by decide +kernel
theorem dX2_add_52 : decode cX2_add 52 = .ok (.getfield 11, 3) := by decide +kernel
theorem dX2_add_55 : decode cX2_add 55 = .ok (.iconst 0, 1) := by decide +kernel
theorem dX2_add_56 : decode cX2_add 56 = .ok (.aaload, 1) := by decide +kernel
theorem dX2_add_57 : decode cX2_add 57 = .ok (.astore_n 2, 1) := by decide +kernel
theorem dX2_add_58 : decode cX2_add 58 = .ok (.iconst 1, 1) := by decide +kernel
theorem dX2_add_59 : decode cX2_add 59 = .ok (.istore_n 3, 1) := by decide +kernel
theorem dX2_add_60 : decode cX2_add 60 = .ok (.iload_n 3, 1) := by decide +kernel
theorem dX2_add_61 : decode cX2_add 61 = .ok (.aload_n 0, 1) := by decide +kernel
theorem dX2_add_62 : decode cX2_add 62 = .ok (.getfield 11, 3) := by decide +kernel
theorem dX2_add_65 : decode cX2_add 65 = .ok (.arraylength, 1) := by decide +kernel
theorem dX2_add_66 : decode cX2_add 66 = .ok (.if_icmp .ge 23, 3) := by decide +kernel
theorem dX2_add_69 : decode cX2_add 69 = .ok (.aload_n 0, 1) := by decide +kernel
theorem dX2_add_70 : decode cX2_add 70 = .ok (.getfield 11, 3) := by decide +kernel
theorem dX2_add_73 : decode cX2_add 73 = .ok (.iload_n 3, 1) := by decide +kernel
theorem dX2_add_74 : decode cX2_add 74 = .ok (.iconst 1, 1) := by decide +kernel
theorem dX2_add_75 : decode cX2_add 75 = .ok (.isub, 1) := by decide +kernel
theorem dX2_add_76 : decode cX2_add 76 = .ok (.aload_n 0, 1) := by decide +kernel
theorem dX2_add_77 : decode cX2_add 77 = .ok (.getfield 11, 3) := by decide +kernel
theorem dX2_add_80 : decode cX2_add 80 = .ok (.iload_n 3, 1) := by decide +kernel
theorem dX2_add_81 : decode cX2_add 81 = .ok (.aaload, 1) := by decide +kernel
theorem dX2_add_82 : decode cX2_add 82 = .ok (.aastore, 1) := by decide +kernel
theorem dX2_add_83 : decode cX2_add 83 = .ok (.iinc 3 1, 3) := by decide +kernel
theorem dX2_add_86 : decode cX2_add 86 = .ok (.goto (-26), 3) := by decide +kernel
theorem dX2_add_89 : decode cX2_add 89 = .ok (.aload_n 0, 1) := by decide +kernel
theorem dX2_add_90 : decode cX2_add 90 = .ok (.getfield 11, 3) := by decide +kernel
theorem dX2_add_93 : decode cX2_add 93 = .ok (.aload_n 0, 1) := by decide +kernel
theorem dX2_add_94 : decode cX2_add 94 = .ok (.getfield 11, 3) := by decide +kernel
theorem dX2_add_97 : decode cX2_add 97 = .ok (.arraylength, 1) := by decide +kernel
theorem dX2_add_98 : decode cX2_add 98 = .ok (.iconst 1, 1) := by decide +kernel
theorem dX2_add_99 : decode cX2_add 99 = .ok (.isub, 1) := by decide +kernel
theorem dX2_add_100 : decode cX2_add 100 = .ok (.aload_n 1, 1) := by decide +kernel
theorem dX2_add_101 : decode cX2_add 101 = .ok (.aastore, 1) := by decide +kernel
theorem dX2_add_102 : decode cX2_add 102 = .ok (.aload_n 2, 1) := by decide +kernel
theorem dX2_add_103 : decode cX2_add 103 = .ok (.areturn, 1) := by decide +kernel
theorem dX2_takeLatest_0 : decode cX2_takeLatest 0 = .ok (.aload_n 0, 1) := by decide +kernel
theorem dX2_takeLatest_1 : decode cX2_takeLatest 1 = .ok (.getfield 18, 3) := by decide +kernel
theorem dX2_takeLatest_4 : decode cX2_takeLatest 4 = .ok (.ifCond .le 15, 3) := by decide +kernel
theorem dX2_takeLatest_7 : decode cX2_takeLatest 7 = .ok (.aload_n 0, 1) := by decide +kernel
theorem dX2_takeLatest_8 : decode cX2_takeLatest 8 = .ok (.getfield 18, 3) := by decide +kernel
theorem dX2_takeLatest_11 : decode cX2_takeLatest 11 = .ok (.aload_n 0, 1) := by decide +kernel
theorem dX2_takeLatest_12 : decode cX2_takeLatest 12 = .ok (.getfield 11, 3) := by decide +kernel
theorem dX2_takeLatest_15 : decode cX2_takeLatest 15 = .ok (.arraylength, 1) := by decide +kernel
theorem dX2_takeLatest_16 : decode cX2_takeLatest 16 = .ok (.if_icmp .le 5, 3) := by decide +kernel
theorem dX2_takeLatest_19 : decode cX2_takeLatest 19 = .ok (.aload_n 1, 1) := by decide +kernel
theorem dX2_takeLatest_20 : decode cX2_takeLatest 20 = .ok (.areturn, 1) := by decide +kernel
theorem dX2_takeLatest_21 : decode cX2_takeLatest 21 = .ok (.aload_n 0, 1) := by decide +kernel
theorem dX2_takeLatest_22 : decode cX2_takeLatest 22 = .ok (.dup, 1) := by decide +kernel
theorem dX2_takeLatest_23 : decode cX2_takeLatest 23 = .ok (.getfield 18, 3) := by decide +kernel
theorem dX2_takeLatest_26 : decode cX2_takeLatest 26 = .ok (.iconst 1, 1) := by decide +kernel
theorem dX2_takeLatest_27 : decode cX2_takeLatest 27 = .ok (.isub, 1) := by decide +kernel
theorem dX2_takeLatest_28 : decode cX2_takeLatest 28 = .ok (.putfield 18, 3) := by decide +kernel
theorem dX2_takeLatest_31 : decode cX2_takeLatest 31 = .ok (.aload_n 0, 1) := by decide +kernel
theorem dX2_takeLatest_32 : decode cX2_takeLatest 32 = .ok (.getfield 11, 3) := by decide +kernel
theorem dX2_takeLatest_35 : decode cX2_takeLatest 35 = .ok (.aload_n 0, 1) := by decide +kernel
theorem dX2_takeLatest_36 : decode cX2_takeLatest 36 = .ok (.getfield 18, 3) := by decide +kernel
theorem dX2_takeLatest_39 : decode cX2_takeLatest 39 = .ok (.aaload, 1) := by decide +kernel
theorem dX2_takeLatest_40 : decode cX2_takeLatest 40 = .ok (.astore_n 2, 1) := by decide +kernel
theorem dX2_takeLatest_41 : decode cX2_takeLatest 41 = .ok (.aload_n 0, 1) := by decide +kernel
theorem dX2_takeLatest_42 : decode cX2_takeLatest 42 = .ok (.getfield 11, 3) := by decide +kernel
theorem dX2_takeLatest_45 : decode cX2_takeLatest 45 = .ok (.aload_n 0, 1) := by decide +kernel
theorem dX2_takeLatest_46 : decode cX2_takeLatest 46 = .ok (.getfield 18, 3) := by decide +kernel
theorem dX2_takeLatest_49 : decode cX2_takeLatest 49 = .ok (.aload_n 1, 1) := by decide +kernel
theorem dX2_takeLatest_50 : decode cX2_takeLatest 50 = .ok (.aastore, 1) := by decide +kernel
theorem dX2_takeLatest_51 : decode cX2_takeLatest 51 = .ok (.aload_n 2, 1) := by decide +kernel
theorem dX2_takeLatest_52 : decode cX2_takeLatest 52 = .ok (.areturn, 1) := by decide +kernel
theorem dX5_init_0 : decode cX5_init 0 = .ok (.aload_n 0, 1) := by decide +kernel
theorem dX5_init_1 : decode cX5_init 1 = .ok (.invokespecial 1, 3) := by decide +kernel
theorem dX5_init_4 : decode cX5_init 4 = .ok (.aload_n 0, 1) := by decide +kernel
theorem dX5_init_5 : decode cX5_init 5 = .ok (.new 7, 3) := by decide +kernel
theorem dX5_init_8 : decode cX5_init 8 = .ok (.dup, 1) := by decide +kernel
theorem dX5_init_9 : decode cX5_init 9 = .ok (.invokespecial 9, 3) := by decide +kernel
theorem dX5_init_12 : decode cX5_init 12 = .ok (.putfield 10, 3) := by decide +kernel
theorem dX5_init_15 : decode cX5_init 15 = .ok (.aload_n 0, 1) := by decide +kernel
theorem dX5_init_16 : decode cX5_init 16 = .ok (.new 7, 3) := by decide +kernel
theorem dX5_init_19 : decode cX5_init 19 = .ok (.dup, 1) := by decide +kernel
theorem dX5_init_20 : decode cX5_init 20 = .ok (.invokespecial 9, 3) := by decide +kernel
theorem dX5_init_23 : decode cX5_init 23 = .ok (.putfield 16, 3) := by decide +kernel
theorem dX5_init_26 : decode cX5_init 26 = .ok (.aload_n 0, 1) := by decide +kernel
theorem dX5_init_27 : decode cX5_init 27 = .ok (.new 7, 3) := by decide +kernel
theorem dX5_init_30 : decode cX5_init 30 = .ok (.dup, 1) := by decide +kernel
theorem dX5_init_31 : decode cX5_init 31 = .ok (.invokespecial 9, 3) := by decide +kernel
theorem dX5_init_34 : decode cX5_init 34 = .ok (.putfield 19, 3) := by decide +kernel
theorem dX5_init_37 : decode cX5_init 37 = .ok (.aload_n 0, 1) := by decide +kernel
theorem dX5_init_38 : decode cX5_init 38 = .ok (.new 22, 3) := by decide +kernel
theorem dX5_init_41 : decode cX5_init 41 = .ok (.dup, 1) := by decide +kernel
theorem dX5_init_42 : decode cX5_init 42 = .ok (.invokespecial 24, 3) := by decide +kernel
theorem dX5_init_45 : decode cX5_init 45 = .ok (.putfield 25, 3) := by decide +kernel
theorem dX5_init_48 : decode cX5_init 48 = .ok (.aload_n 0, 1) := by decide +kernel
theorem dX5_init_49 : decode cX5_init 49 = .ok (.new 29, 3) := by decide +kernel
theorem dX5_init_52 : decode cX5_init 52 = .ok (.dup, 1) := by decide +kernel
theorem dX5_init_53 : decode cX5_init 53 = .ok (.invokespecial 31, 3) := by decide +kernel
theorem dX5_init_56 : decode cX5_init 56 = .ok (.putfield 32, 3) := by decide +kernel
theorem dX5_init_59 : decode cX5_init 59 = .ok (.return_, 1) := by decide +kernel
theorem dX5_bill_0 : decode cX5_bill 0 = .ok (.aload_n 0, 1) := by decide +kernel
theorem dX5_bill_1 : decode cX5_bill 1 = .ok (.invokevirtual 36, 3) := by decide +kernel
theorem dX5_bill_4 : decode cX5_bill 4 = .ok (.aload_n 0, 1) := by decide +kernel
theorem dX5_bill_5 : decode cX5_bill 5 = .ok (.aload_n 0, 1) := by decide +kernel
theorem dX5_bill_6 : decode cX5_bill 6 = .ok (.getfield 10, 3) := by decide +kernel
theorem dX5_bill_9 : decode cX5_bill 9 = .ok (.iload_n 1, 1) := by decide +kernel
theorem dX5_bill_10 : decode cX5_bill 10 = .ok (.iload_n 2, 1) := by decide +kernel
theorem dX5_bill_11 : decode cX5_bill 11 = .ok (.iload_n 3, 1) := by decide +kernel
theorem dX5_bill_12 : decode cX5_bill 12 = .ok (.iload 4, 2) := by decide +kernel
theorem dX5_bill_14 : decode cX5_bill 14 = .ok (.invokevirtual 39, 3) := by decide +kernel
theorem dX5_bill_17 : decode cX5_bill 17 = .ok (.invokevirtual 43, 3) := by decide +kernel
theorem dX5_bill_20 : decode cX5_bill 20 = .ok (.ireturn, 1) := by decide +kernel
theorem dX5_pay_0 : decode cX5_pay 0 = .ok (.aload_n 0, 1) := by decide +kernel
theorem dX5_pay_1 : decode cX5_pay 1 = .ok (.invokevirtual 36, 3) := by decide +kernel
theorem dX5_pay_4 : decode cX5_pay 4 = .ok (.aload_n 0, 1) := by decide +kernel
theorem dX5_pay_5 : decode cX5_pay 5 = .ok (.aload_n 0, 1) := by decide +kernel
theorem dX5_pay_6 : decode cX5_pay 6 = .ok (.getfield 10, 3) := by decide +kernel
theorem dX5_pay_9 : decode cX5_pay 9 = .ok (.iload_n 1, 1) := by decide +kernel
theorem dX5_pay_10 : decode cX5_pay 10 = .ok (.iload_n 2, 1) := by decide +kernel
theorem dX5_pay_11 : decode cX5_pay 11 = .ok (.invokevirtual 47, 3) := by decide +kernel
theorem dX5_pay_14 : decode cX5_pay 14 = .ok (.invokevirtual 43, 3) := by decide +kernel
theorem dX5_pay_17 : decode cX5_pay 17 = .ok (.ireturn, 1) := by decide +kernel
theorem dX5_payBill_0 : decode cX5_payBill 0 = .ok (.aload_n 0, 1) := by decide +kernel
theorem dX5_payBill_1 : decode cX5_payBill 1 = .ok (.invokevirtual 36, 3) := by decide +kernel
theorem dX5_payBill_4 : decode cX5_payBill 4 = .ok (.aload_n 0, 1) := by decide +kernel
theorem dX5_payBill_5 : decode cX5_payBill 5 = .ok (.aload_n 0, 1) := by decide +kernel
theorem dX5_payBill_6 : decode cX5_payBill 6 = .ok (.getfield 10, 3) := by decide +kernel
theorem dX5_payBill_9 : decode cX5_payBill 9 = .ok (.iload_n 1, 1) := by decide +kernel
theorem dX5_payBill_10 : decode cX5_payBill 10 = .ok (.iload_n 2, 1) := by decide +kernel
theorem dX5_payBill_11 : decode cX5_payBill 11 = .ok (.invokevirtual 51, 3) := by decide +kernel
theorem dX5_payBill_14 : decode cX5_payBill 14 = .ok (.invokevirtual 43, 3) := by decide +kernel
theorem dX5_payBill_17 : decode cX5_payBill 17 = .ok (.ireturn, 1) := by decide +kernel
theorem dX5_payBack_0 : decode cX5_payBack 0 = .ok (.aload_n 0, 1) := by decide +kernel
theorem dX5_payBack_1 : decode cX5_payBack 1 = .ok (.invokevirtual 36, 3) := by decide +kernel
theorem dX5_payBack_4 : decode cX5_payBack 4 = .ok (.aload_n 0, 1) := by decide +kernel
theorem dX5_payBack_5 : decode cX5_payBack 5 = .ok (.aload_n 0, 1) := by decide +kernel
theorem dX5_payBack_6 : decode cX5_payBack 6 = .ok (.getfield 10, 3) := by decide +kernel
theorem dX5_payBack_9 : decode cX5_payBack 9 = .ok (.iload_n 1, 1) := by decide +kernel
theorem dX5_payBack_10 : decode cX5_payBack 10 = .ok (.invokevirtual 54, 3) := by decide +kernel
theorem dX5_payBack_13 : decode cX5_payBack 13 = .ok (.invokevirtual 43, 3) := by decide +kernel
theorem dX5_payBack_16 : decode cX5_payBack 16 = .ok (.ireturn, 1) := by decide +kernel
theorem dX5_pass_0 : decode cX5_pass 0 = .ok (.aload_n 0, 1) := by decide +kernel
theorem dX5_pass_1 : decode cX5_pass 1 = .ok (.invokevirtual 36, 3) := by decide +kernel
theorem dX5_pass_4 : decode cX5_pass 4 = .ok (.aload_n 0, 1) := by decide +kernel
theorem dX5_pass_5 : decode cX5_pass 5 = .ok (.aload_n 0, 1) := by decide +kernel
theorem dX5_pass_6 : decode cX5_pass 6 = .ok (.getfield 10, 3) := by decide +kernel
theorem dX5_pass_9 : decode cX5_pass 9 = .ok (.iload_n 1, 1) := by decide +kernel
theorem dX5_pass_10 : decode cX5_pass 10 = .ok (.invokevirtual 57, 3) := by decide +kernel
theorem dX5_pass_13 : decode cX5_pass 13 = .ok (.invokevirtual 43, 3) := by decide +kernel
theorem dX5_pass_16 : decode cX5_pass 16 = .ok (.ireturn, 1) := by decide +kernel
theorem dX5_remind_0 : decode cX5_remind 0 = .ok (.aload_n 0, 1) := by decide +kernel
theorem dX5_remind_1 : decode cX5_remind 1 = .ok (.invokevirtual 36, 3) := by decide +kernel
theorem dX5_remind_4 : decode cX5_remind 4 = .ok (.aload_n 0, 1) := by decide +kernel
theorem dX5_remind_5 : decode cX5_remind 5 = .ok (.aload_n 0, 1) := by decide +kernel
theorem dX5_remind_6 : decode cX5_remind 6 = .ok (.getfield 10, 3) := by decide +kernel
theorem dX5_remind_9 : decode cX5_remind 9 = .ok (.invokevirtual 60, 3) := by decide +kernel
theorem dX5_remind_12 : decode cX5_remind 12 = .ok (.invokevirtual 43, 3) := by decide +kernel
theorem dX5_remind_15 : decode cX5_remind 15 = .ok (.ireturn, 1) := by decide +kernel
theorem dX5_writeOff_0 : decode cX5_writeOff 0 = .ok (.aload_n 0, 1) := by decide +kernel
theorem dX5_writeOff_1 : decode cX5_writeOff 1 = .ok (.invokevirtual 36, 3) := by decide +kernel
theorem dX5_writeOff_4 : decode cX5_writeOff 4 = .ok (.aload_n 0, 1) := by decide +kernel
theorem dX5_writeOff_5 : decode cX5_writeOff 5 = .ok (.aload_n 0, 1) := by decide +kernel
theorem dX5_writeOff_6 : decode cX5_writeOff 6 = .ok (.getfield 10, 3) := by decide +kernel
theorem dX5_writeOff_9 : decode cX5_writeOff 9 = .ok (.iload_n 1, 1) := by decide +kernel
theorem dX5_writeOff_10 : decode cX5_writeOff 10 = .ok (.invokevirtual 64, 3) := by decide +kernel
theorem dX5_writeOff_13 : decode cX5_writeOff 13 = .ok (.invokevirtual 43, 3) := by decide +kernel
theorem dX5_writeOff_16 : decode cX5_writeOff 16 = .ok (.ireturn, 1) := by decide +kernel
theorem dX5_closeYear_0 : decode cX5_closeYear 0 = .ok (.aload_n 0, 1) := by decide +kernel
theorem dX5_closeYear_1 : decode cX5_closeYear 1 = .ok (.invokevirtual 36, 3) := by decide +kernel
theorem dX5_closeYear_4 : decode cX5_closeYear 4 = .ok (.aload_n 0, 1) := by decide +kernel
theorem dX5_closeYear_5 : decode cX5_closeYear 5 = .ok (.aload_n 0, 1) := by decide +kernel
theorem dX5_closeYear_6 : decode cX5_closeYear 6 = .ok (.getfield 10, 3) := by decide +kernel
theorem dX5_closeYear_9 : decode cX5_closeYear 9 = .ok (.iload_n 1, 1) := by decide +kernel
theorem dX5_closeYear_10 : decode cX5_closeYear 10 = .ok (.invokevirtual 67, 3) := by decide +kernel
theorem dX5_closeYear_13 : decode cX5_closeYear 13 = .ok (.invokevirtual 43, 3) := by decide +kernel
theorem dX5_closeYear_16 : decode cX5_closeYear 16 = .ok (.ireturn, 1) := by decide +kernel
theorem dX5_set_0 : decode cX5_set 0 = .ok (.aload_n 0, 1) := by decide +kernel
theorem dX5_set_1 : decode cX5_set 1 = .ok (.invokevirtual 36, 3) := by decide +kernel
theorem dX5_set_4 : decode cX5_set 4 = .ok (.aload_n 0, 1) := by decide +kernel
theorem dX5_set_5 : decode cX5_set 5 = .ok (.aload_n 0, 1) := by decide +kernel
theorem dX5_set_6 : decode cX5_set 6 = .ok (.getfield 10, 3) := by decide +kernel
theorem dX5_set_9 : decode cX5_set 9 = .ok (.getfield 70, 3) := by decide +kernel
theorem dX5_set_12 : decode cX5_set 12 = .ok (.iload_n 1, 1) := by decide +kernel
theorem dX5_set_13 : decode cX5_set 13 = .ok (.iload_n 2, 1) := by decide +kernel
theorem dX5_set_14 : decode cX5_set 14 = .ok (.invokevirtual 74, 3) := by decide +kernel
theorem dX5_set_17 : decode cX5_set 17 = .ok (.invokevirtual 43, 3) := by decide +kernel
theorem dX5_set_20 : decode cX5_set 20 = .ok (.ireturn, 1) := by decide +kernel
theorem dX5_undo_0 : decode cX5_undo 0 = .ok (.aload_n 0, 1) := by decide +kernel
theorem dX5_undo_1 : decode cX5_undo 1 = .ok (.getfield 25, 3) := by decide +kernel
theorem dX5_undo_4 : decode cX5_undo 4 = .ok (.getfield 103, 3) := by decide +kernel
theorem dX5_undo_7 : decode cX5_undo 7 = .ok (.ifCond .ne 6, 3) := by decide +kernel
theorem dX5_undo_10 : decode cX5_undo 10 = .ok (.bipush (-5), 2) := by decide +kernel
theorem dX5_undo_12 : decode cX5_undo 12 = .ok (.ireturn, 1) := by decide +kernel
theorem dX5_undo_13 : decode cX5_undo 13 = .ok (.aload_n 0, 1) := by decide +kernel
theorem dX5_undo_14 : decode cX5_undo 14 = .ok (.aload_n 0, 1) := by decide +kernel
theorem dX5_undo_15 : decode cX5_undo 15 = .ok (.getfield 25, 3) := by decide +kernel
theorem dX5_undo_18 : decode cX5_undo 18 = .ok (.aload_n 0, 1) := by decide +kernel
theorem dX5_undo_19 : decode cX5_undo 19 = .ok (.getfield 10, 3) := by decide +kernel
theorem dX5_undo_22 : decode cX5_undo 22 = .ok (.invokevirtual 106, 3) := by decide +kernel
theorem dX5_undo_25 : decode cX5_undo 25 = .ok (.putfield 10, 3) := by decide +kernel
theorem dX5_undo_28 : decode cX5_undo 28 = .ok (.aload_n 0, 1) := by decide +kernel
theorem dX5_undo_29 : decode cX5_undo 29 = .ok (.getfield 25, 3) := by decide +kernel
theorem dX5_undo_32 : decode cX5_undo 32 = .ok (.getfield 103, 3) := by decide +kernel
theorem dX5_undo_35 : decode cX5_undo 35 = .ok (.ireturn, 1) := by decide +kernel
theorem dX5_billOf_0 : decode cX5_billOf 0 = .ok (.aload_n 0, 1) := by decide +kernel
theorem dX5_billOf_1 : decode cX5_billOf 1 = .ok (.getfield 10, 3) := by decide +kernel
theorem dX5_billOf_4 : decode cX5_billOf 4 = .ok (.iload_n 1, 1) := by decide +kernel
theorem dX5_billOf_5 : decode cX5_billOf 5 = .ok (.invokevirtual 120, 3) := by decide +kernel
theorem dX5_billOf_8 : decode cX5_billOf 8 = .ok (.astore_n 3, 1) := by decide +kernel
theorem dX5_billOf_9 : decode cX5_billOf 9 = .ok (.aload_n 3, 1) := by decide +kernel
theorem dX5_billOf_10 : decode cX5_billOf 10 = .ok (.ifnonnull 5, 3) := by decide +kernel
theorem dX5_billOf_13 : decode cX5_billOf 13 = .ok (.iconst (-1), 1) := by decide +kernel
theorem dX5_billOf_14 : decode cX5_billOf 14 = .ok (.ireturn, 1) := by decide +kernel
theorem dX5_billOf_15 : decode cX5_billOf 15 = .ok (.iload_n 2, 1) := by decide +kernel
theorem dX5_billOf_16 : decode cX5_billOf 16 = .ok (.tableswitch 157 0 13 #[72, 77, 82, 87, 92, 97, 102, 107, 112, 117, 122, 127, 132, 137], 72) := by decide +kernel
theorem dX5_billOf_88 : decode cX5_billOf 88 = .ok (.aload_n 3, 1) := by decide +kernel
theorem dX5_billOf_89 : decode cX5_billOf 89 = .ok (.getfield 124, 3) := by decide +kernel
theorem dX5_billOf_92 : decode cX5_billOf 92 = .ok (.ireturn, 1) := by decide +kernel
theorem dX5_billOf_93 : decode cX5_billOf 93 = .ok (.aload_n 3, 1) := by decide +kernel
theorem dX5_billOf_94 : decode cX5_billOf 94 = .ok (.getfield 129, 3) := by decide +kernel
theorem dX5_billOf_97 : decode cX5_billOf 97 = .ok (.ireturn, 1) := by decide +kernel
theorem dX5_billOf_98 : decode cX5_billOf 98 = .ok (.aload_n 3, 1) := by decide +kernel
theorem dX5_billOf_99 : decode cX5_billOf 99 = .ok (.getfield 132, 3) := by decide +kernel
theorem dX5_billOf_102 : decode cX5_billOf 102 = .ok (.ireturn, 1) := by decide +kernel
theorem dX5_billOf_103 : decode cX5_billOf 103 = .ok (.aload_n 3, 1) := by decide +kernel
theorem dX5_billOf_104 : decode cX5_billOf 104 = .ok (.getfield 135, 3) := by decide +kernel
theorem dX5_billOf_107 : decode cX5_billOf 107 = .ok (.ireturn, 1) := by decide +kernel
theorem dX5_billOf_108 : decode cX5_billOf 108 = .ok (.aload_n 3, 1) := by decide +kernel
theorem dX5_billOf_109 : decode cX5_billOf 109 = .ok (.getfield 138, 3) := by decide +kernel
theorem dX5_billOf_112 : decode cX5_billOf 112 = .ok (.ireturn, 1) := by decide +kernel
theorem dX5_billOf_113 : decode cX5_billOf 113 = .ok (.aload_n 3, 1) := by decide +kernel
theorem dX5_billOf_114 : decode cX5_billOf 114 = .ok (.invokevirtual 139, 3) := by decide +kernel
theorem dX5_billOf_117 : decode cX5_billOf 117 = .ok (.ireturn, 1) := by decide +kernel
theorem dX5_billOf_118 : decode cX5_billOf 118 = .ok (.aload_n 3, 1) := by decide +kernel
theorem dX5_billOf_119 : decode cX5_billOf 119 = .ok (.getfield 142, 3) := by decide +kernel
theorem dX5_billOf_122 : decode cX5_billOf 122 = .ok (.ireturn, 1) := by decide +kernel
theorem dX5_billOf_123 : decode cX5_billOf 123 = .ok (.aload_n 3, 1) := by decide +kernel
theorem dX5_billOf_124 : decode cX5_billOf 124 = .ok (.getfield 145, 3) := by decide +kernel
theorem dX5_billOf_127 : decode cX5_billOf 127 = .ok (.ireturn, 1) := by decide +kernel
theorem dX5_billOf_128 : decode cX5_billOf 128 = .ok (.aload_n 3, 1) := by decide +kernel
theorem dX5_billOf_129 : decode cX5_billOf 129 = .ok (.getfield 148, 3) := by decide +kernel
theorem dX5_billOf_132 : decode cX5_billOf 132 = .ok (.ireturn, 1) := by decide +kernel
theorem dX5_billOf_133 : decode cX5_billOf 133 = .ok (.aload_n 3, 1) := by decide +kernel
theorem dX5_billOf_134 : decode cX5_billOf 134 = .ok (.getfield 151, 3) := by decide +kernel
theorem dX5_billOf_137 : decode cX5_billOf 137 = .ok (.ireturn, 1) := by decide +kernel
theorem dX5_billOf_138 : decode cX5_billOf 138 = .ok (.aload_n 3, 1) := by decide +kernel
theorem dX5_billOf_139 : decode cX5_billOf 139 = .ok (.invokevirtual 154, 3) := by decide +kernel
theorem dX5_billOf_142 : decode cX5_billOf 142 = .ok (.ireturn, 1) := by decide +kernel
theorem dX5_billOf_143 : decode cX5_billOf 143 = .ok (.aload_n 3, 1) := by decide +kernel
theorem dX5_billOf_144 : decode cX5_billOf 144 = .ok (.getfield 157, 3) := by decide +kernel
theorem dX5_billOf_147 : decode cX5_billOf 147 = .ok (.ireturn, 1) := by decide +kernel
theorem dX5_billOf_148 : decode cX5_billOf 148 = .ok (.aload_n 3, 1) := by decide +kernel
theorem dX5_billOf_149 : decode cX5_billOf 149 = .ok (.getfield 160, 3) := by decide +kernel
theorem dX5_billOf_152 : decode cX5_billOf 152 = .ok (.ireturn, 1) := by decide +kernel
theorem dX5_billOf_153 : decode cX5_billOf 153 = .ok (.aload_n 3, 1) := by decide +kernel
theorem dX5_billOf_154 : decode cX5_billOf 154 = .ok (.aload_n 0, 1) := by decide +kernel
theorem dX5_billOf_155 : decode cX5_billOf 155 = .ok (.getfield 10, 3) := by decide +kernel
theorem dX5_billOf_158 : decode cX5_billOf 158 = .ok (.getfield 117, 3) := by decide +kernel
theorem dX5_billOf_161 : decode cX5_billOf 161 = .ok (.invokevirtual 163, 3) := by decide +kernel
theorem dX5_billOf_164 : decode cX5_billOf 164 = .ok (.ifCond .eq 7, 3) := by decide +kernel
theorem dX5_billOf_167 : decode cX5_billOf 167 = .ok (.iconst 1, 1) := by decide +kernel
theorem dX5_billOf_168 : decode cX5_billOf 168 = .ok (.goto 4, 3) := by decide +kernel
theorem dX5_billOf_171 : decode cX5_billOf 171 = .ok (.iconst 0, 1) := by decide +kernel
theorem dX5_billOf_172 : decode cX5_billOf 172 = .ok (.ireturn, 1) := by decide +kernel
theorem dX5_billOf_173 : decode cX5_billOf 173 = .ok (.bipush (-2), 2) := by decide +kernel
theorem dX5_billOf_175 : decode cX5_billOf 175 = .ok (.ireturn, 1) := by decide +kernel
theorem dX5_customer_0 : decode cX5_customer 0 = .ok (.iload_n 1, 1) := by decide +kernel
theorem dX5_customer_1 : decode cX5_customer 1 = .ok (.invokestatic 167, 3) := by decide +kernel
theorem dX5_customer_4 : decode cX5_customer 4 = .ok (.ifCond .ne 5, 3) := by decide +kernel
theorem dX5_customer_7 : decode cX5_customer 7 = .ok (.iconst (-1), 1) := by decide +kernel
theorem dX5_customer_8 : decode cX5_customer 8 = .ok (.ireturn, 1) := by decide +kernel
theorem dX5_customer_9 : decode cX5_customer 9 = .ok (.iload_n 2, 1) := by decide +kernel
theorem dX5_customer_10 : decode cX5_customer 10 = .ok (.tableswitch 119 0 6 #[42, 53, 63, 73, 82, 100, 110], 42) := by decide +kernel
theorem dX5_customer_52 : decode cX5_customer 52 = .ok (.aload_n 0, 1) := by decide +kernel
theorem dX5_customer_53 : decode cX5_customer 53 = .ok (.getfield 10, 3) := by decide +kernel
theorem dX5_customer_56 : decode cX5_customer 56 = .ok (.iload_n 1, 1) := by decide +kernel
theorem dX5_customer_57 : decode cX5_customer 57 = .ok (.bipush (-9), 2) := by decide +kernel
theorem dX5_customer_59 : decode cX5_customer 59 = .ok (.invokevirtual 170, 3) := by decide +kernel
theorem dX5_customer_62 : decode cX5_customer 62 = .ok (.ireturn, 1) := by decide +kernel
theorem dX5_customer_63 : decode cX5_customer 63 = .ok (.aload_n 0, 1) := by decide +kernel
theorem dX5_customer_64 : decode cX5_customer 64 = .ok (.getfield 10, 3) := by decide +kernel
theorem dX5_customer_67 : decode cX5_customer 67 = .ok (.iload_n 1, 1) := by decide +kernel
theorem dX5_customer_68 : decode cX5_customer 68 = .ok (.iconst 0, 1) := by decide +kernel
theorem dX5_customer_69 : decode cX5_customer 69 = .ok (.invokevirtual 170, 3) := by decide +kernel
theorem dX5_customer_72 : decode cX5_customer 72 = .ok (.ireturn, 1) := by decide +kernel
theorem dX5_customer_73 : decode cX5_customer 73 = .ok (.aload_n 0, 1) := by decide +kernel
theorem dX5_customer_74 : decode cX5_customer 74 = .ok (.getfield 10, 3) := by decide +kernel
theorem dX5_customer_77 : decode cX5_customer 77 = .ok (.iload_n 1, 1) := by decide +kernel
theorem dX5_customer_78 : decode cX5_customer 78 = .ok (.iconst 0, 1) := by decide +kernel
theorem dX5_customer_79 : decode cX5_customer 79 = .ok (.invokevirtual 173, 3) := by decide +kernel
theorem dX5_customer_82 : decode cX5_customer 82 = .ok (.ireturn, 1) := by decide +kernel
theorem dX5_customer_83 : decode cX5_customer 83 = .ok (.aload_n 0, 1) := by decide +kernel
theorem dX5_customer_84 : decode cX5_customer 84 = .ok (.getfield 10, 3) := by decide +kernel
theorem dX5_customer_87 : decode cX5_customer 87 = .ok (.iload_n 1, 1) := by decide +kernel
theorem dX5_customer_88 : decode cX5_customer 88 = .ok (.invokevirtual 176, 3) := by decide +kernel
theorem dX5_customer_91 : decode cX5_customer 91 = .ok (.ireturn, 1) := by decide +kernel
theorem dX5_customer_92 : decode cX5_customer 92 = .ok (.aload_n 0, 1) := by decide +kernel
theorem dX5_customer_93 : decode cX5_customer 93 = .ok (.getfield 10, 3) := by decide +kernel
theorem dX5_customer_96 : decode cX5_customer 96 = .ok (.iload_n 1, 1) := by decide +kernel
theorem dX5_customer_97 : decode cX5_customer 97 = .ok (.invokevirtual 179, 3) := by decide +kernel
theorem dX5_customer_100 : decode cX5_customer 100 = .ok (.aload_n 0, 1) := by decide +kernel
theorem dX5_customer_101 : decode cX5_customer 101 = .ok (.getfield 10, 3) := by decide +kernel
theorem dX5_customer_104 : decode cX5_customer 104 = .ok (.iload_n 1, 1) := by decide +kernel
theorem dX5_customer_105 : decode cX5_customer 105 = .ok (.invokevirtual 176, 3) := by decide +kernel
theorem dX5_customer_108 : decode cX5_customer 108 = .ok (.iadd, 1) := by decide +kernel
theorem dX5_customer_109 : decode cX5_customer 109 = .ok (.ireturn, 1) := by decide +kernel
theorem dX5_customer_110 : decode cX5_customer 110 = .ok (.aload_n 0, 1) := by decide +kernel
theorem dX5_customer_111 : decode cX5_customer 111 = .ok (.getfield 10, 3) := by decide +kernel
theorem dX5_customer_114 : decode cX5_customer 114 = .ok (.iload_n 1, 1) := by decide +kernel
theorem dX5_customer_115 : decode cX5_customer 115 = .ok (.iconst 2, 1) := by decide +kernel
theorem dX5_customer_116 : decode cX5_customer 116 = .ok (.invokevirtual 173, 3) := by decide +kernel
theorem dX5_customer_119 : decode cX5_customer 119 = .ok (.ireturn, 1) := by decide +kernel
theorem dX5_customer_120 : decode cX5_customer 120 = .ok (.aload_n 0, 1) := by decide +kernel
theorem dX5_customer_121 : decode cX5_customer 121 = .ok (.getfield 10, 3) := by decide +kernel
theorem dX5_customer_124 : decode cX5_customer 124 = .ok (.iload_n 1, 1) := by decide +kernel
theorem dX5_customer_125 : decode cX5_customer 125 = .ok (.invokevirtual 182, 3) := by decide +kernel
theorem dX5_customer_128 : decode cX5_customer 128 = .ok (.ireturn, 1) := by decide +kernel
theorem dX5_customer_129 : decode cX5_customer 129 = .ok (.bipush (-2), 2) := by decide +kernel
theorem dX5_customer_131 : decode cX5_customer 131 = .ok (.ireturn, 1) := by decide +kernel
theorem dX5_tax_0 : decode cX5_tax 0 = .ok (.iload_n 1, 1) := by decide +kernel
theorem dX5_tax_1 : decode cX5_tax 1 = .ok (.invokestatic 185, 3) := by decide +kernel
theorem dX5_tax_4 : decode cX5_tax 4 = .ok (.ifCond .ne 5, 3) := by decide +kernel
theorem dX5_tax_7 : decode cX5_tax 7 = .ok (.iconst (-1), 1) := by decide +kernel
theorem dX5_tax_8 : decode cX5_tax 8 = .ok (.ireturn, 1) := by decide +kernel
theorem dX5_tax_9 : decode cX5_tax 9 = .ok (.iload_n 2, 1) := by decide +kernel
theorem dX5_tax_10 : decode cX5_tax 10 = .ok (.ifCond .lt 8, 3) := by decide +kernel
theorem dX5_tax_13 : decode cX5_tax 13 = .ok (.iload_n 2, 1) := by decide +kernel
theorem dX5_tax_14 : decode cX5_tax 14 = .ok (.iconst 2, 1) := by decide +kernel
theorem dX5_tax_15 : decode cX5_tax 15 = .ok (.if_icmp .le 6, 3) := by decide +kernel
theorem dX5_tax_18 : decode cX5_tax 18 = .ok (.bipush (-2), 2) := by decide +kernel
theorem dX5_tax_20 : decode cX5_tax 20 = .ok (.ireturn, 1) := by decide +kernel
theorem dX5_tax_21 : decode cX5_tax 21 = .ok (.iload_n 2, 1) := by decide +kernel
theorem dX5_tax_22 : decode cX5_tax 22 = .ok (.iconst 2, 1) := by decide +kernel
theorem dX5_tax_23 : decode cX5_tax 23 = .ok (.if_icmp .ne 14, 3) := by decide +kernel
theorem dX5_tax_26 : decode cX5_tax 26 = .ok (.aload_n 0, 1) := by decide +kernel
theorem dX5_tax_27 : decode cX5_tax 27 = .ok (.getfield 10, 3) := by decide +kernel
theorem dX5_tax_30 : decode cX5_tax 30 = .ok (.iload_n 1, 1) := by decide +kernel
theorem dX5_tax_31 : decode cX5_tax 31 = .ok (.invokevirtual 188, 3) := by decide +kernel
theorem dX5_tax_34 : decode cX5_tax 34 = .ok (.goto 12, 3) := by decide +kernel
theorem dX5_tax_37 : decode cX5_tax 37 = .ok (.aload_n 0, 1) := by decide +kernel
theorem dX5_tax_38 : decode cX5_tax 38 = .ok (.getfield 10, 3) := by decide +kernel
theorem dX5_tax_41 : decode cX5_tax 41 = .ok (.iload_n 1, 1) := by decide +kernel
theorem dX5_tax_42 : decode cX5_tax 42 = .ok (.iload_n 2, 1) := by decide +kernel
theorem dX5_tax_43 : decode cX5_tax 43 = .ok (.invokevirtual 191, 3) := by decide +kernel
theorem dX5_tax_46 : decode cX5_tax 46 = .ok (.ireturn, 1) := by decide +kernel
theorem dX5_reason_0 : decode cX5_reason 0 = .ok (.aload_n 0, 1) := by decide +kernel
theorem dX5_reason_1 : decode cX5_reason 1 = .ok (.getfield 10, 3) := by decide +kernel
theorem dX5_reason_4 : decode cX5_reason 4 = .ok (.iload_n 1, 1) := by decide +kernel
theorem dX5_reason_5 : decode cX5_reason 5 = .ok (.invokevirtual 120, 3) := by decide +kernel
theorem dX5_reason_8 : decode cX5_reason 8 = .ok (.astore_n 2, 1) := by decide +kernel
theorem dX5_reason_9 : decode cX5_reason 9 = .ok (.aload_n 2, 1) := by decide +kernel
theorem dX5_reason_10 : decode cX5_reason 10 = .ok (.ifnonnull 5, 3) := by decide +kernel
theorem dX5_reason_13 : decode cX5_reason 13 = .ok (.iconst (-1), 1) := by decide +kernel
theorem dX5_reason_14 : decode cX5_reason 14 = .ok (.ireturn, 1) := by decide +kernel
theorem dX5_reason_15 : decode cX5_reason 15 = .ok (.aload_n 2, 1) := by decide +kernel
theorem dX5_reason_16 : decode cX5_reason 16 = .ok (.aload_n 0, 1) := by decide +kernel
theorem dX5_reason_17 : decode cX5_reason 17 = .ok (.getfield 10, 3) := by decide +kernel
theorem dX5_reason_20 : decode cX5_reason 20 = .ok (.getfield 117, 3) := by decide +kernel
theorem dX5_reason_23 : decode cX5_reason 23 = .ok (.aload_n 0, 1) := by decide +kernel
theorem dX5_reason_24 : decode cX5_reason 24 = .ok (.getfield 10, 3) := by decide +kernel
theorem dX5_reason_27 : decode cX5_reason 27 = .ok (.getfield 70, 3) := by decide +kernel
theorem dX5_reason_30 : decode cX5_reason 30 = .ok (.invokevirtual 194, 3) := by decide +kernel
theorem dX5_reason_33 : decode cX5_reason 33 = .ok (.invokevirtual 197, 3) := by decide +kernel
theorem dX5_reason_36 : decode cX5_reason 36 = .ok (.ireturn, 1) := by decide +kernel
theorem dX5_ifPaid_0 : decode cX5_ifPaid 0 = .ok (.iload_n 1, 1) := by decide +kernel
theorem dX5_ifPaid_1 : decode cX5_ifPaid 1 = .ok (.invokestatic 167, 3) := by decide +kernel
theorem dX5_ifPaid_4 : decode cX5_ifPaid 4 = .ok (.ifCond .ne 5, 3) := by decide +kernel
theorem dX5_ifPaid_7 : decode cX5_ifPaid 7 = .ok (.iconst (-1), 1) := by decide +kernel
theorem dX5_ifPaid_8 : decode cX5_ifPaid 8 = .ok (.ireturn, 1) := by decide +kernel
theorem dX5_ifPaid_9 : decode cX5_ifPaid 9 = .ok (.iload_n 2, 1) := by decide +kernel
theorem dX5_ifPaid_10 : decode cX5_ifPaid 10 = .ok (.invokestatic 200, 3) := by decide +kernel
theorem dX5_ifPaid_13 : decode cX5_ifPaid 13 = .ok (.ifCond .eq 12, 3) := by decide +kernel
theorem dX5_ifPaid_16 : decode cX5_ifPaid 16 = .ok (.iload_n 3, 1) := by decide +kernel
theorem dX5_ifPaid_17 : decode cX5_ifPaid 17 = .ok (.ifCond .lt 8, 3) := by decide +kernel
theorem dX5_ifPaid_20 : decode cX5_ifPaid 20 = .ok (.iload_n 3, 1) := by decide +kernel
theorem dX5_ifPaid_21 : decode cX5_ifPaid 21 = .ok (.iconst 3, 1) := by decide +kernel
theorem dX5_ifPaid_22 : decode cX5_ifPaid 22 = .ok (.if_icmp .le 6, 3) := by decide +kernel
theorem dX5_ifPaid_25 : decode cX5_ifPaid 25 = .ok (.bipush (-2), 2) := by decide +kernel
theorem dX5_ifPaid_27 : decode cX5_ifPaid 27 = .ok (.ireturn, 1) := by decide +kernel
theorem dX5_ifPaid_28 : decode cX5_ifPaid 28 = .ok (.aload_n 0, 1) := by decide +kernel
theorem dX5_ifPaid_29 : decode cX5_ifPaid 29 = .ok (.getfield 16, 3) := by decide +kernel
theorem dX5_ifPaid_32 : decode cX5_ifPaid 32 = .ok (.aload_n 0, 1) := by decide +kernel
theorem dX5_ifPaid_33 : decode cX5_ifPaid 33 = .ok (.getfield 10, 3) := by decide +kernel
theorem dX5_ifPaid_36 : decode cX5_ifPaid 36 = .ok (.invokevirtual 110, 3) := by decide +kernel
theorem dX5_ifPaid_39 : decode cX5_ifPaid 39 = .ok (.aload_n 0, 1) := by decide +kernel
theorem dX5_ifPaid_40 : decode cX5_ifPaid 40 = .ok (.getfield 16, 3) := by decide +kernel
theorem dX5_ifPaid_43 : decode cX5_ifPaid 43 = .ok (.iload_n 1, 1) := by decide +kernel
theorem dX5_ifPaid_44 : decode cX5_ifPaid 44 = .ok (.iload_n 2, 1) := by decide +kernel
theorem dX5_ifPaid_45 : decode cX5_ifPaid 45 = .ok (.invokevirtual 47, 3) := by decide +kernel
theorem dX5_ifPaid_48 : decode cX5_ifPaid 48 = .ok (.istore 4, 2) := by decide +kernel
theorem dX5_ifPaid_50 : decode cX5_ifPaid 50 = .ok (.iload 4, 2) := by decide +kernel
theorem dX5_ifPaid_52 : decode cX5_ifPaid 52 = .ok (.ifCond .ge 6, 3) := by decide +kernel
theorem dX5_ifPaid_55 : decode cX5_ifPaid 55 = .ok (.iload 4, 2) := by decide +kernel
theorem dX5_ifPaid_57 : decode cX5_ifPaid 57 = .ok (.ireturn, 1) := by decide +kernel
theorem dX5_ifPaid_58 : decode cX5_ifPaid 58 = .ok (.iload_n 3, 1) := by decide +kernel
theorem dX5_ifPaid_59 : decode cX5_ifPaid 59 = .ok (.tableswitch 53 0 2 #[25, 28, 44], 25) := by decide +kernel
theorem dX5_ifPaid_84 : decode cX5_ifPaid 84 = .ok (.iload 4, 2) := by decide +kernel
theorem dX5_ifPaid_86 : decode cX5_ifPaid 86 = .ok (.ireturn, 1) := by decide +kernel
theorem dX5_ifPaid_87 : decode cX5_ifPaid 87 = .ok (.aload_n 0, 1) := by decide +kernel
theorem dX5_ifPaid_88 : decode cX5_ifPaid 88 = .ok (.getfield 16, 3) := by decide +kernel
theorem dX5_ifPaid_91 : decode cX5_ifPaid 91 = .ok (.invokevirtual 203, 3) := by decide +kernel
theorem dX5_ifPaid_94 : decode cX5_ifPaid 94 = .ok (.aload_n 0, 1) := by decide +kernel
theorem dX5_ifPaid_95 : decode cX5_ifPaid 95 = .ok (.getfield 10, 3) := by decide +kernel
theorem dX5_ifPaid_98 : decode cX5_ifPaid 98 = .ok (.invokevirtual 203, 3) := by decide +kernel
theorem dX5_ifPaid_101 : decode cX5_ifPaid 101 = .ok (.isub, 1) := by decide +kernel
theorem dX5_ifPaid_102 : decode cX5_ifPaid 102 = .ok (.ireturn, 1) := by decide +kernel
theorem dX5_ifPaid_103 : decode cX5_ifPaid 103 = .ok (.aload_n 0, 1) := by decide +kernel
theorem dX5_ifPaid_104 : decode cX5_ifPaid 104 = .ok (.getfield 16, 3) := by decide +kernel
theorem dX5_ifPaid_107 : decode cX5_ifPaid 107 = .ok (.iload_n 1, 1) := by decide +kernel
theorem dX5_ifPaid_108 : decode cX5_ifPaid 108 = .ok (.invokevirtual 176, 3) := by decide +kernel
theorem dX5_ifPaid_111 : decode cX5_ifPaid 111 = .ok (.ireturn, 1) := by decide +kernel
theorem dX5_ifPaid_112 : decode cX5_ifPaid 112 = .ok (.aload_n 0, 1) := by decide +kernel
theorem dX5_ifPaid_113 : decode cX5_ifPaid 113 = .ok (.getfield 16, 3) := by decide +kernel
theorem dX5_ifPaid_116 : decode cX5_ifPaid 116 = .ok (.iload_n 1, 1) := by decide +kernel
theorem dX5_ifPaid_117 : decode cX5_ifPaid 117 = .ok (.iconst 0, 1) := by decide +kernel
theorem dX5_ifPaid_118 : decode cX5_ifPaid 118 = .ok (.invokevirtual 173, 3) := by decide +kernel
theorem dX5_ifPaid_121 : decode cX5_ifPaid 121 = .ok (.ireturn, 1) := by decide +kernel
theorem dX5_settles_0 : decode cX5_settles 0 = .ok (.iload_n 1, 1) := by decide +kernel
theorem dX5_settles_1 : decode cX5_settles 1 = .ok (.invokestatic 167, 3) := by decide +kernel
theorem dX5_settles_4 : decode cX5_settles 4 = .ok (.ifCond .eq 14, 3) := by decide +kernel
theorem dX5_settles_7 : decode cX5_settles 7 = .ok (.aload_n 0, 1) := by decide +kernel
theorem dX5_settles_8 : decode cX5_settles 8 = .ok (.getfield 10, 3) := by decide +kernel
theorem dX5_settles_11 : decode cX5_settles 11 = .ok (.iload_n 1, 1) := by decide +kernel
theorem dX5_settles_12 : decode cX5_settles 12 = .ok (.invokevirtual 206, 3) := by decide +kernel
theorem dX5_settles_15 : decode cX5_settles 15 = .ok (.goto 4, 3) := by decide +kernel
theorem dX5_settles_18 : decode cX5_settles 18 = .ok (.iconst (-1), 1) := by decide +kernel
theorem dX5_settles_19 : decode cX5_settles 19 = .ok (.ireturn, 1) := by decide +kernel
theorem dX5_nextReminder_0 : decode cX5_nextReminder 0 = .ok (.aload_n 0, 1) := by decide +kernel
theorem dX5_nextReminder_1 : decode cX5_nextReminder 1 = .ok (.getfield 10, 3) := by decide +kernel
theorem dX5_nextReminder_4 : decode cX5_nextReminder 4 = .ok (.iload_n 1, 1) := by decide +kernel
theorem dX5_nextReminder_5 : decode cX5_nextReminder 5 = .ok (.invokevirtual 120, 3) := by decide +kernel
theorem dX5_nextReminder_8 : decode cX5_nextReminder 8 = .ok (.astore_n 2, 1) := by decide +kernel
theorem dX5_nextReminder_9 : decode cX5_nextReminder 9 = .ok (.aload_n 2, 1) := by decide +kernel
theorem dX5_nextReminder_10 : decode cX5_nextReminder 10 = .ok (.ifnonnull 5, 3) := by decide +kernel
theorem dX5_nextReminder_13 : decode cX5_nextReminder 13 = .ok (.iconst (-1), 1) := by decide +kernel
theorem dX5_nextReminder_14 : decode cX5_nextReminder 14 = .ok (.ireturn, 1) := by decide +kernel
theorem dX5_nextReminder_15 : decode cX5_nextReminder 15 = .ok (.aload_n 2, 1) := by decide +kernel
theorem dX5_nextReminder_16 : decode cX5_nextReminder 16 = .ok (.invokevirtual 209, 3) := by decide +kernel
theorem dX5_nextReminder_19 : decode cX5_nextReminder 19 = .ok (.ifCond .ne 6, 3) := by decide +kernel
theorem dX5_nextReminder_22 : decode cX5_nextReminder 22 = .ok (.bipush (-5), 2) := by decide +kernel
theorem dX5_nextReminder_24 : decode cX5_nextReminder 24 = .ok (.ireturn, 1) := by decide +kernel
theorem dX5_nextReminder_25 : decode cX5_nextReminder 25 = .ok (.aload_n 0, 1) := by decide +kernel
theorem dX5_nextReminder_26 : decode cX5_nextReminder 26 = .ok (.getfield 10, 3) := by decide +kernel
theorem dX5_nextReminder_29 : decode cX5_nextReminder 29 = .ok (.getfield 117, 3) := by decide +kernel
theorem dX5_nextReminder_32 : decode cX5_nextReminder 32 = .ok (.aload_n 2, 1) := by decide +kernel
theorem dX5_nextReminder_33 : decode cX5_nextReminder 33 = .ok (.aload_n 0, 1) := by decide +kernel
theorem dX5_nextReminder_34 : decode cX5_nextReminder 34 = .ok (.getfield 10, 3) := by decide +kernel
theorem dX5_nextReminder_37 : decode cX5_nextReminder 37 = .ok (.getfield 70, 3) := by decide +kernel
theorem dX5_nextReminder_40 : decode cX5_nextReminder 40 = .ok (.invokevirtual 194, 3) := by decide +kernel
theorem dX5_nextReminder_43 : decode cX5_nextReminder 43 = .ok (.invokevirtual 213, 3) := by decide +kernel
theorem dX5_nextReminder_46 : decode cX5_nextReminder 46 = .ok (.invokestatic 216, 3) := by decide +kernel
theorem dX5_nextReminder_49 : decode cX5_nextReminder 49 = .ok (.istore_n 3, 1) := by decide +kernel
theorem dX5_nextReminder_50 : decode cX5_nextReminder 50 = .ok (.iload_n 3, 1) := by decide +kernel
theorem dX5_nextReminder_51 : decode cX5_nextReminder 51 = .ok (.sipush 9999, 3) := by decide +kernel
theorem dX5_nextReminder_54 : decode cX5_nextReminder 54 = .ok (.if_icmp .gt 7, 3) := by decide +kernel
theorem dX5_nextReminder_57 : decode cX5_nextReminder 57 = .ok (.iload_n 3, 1) := by decide +kernel
theorem dX5_nextReminder_58 : decode cX5_nextReminder 58 = .ok (.goto 5, 3) := by decide +kernel
theorem dX5_nextReminder_61 : decode cX5_nextReminder 61 = .ok (.bipush (-5), 2) := by decide +kernel
theorem dX5_nextReminder_63 : decode cX5_nextReminder 63 = .ok (.ireturn, 1) := by decide +kernel
theorem dX5_worst_0 : decode cX5_worst 0 = .ok (.bipush (-5), 2) := by decide +kernel
theorem dX5_worst_2 : decode cX5_worst 2 = .ok (.istore_n 1, 1) := by decide +kernel
theorem dX5_worst_3 : decode cX5_worst 3 = .ok (.iconst 0, 1) := by decide +kernel
theorem dX5_worst_4 : decode cX5_worst 4 = .ok (.istore_n 2, 1) := by decide +kernel
theorem dX5_worst_5 : decode cX5_worst 5 = .ok (.iconst 0, 1) := by decide +kernel
theorem dX5_worst_6 : decode cX5_worst 6 = .ok (.istore_n 3, 1) := by decide +kernel
theorem dX5_worst_7 : decode cX5_worst 7 = .ok (.iload_n 3, 1) := by decide +kernel
theorem dX5_worst_8 : decode cX5_worst 8 = .ok (.bipush 8, 2) := by decide +kernel
theorem dX5_worst_10 : decode cX5_worst 10 = .ok (.if_icmp .ge 31, 3) := by decide +kernel
theorem dX5_worst_13 : decode cX5_worst 13 = .ok (.aload_n 0, 1) := by decide +kernel
theorem dX5_worst_14 : decode cX5_worst 14 = .ok (.getfield 10, 3) := by decide +kernel
theorem dX5_worst_17 : decode cX5_worst 17 = .ok (.iload_n 3, 1) := by decide +kernel
theorem dX5_worst_18 : decode cX5_worst 18 = .ok (.iconst 0, 1) := by decide +kernel
theorem dX5_worst_19 : decode cX5_worst 19 = .ok (.invokevirtual 173, 3) := by decide +kernel
theorem dX5_worst_22 : decode cX5_worst 22 = .ok (.istore 4, 2) := by decide +kernel
theorem dX5_worst_24 : decode cX5_worst 24 = .ok (.iload 4, 2) := by decide +kernel
theorem dX5_worst_26 : decode cX5_worst 26 = .ok (.iload_n 2, 1) := by decide +kernel
theorem dX5_worst_27 : decode cX5_worst 27 = .ok (.if_icmp .le 8, 3) := by decide +kernel
theorem dX5_worst_30 : decode cX5_worst 30 = .ok (.iload 4, 2) := by decide +kernel
theorem dX5_worst_32 : decode cX5_worst 32 = .ok (.istore_n 2, 1) := by decide +kernel
theorem dX5_worst_33 : decode cX5_worst 33 = .ok (.iload_n 3, 1) := by decide +kernel
theorem dX5_worst_34 : decode cX5_worst 34 = .ok (.istore_n 1, 1) := by decide +kernel
theorem dX5_worst_35 : decode cX5_worst 35 = .ok (.iinc 3 1, 3) := by decide +kernel
theorem dX5_worst_38 : decode cX5_worst 38 = .ok (.goto (-31), 3) := by decide +kernel
theorem dX5_worst_41 : decode cX5_worst 41 = .ok (.iload_n 1, 1) := by decide +kernel
theorem dX5_worst_42 : decode cX5_worst 42 = .ok (.ireturn, 1) := by decide +kernel
theorem dX5_count_0 : decode cX5_count 0 = .ok (.iload_n 1, 1) := by decide +kernel
theorem dX5_count_1 : decode cX5_count 1 = .ok (.tableswitch 331 0 21 #[103, 111, 123, 134, 145, 156, 164, 175, 186, 194, 220, 228, 236, 244, 252, 260, 271, 282, 293, 304, 315, 323], 103) := by decide +kernel
theorem dX5_count_104 : decode cX5_count 104 = .ok (.aload_n 0, 1) := by decide +kernel
theorem dX5_count_105 : decode cX5_count 105 = .ok (.getfield 10, 3) := by decide +kernel
theorem dX5_count_108 : decode cX5_count 108 = .ok (.getfield 117, 3) := by decide +kernel
theorem dX5_count_111 : decode cX5_count 111 = .ok (.ireturn, 1) := by decide +kernel
theorem dX5_count_112 : decode cX5_count 112 = .ok (.aload_n 0, 1) := by decide +kernel
theorem dX5_count_113 : decode cX5_count 113 = .ok (.getfield 10, 3) := by decide +kernel
theorem dX5_count_116 : decode cX5_count 116 = .ok (.bipush (-9), 2) := by decide +kernel
theorem dX5_count_118 : decode cX5_count 118 = .ok (.bipush (-9), 2) := by decide +kernel
theorem dX5_count_120 : decode cX5_count 120 = .ok (.invokevirtual 170, 3) := by decide +kernel
theorem dX5_count_123 : decode cX5_count 123 = .ok (.ireturn, 1) := by decide +kernel
theorem dX5_count_124 : decode cX5_count 124 = .ok (.aload_n 0, 1) := by decide +kernel
theorem dX5_count_125 : decode cX5_count 125 = .ok (.getfield 10, 3) := by decide +kernel
theorem dX5_count_128 : decode cX5_count 128 = .ok (.bipush (-9), 2) := by decide +kernel
theorem dX5_count_130 : decode cX5_count 130 = .ok (.iconst 0, 1) := by decide +kernel
theorem dX5_count_131 : decode cX5_count 131 = .ok (.invokevirtual 170, 3) := by decide +kernel
theorem dX5_count_134 : decode cX5_count 134 = .ok (.ireturn, 1) := by decide +kernel
theorem dX5_count_135 : decode cX5_count 135 = .ok (.aload_n 0, 1) := by decide +kernel
theorem dX5_count_136 : decode cX5_count 136 = .ok (.getfield 10, 3) := by decide +kernel
theorem dX5_count_139 : decode cX5_count 139 = .ok (.bipush (-9), 2) := by decide +kernel
theorem dX5_count_141 : decode cX5_count 141 = .ok (.iconst 1, 1) := by decide +kernel
theorem dX5_count_142 : decode cX5_count 142 = .ok (.invokevirtual 170, 3) := by decide +kernel
theorem dX5_count_145 : decode cX5_count 145 = .ok (.ireturn, 1) := by decide +kernel
theorem dX5_count_146 : decode cX5_count 146 = .ok (.aload_n 0, 1) := by decide +kernel
theorem dX5_count_147 : decode cX5_count 147 = .ok (.getfield 10, 3) := by decide +kernel
theorem dX5_count_150 : decode cX5_count 150 = .ok (.bipush (-9), 2) := by decide +kernel
theorem dX5_count_152 : decode cX5_count 152 = .ok (.iconst 2, 1) := by decide +kernel
theorem dX5_count_153 : decode cX5_count 153 = .ok (.invokevirtual 170, 3) := by decide +kernel
theorem dX5_count_156 : decode cX5_count 156 = .ok (.ireturn, 1) := by decide +kernel
theorem dX5_count_157 : decode cX5_count 157 = .ok (.aload_n 0, 1) := by decide +kernel
theorem dX5_count_158 : decode cX5_count 158 = .ok (.getfield 10, 3) := by decide +kernel
theorem dX5_count_161 : decode cX5_count 161 = .ok (.invokevirtual 221, 3) := by decide +kernel
theorem dX5_count_164 : decode cX5_count 164 = .ok (.ireturn, 1) := by decide +kernel
theorem dX5_count_165 : decode cX5_count 165 = .ok (.aload_n 0, 1) := by decide +kernel
theorem dX5_count_166 : decode cX5_count 166 = .ok (.getfield 10, 3) := by decide +kernel
theorem dX5_count_169 : decode cX5_count 169 = .ok (.bipush (-9), 2) := by decide +kernel
theorem dX5_count_171 : decode cX5_count 171 = .ok (.iconst 0, 1) := by decide +kernel
theorem dX5_count_172 : decode cX5_count 172 = .ok (.invokevirtual 173, 3) := by decide +kernel
theorem dX5_count_175 : decode cX5_count 175 = .ok (.ireturn, 1) := by decide +kernel
theorem dX5_count_176 : decode cX5_count 176 = .ok (.aload_n 0, 1) := by decide +kernel
theorem dX5_count_177 : decode cX5_count 177 = .ok (.getfield 10, 3) := by decide +kernel
theorem dX5_count_180 : decode cX5_count 180 = .ok (.bipush (-9), 2) := by decide +kernel
theorem dX5_count_182 : decode cX5_count 182 = .ok (.iconst 2, 1) := by decide +kernel
theorem dX5_count_183 : decode cX5_count 183 = .ok (.invokevirtual 173, 3) := by decide +kernel
theorem dX5_count_186 : decode cX5_count 186 = .ok (.ireturn, 1) := by decide +kernel
theorem dX5_count_187 : decode cX5_count 187 = .ok (.aload_n 0, 1) := by decide +kernel
theorem dX5_count_188 : decode cX5_count 188 = .ok (.getfield 10, 3) := by decide +kernel
theorem dX5_count_191 : decode cX5_count 191 = .ok (.invokevirtual 224, 3) := by decide +kernel
theorem dX5_count_194 : decode cX5_count 194 = .ok (.ireturn, 1) := by decide +kernel
theorem dX5_count_195 : decode cX5_count 195 = .ok (.aload_n 0, 1) := by decide +kernel
theorem dX5_count_196 : decode cX5_count 196 = .ok (.getfield 10, 3) := by decide +kernel
theorem dX5_count_199 : decode cX5_count 199 = .ok (.bipush (-9), 2) := by decide +kernel
theorem dX5_count_201 : decode cX5_count 201 = .ok (.invokevirtual 179, 3) := by decide +kernel
theorem dX5_count_204 : decode cX5_count 204 = .ok (.aload_n 0, 1) := by decide +kernel
theorem dX5_count_205 : decode cX5_count 205 = .ok (.getfield 10, 3) := by decide +kernel
theorem dX5_count_208 : decode cX5_count 208 = .ok (.invokevirtual 224, 3) := by decide +kernel
theorem dX5_count_211 : decode cX5_count 211 = .ok (.iadd, 1) := by decide +kernel
theorem dX5_count_212 : decode cX5_count 212 = .ok (.aload_n 0, 1) := by decide +kernel
theorem dX5_count_213 : decode cX5_count 213 = .ok (.getfield 10, 3) := by decide +kernel
theorem dX5_count_216 : decode cX5_count 216 = .ok (.getfield 227, 3) := by decide +kernel
theorem dX5_count_219 : decode cX5_count 219 = .ok (.iadd, 1) := by decide +kernel
theorem dX5_count_220 : decode cX5_count 220 = .ok (.ireturn, 1) := by decide +kernel
theorem dX5_count_221 : decode cX5_count 221 = .ok (.aload_n 0, 1) := by decide +kernel
theorem dX5_count_222 : decode cX5_count 222 = .ok (.getfield 10, 3) := by decide +kernel
theorem dX5_count_225 : decode cX5_count 225 = .ok (.getfield 227, 3) := by decide +kernel
theorem dX5_count_228 : decode cX5_count 228 = .ok (.ireturn, 1) := by decide +kernel
theorem dX5_count_229 : decode cX5_count 229 = .ok (.aload_n 0, 1) := by decide +kernel
theorem dX5_count_230 : decode cX5_count 230 = .ok (.getfield 10, 3) := by decide +kernel
theorem dX5_count_233 : decode cX5_count 233 = .ok (.invokevirtual 203, 3) := by decide +kernel
theorem dX5_count_236 : decode cX5_count 236 = .ok (.ireturn, 1) := by decide +kernel
theorem dX5_count_237 : decode cX5_count 237 = .ok (.aload_n 0, 1) := by decide +kernel
theorem dX5_count_238 : decode cX5_count 238 = .ok (.getfield 10, 3) := by decide +kernel
theorem dX5_count_241 : decode cX5_count 241 = .ok (.invokevirtual 230, 3) := by decide +kernel
theorem dX5_count_244 : decode cX5_count 244 = .ok (.ireturn, 1) := by decide +kernel
theorem dX5_count_245 : decode cX5_count 245 = .ok (.aload_n 0, 1) := by decide +kernel
theorem dX5_count_246 : decode cX5_count 246 = .ok (.getfield 10, 3) := by decide +kernel
theorem dX5_count_249 : decode cX5_count 249 = .ok (.invokevirtual 233, 3) := by decide +kernel
theorem dX5_count_252 : decode cX5_count 252 = .ok (.ireturn, 1) := by decide +kernel
theorem dX5_count_253 : decode cX5_count 253 = .ok (.aload_n 0, 1) := by decide +kernel
theorem dX5_count_254 : decode cX5_count 254 = .ok (.getfield 10, 3) := by decide +kernel
theorem dX5_count_257 : decode cX5_count 257 = .ok (.getfield 236, 3) := by decide +kernel
theorem dX5_count_260 : decode cX5_count 260 = .ok (.ireturn, 1) := by decide +kernel
theorem dX5_count_261 : decode cX5_count 261 = .ok (.aload_n 0, 1) := by decide +kernel
theorem dX5_count_262 : decode cX5_count 262 = .ok (.getfield 10, 3) := by decide +kernel
theorem dX5_count_265 : decode cX5_count 265 = .ok (.getfield 70, 3) := by decide +kernel
theorem dX5_count_268 : decode cX5_count 268 = .ok (.invokevirtual 239, 3) := by decide +kernel
theorem dX5_count_271 : decode cX5_count 271 = .ok (.ireturn, 1) := by decide +kernel
theorem dX5_count_272 : decode cX5_count 272 = .ok (.aload_n 0, 1) := by decide +kernel
theorem dX5_count_273 : decode cX5_count 273 = .ok (.getfield 10, 3) := by decide +kernel
theorem dX5_count_276 : decode cX5_count 276 = .ok (.getfield 70, 3) := by decide +kernel
theorem dX5_count_279 : decode cX5_count 279 = .ok (.invokevirtual 242, 3) := by decide +kernel
theorem dX5_count_282 : decode cX5_count 282 = .ok (.ireturn, 1) := by decide +kernel
theorem dX5_count_283 : decode cX5_count 283 = .ok (.aload_n 0, 1) := by decide +kernel
theorem dX5_count_284 : decode cX5_count 284 = .ok (.getfield 10, 3) := by decide +kernel
theorem dX5_count_287 : decode cX5_count 287 = .ok (.getfield 70, 3) := by decide +kernel
theorem dX5_count_290 : decode cX5_count 290 = .ok (.invokevirtual 194, 3) := by decide +kernel
theorem dX5_count_293 : decode cX5_count 293 = .ok (.ireturn, 1) := by decide +kernel
theorem dX5_count_294 : decode cX5_count 294 = .ok (.aload_n 0, 1) := by decide +kernel
theorem dX5_count_295 : decode cX5_count 295 = .ok (.getfield 10, 3) := by decide +kernel
theorem dX5_count_298 : decode cX5_count 298 = .ok (.getfield 70, 3) := by decide +kernel
theorem dX5_count_301 : decode cX5_count 301 = .ok (.invokevirtual 245, 3) := by decide +kernel
theorem dX5_count_304 : decode cX5_count 304 = .ok (.ireturn, 1) := by decide +kernel
theorem dX5_count_305 : decode cX5_count 305 = .ok (.aload_n 0, 1) := by decide +kernel
theorem dX5_count_306 : decode cX5_count 306 = .ok (.getfield 10, 3) := by decide +kernel
theorem dX5_count_309 : decode cX5_count 309 = .ok (.getfield 70, 3) := by decide +kernel
theorem dX5_count_312 : decode cX5_count 312 = .ok (.invokevirtual 248, 3) := by decide +kernel
theorem dX5_count_315 : decode cX5_count 315 = .ok (.ireturn, 1) := by decide +kernel
theorem dX5_count_316 : decode cX5_count 316 = .ok (.aload_n 0, 1) := by decide +kernel
theorem dX5_count_317 : decode cX5_count 317 = .ok (.getfield 25, 3) := by decide +kernel
theorem dX5_count_320 : decode cX5_count 320 = .ok (.getfield 103, 3) := by decide +kernel
theorem dX5_count_323 : decode cX5_count 323 = .ok (.ireturn, 1) := by decide +kernel
theorem dX5_count_324 : decode cX5_count 324 = .ok (.aload_n 0, 1) := by decide +kernel
theorem dX5_count_325 : decode cX5_count 325 = .ok (.getfield 32, 3) := by decide +kernel
theorem dX5_count_328 : decode cX5_count 328 = .ok (.getfield 83, 3) := by decide +kernel
theorem dX5_count_331 : decode cX5_count 331 = .ok (.ireturn, 1) := by decide +kernel
theorem dX5_count_332 : decode cX5_count 332 = .ok (.bipush (-2), 2) := by decide +kernel
theorem dX5_count_334 : decode cX5_count 334 = .ok (.ireturn, 1) := by decide +kernel
theorem dX5_startAct_0 : decode cX5_startAct 0 = .ok (.aload_n 0, 1) := by decide +kernel
theorem dX5_startAct_1 : decode cX5_startAct 1 = .ok (.getfield 16, 3) := by decide +kernel
theorem dX5_startAct_4 : decode cX5_startAct 4 = .ok (.aload_n 0, 1) := by decide +kernel
theorem dX5_startAct_5 : decode cX5_startAct 5 = .ok (.getfield 10, 3) := by decide +kernel
theorem dX5_startAct_8 : decode cX5_startAct 8 = .ok (.invokevirtual 110, 3) := by decide +kernel
theorem dX5_startAct_11 : decode cX5_startAct 11 = .ok (.return_, 1) := by decide +kernel
theorem dX5_endAct_0 : decode cX5_endAct 0 = .ok (.iload_n 1, 1) := by decide +kernel
theorem dX5_endAct_1 : decode cX5_endAct 1 = .ok (.ifCond .lt 21, 3) := by decide +kernel
theorem dX5_endAct_4 : decode cX5_endAct 4 = .ok (.aload_n 0, 1) := by decide +kernel
theorem dX5_endAct_5 : decode cX5_endAct 5 = .ok (.aload_n 0, 1) := by decide +kernel
theorem dX5_endAct_6 : decode cX5_endAct 6 = .ok (.getfield 25, 3) := by decide +kernel
theorem dX5_endAct_9 : decode cX5_endAct 9 = .ok (.aload_n 0, 1) := by decide +kernel
theorem dX5_endAct_10 : decode cX5_endAct 10 = .ok (.getfield 16, 3) := by decide +kernel
theorem dX5_endAct_13 : decode cX5_endAct 13 = .ok (.invokevirtual 251, 3) := by decide +kernel
theorem dX5_endAct_16 : decode cX5_endAct 16 = .ok (.putfield 16, 3) := by decide +kernel
theorem dX5_endAct_19 : decode cX5_endAct 19 = .ok (.goto 21, 3) := by decide +kernel
theorem dX5_endAct_22 : decode cX5_endAct 22 = .ok (.aload_n 0, 1) := by decide +kernel
theorem dX5_endAct_23 : decode cX5_endAct 23 = .ok (.getfield 16, 3) := by decide +kernel
theorem dX5_endAct_26 : decode cX5_endAct 26 = .ok (.astore_n 2, 1) := by decide +kernel
theorem dX5_endAct_27 : decode cX5_endAct 27 = .ok (.aload_n 0, 1) := by decide +kernel
theorem dX5_endAct_28 : decode cX5_endAct 28 = .ok (.aload_n 0, 1) := by decide +kernel
theorem dX5_endAct_29 : decode cX5_endAct 29 = .ok (.getfield 10, 3) := by decide +kernel
theorem dX5_endAct_32 : decode cX5_endAct 32 = .ok (.putfield 16, 3) := by decide +kernel
theorem dX5_endAct_35 : decode cX5_endAct 35 = .ok (.aload_n 0, 1) := by decide +kernel
theorem dX5_endAct_36 : decode cX5_endAct 36 = .ok (.aload_n 2, 1) := by decide +kernel
theorem dX5_endAct_37 : decode cX5_endAct 37 = .ok (.putfield 10, 3) := by decide +kernel
theorem dX5_endAct_40 : decode cX5_endAct 40 = .ok (.iload_n 1, 1) := by decide +kernel
theorem dX5_endAct_41 : decode cX5_endAct 41 = .ok (.ireturn, 1) := by decide +kernel
theorem dX5_isCustomer_0 : decode cX5_isCustomer 0 = .ok (.iload_n 0, 1) := by decide +kernel
theorem dX5_isCustomer_1 : decode cX5_isCustomer 1 = .ok (.ifCond .lt 13, 3) := by decide +kernel
theorem dX5_isCustomer_4 : decode cX5_isCustomer 4 = .ok (.iload_n 0, 1) := by decide +kernel
theorem dX5_isCustomer_5 : decode cX5_isCustomer 5 = .ok (.bipush 8, 2) := by decide +kernel
theorem dX5_isCustomer_7 : decode cX5_isCustomer 7 = .ok (.if_icmp .ge 7, 3) := by decide +kernel
theorem dX5_isCustomer_10 : decode cX5_isCustomer 10 = .ok (.iconst 1, 1) := by decide +kernel
theorem dX5_isCustomer_11 : decode cX5_isCustomer 11 = .ok (.goto 4, 3) := by decide +kernel
theorem dX5_isCustomer_14 : decode cX5_isCustomer 14 = .ok (.iconst 0, 1) := by decide +kernel
theorem dX5_isCustomer_15 : decode cX5_isCustomer 15 = .ok (.ireturn, 1) := by decide +kernel
theorem dX5_isYear_0 : decode cX5_isYear 0 = .ok (.iload_n 0, 1) := by decide +kernel
theorem dX5_isYear_1 : decode cX5_isYear 1 = .ok (.ifCond .lt 13, 3) := by decide +kernel
theorem dX5_isYear_4 : decode cX5_isYear 4 = .ok (.iload_n 0, 1) := by decide +kernel
theorem dX5_isYear_5 : decode cX5_isYear 5 = .ok (.bipush 100, 2) := by decide +kernel
theorem dX5_isYear_7 : decode cX5_isYear 7 = .ok (.if_icmp .ge 7, 3) := by decide +kernel
theorem dX5_isYear_10 : decode cX5_isYear 10 = .ok (.iconst 1, 1) := by decide +kernel
theorem dX5_isYear_11 : decode cX5_isYear 11 = .ok (.goto 4, 3) := by decide +kernel
theorem dX5_isYear_14 : decode cX5_isYear 14 = .ok (.iconst 0, 1) := by decide +kernel
theorem dX5_isYear_15 : decode cX5_isYear 15 = .ok (.ireturn, 1) := by decide +kernel
theorem dX5_isAmount_0 : decode cX5_isAmount 0 = .ok (.iload_n 0, 1) := by decide +kernel
theorem dX5_isAmount_1 : decode cX5_isAmount 1 = .ok (.iconst 1, 1) := by decide +kernel
theorem dX5_isAmount_2 : decode cX5_isAmount 2 = .ok (.if_icmp .lt 14, 3) := by decide +kernel
theorem dX5_isAmount_5 : decode cX5_isAmount 5 = .ok (.iload_n 0, 1) := by decide +kernel
theorem dX5_isAmount_6 : decode cX5_isAmount 6 = .ok (.ldc_w 285, 3) := by decide +kernel
theorem dX5_isAmount_9 : decode cX5_isAmount 9 = .ok (.if_icmp .gt 7, 3) := by decide +kernel
theorem dX5_isAmount_12 : decode cX5_isAmount 12 = .ok (.iconst 1, 1) := by decide +kernel
theorem dX5_isAmount_13 : decode cX5_isAmount 13 = .ok (.goto 4, 3) := by decide +kernel
theorem dX5_isAmount_16 : decode cX5_isAmount 16 = .ok (.iconst 0, 1) := by decide +kernel
theorem dX5_isAmount_17 : decode cX5_isAmount 17 = .ok (.ireturn, 1) := by decide +kernel
