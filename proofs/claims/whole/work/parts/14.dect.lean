theorem dX4_init_0 : decode cX4_init 0 = .ok (.aload_n 0, 1) := by decide +kernel
theorem dX4_init_1 : decode cX4_init 1 = .ok (.invokespecial 3, 3) := by decide +kernel
theorem dX4_init_4 : decode cX4_init 4 = .ok (.aload_n 0, 1) := by decide +kernel
theorem dX4_init_5 : decode cX4_init 5 = .ok (.bipush 60, 2) := by decide +kernel
theorem dX4_init_7 : decode cX4_init 7 = .ok (.newarray .char, 2) := by decide +kernel
theorem dX4_init_9 : decode cX4_init 9 = .ok (.putfield 9, 3) := by decide +kernel
theorem dX4_init_12 : decode cX4_init 12 = .ok (.return_, 1) := by decide +kernel
theorem dX4_add_0 : decode cX4_add 0 = .ok (.aload_n 0, 1) := by decide +kernel
theorem dX4_add_1 : decode cX4_add 1 = .ok (.getfield 15, 3) := by decide +kernel
theorem dX4_add_4 : decode cX4_add 4 = .ok (.ifCond .lt 15, 3) := by decide +kernel
theorem dX4_add_7 : decode cX4_add 7 = .ok (.aload_n 0, 1) := by decide +kernel
theorem dX4_add_8 : decode cX4_add 8 = .ok (.getfield 15, 3) := by decide +kernel
theorem dX4_add_11 : decode cX4_add 11 = .ok (.aload_n 0, 1) := by decide +kernel
theorem dX4_add_12 : decode cX4_add 12 = .ok (.getfield 9, 3) := by decide +kernel
theorem dX4_add_15 : decode cX4_add 15 = .ok (.arraylength, 1) := by decide +kernel
theorem dX4_add_16 : decode cX4_add 16 = .ok (.if_icmp .lt 5, 3) := by decide +kernel
theorem dX4_add_19 : decode cX4_add 19 = .ok (.iconst 0, 1) := by decide +kernel
theorem dX4_add_20 : decode cX4_add 20 = .ok (.ireturn, 1) := by decide +kernel
theorem dX4_add_21 : decode cX4_add 21 = .ok (.aload_n 0, 1) := by decide +kernel
theorem dX4_add_22 : decode cX4_add 22 = .ok (.getfield 9, 3) := by decide +kernel
theorem dX4_add_25 : decode cX4_add 25 = .ok (.aload_n 0, 1) := by decide +kernel
theorem dX4_add_26 : decode cX4_add 26 = .ok (.getfield 15, 3) := by decide +kernel
theorem dX4_add_29 : decode cX4_add 29 = .ok (.iload_n 1, 1) := by decide +kernel
theorem dX4_add_30 : decode cX4_add 30 = .ok (.castore, 1) := by decide +kernel
theorem dX4_add_31 : decode cX4_add 31 = .ok (.aload_n 0, 1) := by decide +kernel
theorem dX4_add_32 : decode cX4_add 32 = .ok (.dup, 1) := by decide +kernel
theorem dX4_add_33 : decode cX4_add 33 = .ok (.getfield 15, 3) := by decide +kernel
theorem dX4_add_36 : decode cX4_add 36 = .ok (.iconst 1, 1) := by decide +kernel
theorem dX4_add_37 : decode cX4_add 37 = .ok (.iadd, 1) := by decide +kernel
theorem dX4_add_38 : decode cX4_add 38 = .ok (.putfield 15, 3) := by decide +kernel
theorem dX4_add_41 : decode cX4_add 41 = .ok (.iconst 1, 1) := by decide +kernel
theorem dX4_add_42 : decode cX4_add 42 = .ok (.ireturn, 1) := by decide +kernel
theorem dX4_goToStart_0 : decode cX4_goToStart 0 = .ok (.aload_n 0, 1) := by decide +kernel
theorem dX4_goToStart_1 : decode cX4_goToStart 1 = .ok (.iconst 0, 1) := by decide +kernel
theorem dX4_goToStart_2 : decode cX4_goToStart 2 = .ok (.putfield 19, 3) := by decide +kernel
theorem dX4_goToStart_5 : decode cX4_goToStart 5 = .ok (.return_, 1) := by decide +kernel
theorem dX4_findFault_0 : decode cX4_findFault 0 = .ok (.aload_n 0, 1) := by decide +kernel
theorem dX4_findFault_1 : decode cX4_findFault 1 = .ok (.invokevirtual 22, 3) := by decide +kernel
theorem dX4_findFault_4 : decode cX4_findFault 4 = .ok (.iconst 0, 1) := by decide +kernel
theorem dX4_findFault_5 : decode cX4_findFault 5 = .ok (.istore_n 1, 1) := by decide +kernel
theorem dX4_findFault_6 : decode cX4_findFault 6 = .ok (.iload_n 1, 1) := by decide +kernel
theorem dX4_findFault_7 : decode cX4_findFault 7 = .ok (.bipush 60, 2) := by decide +kernel
theorem dX4_findFault_9 : decode cX4_findFault 9 = .ok (.if_icmp .ge 48, 3) := by decide +kernel
theorem dX4_findFault_12 : decode cX4_findFault 12 = .ok (.aload_n 0, 1) := by decide +kernel
theorem dX4_findFault_13 : decode cX4_findFault 13 = .ok (.invokevirtual 25, 3) := by decide +kernel
theorem dX4_findFault_16 : decode cX4_findFault 16 = .ok (.ifCond .ne 8, 3) := by decide +kernel
theorem dX4_findFault_19 : decode cX4_findFault 19 = .ok (.aload_n 0, 1) := by decide +kernel
theorem dX4_findFault_20 : decode cX4_findFault 20 = .ok (.getfield 19, 3) := by decide +kernel
theorem dX4_findFault_23 : decode cX4_findFault 23 = .ok (.ireturn, 1) := by decide +kernel
theorem dX4_findFault_24 : decode cX4_findFault 24 = .ok (.aload_n 0, 1) := by decide +kernel
theorem dX4_findFault_25 : decode cX4_findFault 25 = .ok (.getfield 19, 3) := by decide +kernel
theorem dX4_findFault_28 : decode cX4_findFault 28 = .ok (.aload_n 0, 1) := by decide +kernel
theorem dX4_findFault_29 : decode cX4_findFault 29 = .ok (.getfield 15, 3) := by decide +kernel
theorem dX4_findFault_32 : decode cX4_findFault 32 = .ok (.if_icmp .lt 5, 3) := by decide +kernel
theorem dX4_findFault_35 : decode cX4_findFault 35 = .ok (.iconst (-1), 1) := by decide +kernel
theorem dX4_findFault_36 : decode cX4_findFault 36 = .ok (.ireturn, 1) := by decide +kernel
theorem dX4_findFault_37 : decode cX4_findFault 37 = .ok (.aload_n 0, 1) := by decide +kernel
theorem dX4_findFault_38 : decode cX4_findFault 38 = .ok (.bipush 59, 2) := by decide +kernel
theorem dX4_findFault_40 : decode cX4_findFault 40 = .ok (.invokevirtual 29, 3) := by decide +kernel
theorem dX4_findFault_43 : decode cX4_findFault 43 = .ok (.ifCond .ne 8, 3) := by decide +kernel
theorem dX4_findFault_46 : decode cX4_findFault 46 = .ok (.aload_n 0, 1) := by decide +kernel
theorem dX4_findFault_47 : decode cX4_findFault 47 = .ok (.getfield 19, 3) := by decide +kernel
theorem dX4_findFault_50 : decode cX4_findFault 50 = .ok (.ireturn, 1) := by decide +kernel
theorem dX4_findFault_51 : decode cX4_findFault 51 = .ok (.iinc 1 1, 3) := by decide +kernel
theorem dX4_findFault_54 : decode cX4_findFault 54 = .ok (.goto (-48), 3) := by decide +kernel
theorem dX4_findFault_57 : decode cX4_findFault 57 = .ok (.aload_n 0, 1) := by decide +kernel
theorem dX4_findFault_58 : decode cX4_findFault 58 = .ok (.getfield 19, 3) := by decide +kernel
theorem dX4_findFault_61 : decode cX4_findFault 61 = .ok (.ireturn, 1) := by decide +kernel
theorem dX4_readThing_0 : decode cX4_readThing 0 = .ok (.aload_n 0, 1) := by decide +kernel
theorem dX4_readThing_1 : decode cX4_readThing 1 = .ok (.bipush 98, 2) := by decide +kernel
theorem dX4_readThing_3 : decode cX4_readThing 3 = .ok (.invokevirtual 29, 3) := by decide +kernel
theorem dX4_readThing_6 : decode cX4_readThing 6 = .ok (.ifCond .eq 13, 3) := by decide +kernel
theorem dX4_readThing_9 : decode cX4_readThing 9 = .ok (.aload_n 0, 1) := by decide +kernel
theorem dX4_readThing_10 : decode cX4_readThing 10 = .ok (.iconst 0, 1) := by decide +kernel
theorem dX4_readThing_11 : decode cX4_readThing 11 = .ok (.putfield 33, 3) := by decide +kernel
theorem dX4_readThing_14 : decode cX4_readThing 14 = .ok (.aload_n 0, 1) := by decide +kernel
theorem dX4_readThing_15 : decode cX4_readThing 15 = .ok (.invokevirtual 36, 3) := by decide +kernel
theorem dX4_readThing_18 : decode cX4_readThing 18 = .ok (.ireturn, 1) := by decide +kernel
theorem dX4_readThing_19 : decode cX4_readThing 19 = .ok (.aload_n 0, 1) := by decide +kernel
theorem dX4_readThing_20 : decode cX4_readThing 20 = .ok (.bipush 112, 2) := by decide +kernel
theorem dX4_readThing_22 : decode cX4_readThing 22 = .ok (.invokevirtual 29, 3) := by decide +kernel
theorem dX4_readThing_25 : decode cX4_readThing 25 = .ok (.ifCond .eq 13, 3) := by decide +kernel
theorem dX4_readThing_28 : decode cX4_readThing 28 = .ok (.aload_n 0, 1) := by decide +kernel
theorem dX4_readThing_29 : decode cX4_readThing 29 = .ok (.iconst 1, 1) := by decide +kernel
theorem dX4_readThing_30 : decode cX4_readThing 30 = .ok (.putfield 33, 3) := by decide +kernel
theorem dX4_readThing_33 : decode cX4_readThing 33 = .ok (.aload_n 0, 1) := by decide +kernel
theorem dX4_readThing_34 : decode cX4_readThing 34 = .ok (.invokevirtual 39, 3) := by decide +kernel
theorem dX4_readThing_37 : decode cX4_readThing 37 = .ok (.ireturn, 1) := by decide +kernel
theorem dX4_readThing_38 : decode cX4_readThing 38 = .ok (.aload_n 0, 1) := by decide +kernel
theorem dX4_readThing_39 : decode cX4_readThing 39 = .ok (.bipush 114, 2) := by decide +kernel
theorem dX4_readThing_41 : decode cX4_readThing 41 = .ok (.invokevirtual 29, 3) := by decide +kernel
theorem dX4_readThing_44 : decode cX4_readThing 44 = .ok (.ifCond .eq 10, 3) := by decide +kernel
theorem dX4_readThing_47 : decode cX4_readThing 47 = .ok (.aload_n 0, 1) := by decide +kernel
theorem dX4_readThing_48 : decode cX4_readThing 48 = .ok (.iconst 3, 1) := by decide +kernel
theorem dX4_readThing_49 : decode cX4_readThing 49 = .ok (.putfield 33, 3) := by decide +kernel
theorem dX4_readThing_52 : decode cX4_readThing 52 = .ok (.iconst 1, 1) := by decide +kernel
theorem dX4_readThing_53 : decode cX4_readThing 53 = .ok (.ireturn, 1) := by decide +kernel
theorem dX4_readThing_54 : decode cX4_readThing 54 = .ok (.aload_n 0, 1) := by decide +kernel
theorem dX4_readThing_55 : decode cX4_readThing 55 = .ok (.bipush 46, 2) := by decide +kernel
theorem dX4_readThing_57 : decode cX4_readThing 57 = .ok (.invokevirtual 29, 3) := by decide +kernel
theorem dX4_readThing_60 : decode cX4_readThing 60 = .ok (.ifCond .eq 33, 3) := by decide +kernel
theorem dX4_readThing_63 : decode cX4_readThing 63 = .ok (.aload_n 0, 1) := by decide +kernel
theorem dX4_readThing_64 : decode cX4_readThing 64 = .ok (.iconst 4, 1) := by decide +kernel
theorem dX4_readThing_65 : decode cX4_readThing 65 = .ok (.putfield 33, 3) := by decide +kernel
theorem dX4_readThing_68 : decode cX4_readThing 68 = .ok (.aload_n 0, 1) := by decide +kernel
theorem dX4_readThing_69 : decode cX4_readThing 69 = .ok (.aload_n 0, 1) := by decide +kernel
theorem dX4_readThing_70 : decode cX4_readThing 70 = .ok (.iconst 1, 1) := by decide +kernel
theorem dX4_readThing_71 : decode cX4_readThing 71 = .ok (.bipush 99, 2) := by decide +kernel
theorem dX4_readThing_73 : decode cX4_readThing 73 = .ok (.invokevirtual 42, 3) := by decide +kernel
theorem dX4_readThing_76 : decode cX4_readThing 76 = .ok (.putfield 46, 3) := by decide +kernel
theorem dX4_readThing_79 : decode cX4_readThing 79 = .ok (.aload_n 0, 1) := by decide +kernel
theorem dX4_readThing_80 : decode cX4_readThing 80 = .ok (.getfield 46, 3) := by decide +kernel
theorem dX4_readThing_83 : decode cX4_readThing 83 = .ok (.iconst (-1), 1) := by decide +kernel
theorem dX4_readThing_84 : decode cX4_readThing 84 = .ok (.if_icmp .eq 7, 3) := by decide +kernel
theorem dX4_readThing_87 : decode cX4_readThing 87 = .ok (.iconst 1, 1) := by decide +kernel
theorem dX4_readThing_88 : decode cX4_readThing 88 = .ok (.goto 4, 3) := by decide +kernel
theorem dX4_readThing_91 : decode cX4_readThing 91 = .ok (.iconst 0, 1) := by decide +kernel
theorem dX4_readThing_92 : decode cX4_readThing 92 = .ok (.ireturn, 1) := by decide +kernel
theorem dX4_readThing_93 : decode cX4_readThing 93 = .ok (.iconst 0, 1) := by decide +kernel
theorem dX4_readThing_94 : decode cX4_readThing 94 = .ok (.ireturn, 1) := by decide +kernel
theorem dX4_readBill_0 : decode cX4_readBill 0 = .ok (.aload_n 0, 1) := by decide +kernel
theorem dX4_readBill_1 : decode cX4_readBill 1 = .ok (.sipush 9999, 3) := by decide +kernel
theorem dX4_readBill_4 : decode cX4_readBill 4 = .ok (.invokevirtual 49, 3) := by decide +kernel
theorem dX4_readBill_7 : decode cX4_readBill 7 = .ok (.ifCond .ne 5, 3) := by decide +kernel
theorem dX4_readBill_10 : decode cX4_readBill 10 = .ok (.iconst 0, 1) := by decide +kernel
theorem dX4_readBill_11 : decode cX4_readBill 11 = .ok (.ireturn, 1) := by decide +kernel
theorem dX4_readBill_12 : decode cX4_readBill 12 = .ok (.aload_n 0, 1) := by decide +kernel
theorem dX4_readBill_13 : decode cX4_readBill 13 = .ok (.aload_n 0, 1) := by decide +kernel
theorem dX4_readBill_14 : decode cX4_readBill 14 = .ok (.bipush 64, 2) := by decide +kernel
theorem dX4_readBill_16 : decode cX4_readBill 16 = .ok (.invokevirtual 29, 3) := by decide +kernel
theorem dX4_readBill_19 : decode cX4_readBill 19 = .ok (.ifCond .eq 13, 3) := by decide +kernel
theorem dX4_readBill_22 : decode cX4_readBill 22 = .ok (.aload_n 0, 1) := by decide +kernel
theorem dX4_readBill_23 : decode cX4_readBill 23 = .ok (.iconst 0, 1) := by decide +kernel
theorem dX4_readBill_24 : decode cX4_readBill 24 = .ok (.bipush 40, 2) := by decide +kernel
theorem dX4_readBill_26 : decode cX4_readBill 26 = .ok (.invokevirtual 42, 3) := by decide +kernel
theorem dX4_readBill_29 : decode cX4_readBill 29 = .ok (.goto 5, 3) := by decide +kernel
theorem dX4_readBill_32 : decode cX4_readBill 32 = .ok (.bipush 20, 2) := by decide +kernel
theorem dX4_readBill_34 : decode cX4_readBill 34 = .ok (.putfield 53, 3) := by decide +kernel
theorem dX4_readBill_37 : decode cX4_readBill 37 = .ok (.aload_n 0, 1) := by decide +kernel
theorem dX4_readBill_38 : decode cX4_readBill 38 = .ok (.getfield 53, 3) := by decide +kernel
theorem dX4_readBill_41 : decode cX4_readBill 41 = .ok (.iconst (-1), 1) := by decide +kernel
theorem dX4_readBill_42 : decode cX4_readBill 42 = .ok (.if_icmp .ne 5, 3) := by decide +kernel
theorem dX4_readBill_45 : decode cX4_readBill 45 = .ok (.iconst 0, 1) := by decide +kernel
theorem dX4_readBill_46 : decode cX4_readBill 46 = .ok (.ireturn, 1) := by decide +kernel
theorem dX4_readBill_47 : decode cX4_readBill 47 = .ok (.aload_n 0, 1) := by decide +kernel
theorem dX4_readBill_48 : decode cX4_readBill 48 = .ok (.aload_n 0, 1) := by decide +kernel
theorem dX4_readBill_49 : decode cX4_readBill 49 = .ok (.bipush 43, 2) := by decide +kernel
theorem dX4_readBill_51 : decode cX4_readBill 51 = .ok (.invokevirtual 29, 3) := by decide +kernel
theorem dX4_readBill_54 : decode cX4_readBill 54 = .ok (.ifCond .eq 13, 3) := by decide +kernel
theorem dX4_readBill_57 : decode cX4_readBill 57 = .ok (.aload_n 0, 1) := by decide +kernel
theorem dX4_readBill_58 : decode cX4_readBill 58 = .ok (.iconst 0, 1) := by decide +kernel
theorem dX4_readBill_59 : decode cX4_readBill 59 = .ok (.bipush 99, 2) := by decide +kernel
theorem dX4_readBill_61 : decode cX4_readBill 61 = .ok (.invokevirtual 42, 3) := by decide +kernel
theorem dX4_readBill_64 : decode cX4_readBill 64 = .ok (.goto 5, 3) := by decide +kernel
theorem dX4_readBill_67 : decode cX4_readBill 67 = .ok (.bipush 14, 2) := by decide +kernel
theorem dX4_readBill_69 : decode cX4_readBill 69 = .ok (.putfield 46, 3) := by decide +kernel
theorem dX4_readBill_72 : decode cX4_readBill 72 = .ok (.aload_n 0, 1) := by decide +kernel
theorem dX4_readBill_73 : decode cX4_readBill 73 = .ok (.getfield 46, 3) := by decide +kernel
theorem dX4_readBill_76 : decode cX4_readBill 76 = .ok (.iconst (-1), 1) := by decide +kernel
theorem dX4_readBill_77 : decode cX4_readBill 77 = .ok (.if_icmp .eq 7, 3) := by decide +kernel
theorem dX4_readBill_80 : decode cX4_readBill 80 = .ok (.iconst 1, 1) := by decide +kernel
theorem dX4_readBill_81 : decode cX4_readBill 81 = .ok (.goto 4, 3) := by decide +kernel
theorem dX4_readBill_84 : decode cX4_readBill 84 = .ok (.iconst 0, 1) := by decide +kernel
theorem dX4_readBill_85 : decode cX4_readBill 85 = .ok (.ireturn, 1) := by decide +kernel
theorem dX4_readPayment_0 : decode cX4_readPayment 0 = .ok (.aload_n 0, 1) := by decide +kernel
theorem dX4_readPayment_1 : decode cX4_readPayment 1 = .ok (.ldc 56, 2) := by decide +kernel
theorem dX4_readPayment_3 : decode cX4_readPayment 3 = .ok (.invokevirtual 49, 3) := by decide +kernel
theorem dX4_readPayment_6 : decode cX4_readPayment 6 = .ok (.ifCond .ne 5, 3) := by decide +kernel
theorem dX4_readPayment_9 : decode cX4_readPayment 9 = .ok (.iconst 0, 1) := by decide +kernel
theorem dX4_readPayment_10 : decode cX4_readPayment 10 = .ok (.ireturn, 1) := by decide +kernel
theorem dX4_readPayment_11 : decode cX4_readPayment 11 = .ok (.aload_n 0, 1) := by decide +kernel
theorem dX4_readPayment_12 : decode cX4_readPayment 12 = .ok (.bipush 35, 2) := by decide +kernel
theorem dX4_readPayment_14 : decode cX4_readPayment 14 = .ok (.invokevirtual 29, 3) := by decide +kernel
theorem dX4_readPayment_17 : decode cX4_readPayment 17 = .ok (.ifCond .ne 5, 3) := by decide +kernel
theorem dX4_readPayment_20 : decode cX4_readPayment 20 = .ok (.iconst 1, 1) := by decide +kernel
theorem dX4_readPayment_21 : decode cX4_readPayment 21 = .ok (.ireturn, 1) := by decide +kernel
theorem dX4_readPayment_22 : decode cX4_readPayment 22 = .ok (.aload_n 0, 1) := by decide +kernel
theorem dX4_readPayment_23 : decode cX4_readPayment 23 = .ok (.iconst 2, 1) := by decide +kernel
theorem dX4_readPayment_24 : decode cX4_readPayment 24 = .ok (.putfield 33, 3) := by decide +kernel
theorem dX4_readPayment_27 : decode cX4_readPayment 27 = .ok (.aload_n 0, 1) := by decide +kernel
theorem dX4_readPayment_28 : decode cX4_readPayment 28 = .ok (.aload_n 0, 1) := by decide +kernel
theorem dX4_readPayment_29 : decode cX4_readPayment 29 = .ok (.iconst 0, 1) := by decide +kernel
theorem dX4_readPayment_30 : decode cX4_readPayment 30 = .ok (.bipush 39, 2) := by decide +kernel
theorem dX4_readPayment_32 : decode cX4_readPayment 32 = .ok (.invokevirtual 42, 3) := by decide +kernel
theorem dX4_readPayment_35 : decode cX4_readPayment 35 = .ok (.putfield 57, 3) := by decide +kernel
theorem dX4_readPayment_38 : decode cX4_readPayment 38 = .ok (.aload_n 0, 1) := by decide +kernel
theorem dX4_readPayment_39 : decode cX4_readPayment 39 = .ok (.getfield 57, 3) := by decide +kernel
theorem dX4_readPayment_42 : decode cX4_readPayment 42 = .ok (.iconst (-1), 1) := by decide +kernel
theorem dX4_readPayment_43 : decode cX4_readPayment 43 = .ok (.if_icmp .eq 7, 3) := by decide +kernel
theorem dX4_readPayment_46 : decode cX4_readPayment 46 = .ok (.iconst 1, 1) := by decide +kernel
theorem dX4_readPayment_47 : decode cX4_readPayment 47 = .ok (.goto 4, 3) := by decide +kernel
theorem dX4_readPayment_50 : decode cX4_readPayment 50 = .ok (.iconst 0, 1) := by decide +kernel
theorem dX4_readPayment_51 : decode cX4_readPayment 51 = .ok (.ireturn, 1) := by decide +kernel
theorem dX4_readCustomerAndAmount_0 : decode cX4_readCustomerAndAmount 0 = .ok (.aload_n 0, 1) := by decide +kernel
theorem dX4_readCustomerAndAmount_1 : decode cX4_readCustomerAndAmount 1 = .ok (.aload_n 0, 1) := by decide +kernel
theorem dX4_readCustomerAndAmount_2 : decode cX4_readCustomerAndAmount 2 = .ok (.iconst 0, 1) := by decide +kernel
theorem dX4_readCustomerAndAmount_3 : decode cX4_readCustomerAndAmount 3 = .ok (.bipush 7, 2) := by decide +kernel
theorem dX4_readCustomerAndAmount_5 : decode cX4_readCustomerAndAmount 5 = .ok (.invokevirtual 42, 3) := by decide +kernel
theorem dX4_readCustomerAndAmount_8 : decode cX4_readCustomerAndAmount 8 = .ok (.putfield 60, 3) := by decide +kernel
theorem dX4_readCustomerAndAmount_11 : decode cX4_readCustomerAndAmount 11 = .ok (.aload_n 0, 1) := by decide +kernel
theorem dX4_readCustomerAndAmount_12 : decode cX4_readCustomerAndAmount 12 = .ok (.getfield 60, 3) := by decide +kernel
theorem dX4_readCustomerAndAmount_15 : decode cX4_readCustomerAndAmount 15 = .ok (.iconst (-1), 1) := by decide +kernel
theorem dX4_readCustomerAndAmount_16 : decode cX4_readCustomerAndAmount 16 = .ok (.if_icmp .eq 12, 3) := by decide +kernel
theorem dX4_readCustomerAndAmount_19 : decode cX4_readCustomerAndAmount 19 = .ok (.aload_n 0, 1) := by decide +kernel
theorem dX4_readCustomerAndAmount_20 : decode cX4_readCustomerAndAmount 20 = .ok (.bipush 58, 2) := by decide +kernel
theorem dX4_readCustomerAndAmount_22 : decode cX4_readCustomerAndAmount 22 = .ok (.invokevirtual 29, 3) := by decide +kernel
theorem dX4_readCustomerAndAmount_25 : decode cX4_readCustomerAndAmount 25 = .ok (.ifCond .ne 5, 3) := by decide +kernel
theorem dX4_readCustomerAndAmount_28 : decode cX4_readCustomerAndAmount 28 = .ok (.iconst 0, 1) := by decide +kernel
theorem dX4_readCustomerAndAmount_29 : decode cX4_readCustomerAndAmount 29 = .ok (.ireturn, 1) := by decide +kernel
theorem dX4_readCustomerAndAmount_30 : decode cX4_readCustomerAndAmount 30 = .ok (.aload_n 0, 1) := by decide +kernel
theorem dX4_readCustomerAndAmount_31 : decode cX4_readCustomerAndAmount 31 = .ok (.aload_n 0, 1) := by decide +kernel
theorem dX4_readCustomerAndAmount_32 : decode cX4_readCustomerAndAmount 32 = .ok (.iconst 1, 1) := by decide +kernel
theorem dX4_readCustomerAndAmount_33 : decode cX4_readCustomerAndAmount 33 = .ok (.iload_n 1, 1) := by decide +kernel
theorem dX4_readCustomerAndAmount_34 : decode cX4_readCustomerAndAmount 34 = .ok (.invokevirtual 42, 3) := by decide +kernel
theorem dX4_readCustomerAndAmount_37 : decode cX4_readCustomerAndAmount 37 = .ok (.putfield 63, 3) := by decide +kernel
theorem dX4_readCustomerAndAmount_40 : decode cX4_readCustomerAndAmount 40 = .ok (.aload_n 0, 1) := by decide +kernel
theorem dX4_readCustomerAndAmount_41 : decode cX4_readCustomerAndAmount 41 = .ok (.getfield 63, 3) := by decide +kernel
theorem dX4_readCustomerAndAmount_44 : decode cX4_readCustomerAndAmount 44 = .ok (.iconst (-1), 1) := by decide +kernel
theorem dX4_readCustomerAndAmount_45 : decode cX4_readCustomerAndAmount 45 = .ok (.if_icmp .eq 7, 3) := by decide +kernel
theorem dX4_readCustomerAndAmount_48 : decode cX4_readCustomerAndAmount 48 = .ok (.iconst 1, 1) := by decide +kernel
theorem dX4_readCustomerAndAmount_49 : decode cX4_readCustomerAndAmount 49 = .ok (.goto 4, 3) := by decide +kernel
theorem dX4_readCustomerAndAmount_52 : decode cX4_readCustomerAndAmount 52 = .ok (.iconst 0, 1) := by decide +kernel
theorem dX4_readCustomerAndAmount_53 : decode cX4_readCustomerAndAmount 53 = .ok (.ireturn, 1) := by decide +kernel
theorem dX4_skip_0 : decode cX4_skip 0 = .ok (.aload_n 0, 1) := by decide +kernel
theorem dX4_skip_1 : decode cX4_skip 1 = .ok (.getfield 19, 3) := by decide +kernel
theorem dX4_skip_4 : decode cX4_skip 4 = .ok (.ifCond .lt 39, 3) := by decide +kernel
theorem dX4_skip_7 : decode cX4_skip 7 = .ok (.aload_n 0, 1) := by decide +kernel
theorem dX4_skip_8 : decode cX4_skip 8 = .ok (.getfield 19, 3) := by decide +kernel
theorem dX4_skip_11 : decode cX4_skip 11 = .ok (.aload_n 0, 1) := by decide +kernel
theorem dX4_skip_12 : decode cX4_skip 12 = .ok (.getfield 15, 3) := by decide +kernel
theorem dX4_skip_15 : decode cX4_skip 15 = .ok (.if_icmp .ge 28, 3) := by decide +kernel
theorem dX4_skip_18 : decode cX4_skip 18 = .ok (.aload_n 0, 1) := by decide +kernel
theorem dX4_skip_19 : decode cX4_skip 19 = .ok (.getfield 19, 3) := by decide +kernel
theorem dX4_skip_22 : decode cX4_skip 22 = .ok (.aload_n 0, 1) := by decide +kernel
theorem dX4_skip_23 : decode cX4_skip 23 = .ok (.getfield 9, 3) := by decide +kernel
theorem dX4_skip_26 : decode cX4_skip 26 = .ok (.arraylength, 1) := by decide +kernel
theorem dX4_skip_27 : decode cX4_skip 27 = .ok (.if_icmp .ge 16, 3) := by decide +kernel
theorem dX4_skip_30 : decode cX4_skip 30 = .ok (.aload_n 0, 1) := by decide +kernel
theorem dX4_skip_31 : decode cX4_skip 31 = .ok (.getfield 9, 3) := by decide +kernel
theorem dX4_skip_34 : decode cX4_skip 34 = .ok (.aload_n 0, 1) := by decide +kernel
theorem dX4_skip_35 : decode cX4_skip 35 = .ok (.getfield 19, 3) := by decide +kernel
theorem dX4_skip_38 : decode cX4_skip 38 = .ok (.caload, 1) := by decide +kernel
theorem dX4_skip_39 : decode cX4_skip 39 = .ok (.iload_n 1, 1) := by decide +kernel
theorem dX4_skip_40 : decode cX4_skip 40 = .ok (.if_icmp .eq 5, 3) := by decide +kernel
theorem dX4_skip_43 : decode cX4_skip 43 = .ok (.iconst 0, 1) := by decide +kernel
theorem dX4_skip_44 : decode cX4_skip 44 = .ok (.ireturn, 1) := by decide +kernel
theorem dX4_skip_45 : decode cX4_skip 45 = .ok (.aload_n 0, 1) := by decide +kernel
theorem dX4_skip_46 : decode cX4_skip 46 = .ok (.dup, 1) := by decide +kernel
theorem dX4_skip_47 : decode cX4_skip 47 = .ok (.getfield 19, 3) := by decide +kernel
theorem dX4_skip_50 : decode cX4_skip 50 = .ok (.iconst 1, 1) := by decide +kernel
theorem dX4_skip_51 : decode cX4_skip 51 = .ok (.iadd, 1) := by decide +kernel
theorem dX4_skip_52 : decode cX4_skip 52 = .ok (.putfield 19, 3) := by decide +kernel
theorem dX4_skip_55 : decode cX4_skip 55 = .ok (.iconst 1, 1) := by decide +kernel
theorem dX4_skip_56 : decode cX4_skip 56 = .ok (.ireturn, 1) := by decide +kernel
theorem dX4_readNumber_0 : decode cX4_readNumber 0 = .ok (.aload_n 0, 1) := by decide +kernel
theorem dX4_readNumber_1 : decode cX4_readNumber 1 = .ok (.invokevirtual 66, 3) := by decide +kernel
theorem dX4_readNumber_4 : decode cX4_readNumber 4 = .ok (.istore_n 3, 1) := by decide +kernel
theorem dX4_readNumber_5 : decode cX4_readNumber 5 = .ok (.iload_n 3, 1) := by decide +kernel
theorem dX4_readNumber_6 : decode cX4_readNumber 6 = .ok (.iload_n 1, 1) := by decide +kernel
theorem dX4_readNumber_7 : decode cX4_readNumber 7 = .ok (.if_icmp .lt 8, 3) := by decide +kernel
theorem dX4_readNumber_10 : decode cX4_readNumber 10 = .ok (.iload_n 3, 1) := by decide +kernel
theorem dX4_readNumber_11 : decode cX4_readNumber 11 = .ok (.iload_n 2, 1) := by decide +kernel
theorem dX4_readNumber_12 : decode cX4_readNumber 12 = .ok (.if_icmp .le 5, 3) := by decide +kernel
theorem dX4_readNumber_15 : decode cX4_readNumber 15 = .ok (.iconst (-1), 1) := by decide +kernel
theorem dX4_readNumber_16 : decode cX4_readNumber 16 = .ok (.ireturn, 1) := by decide +kernel
theorem dX4_readNumber_17 : decode cX4_readNumber 17 = .ok (.aload_n 0, 1) := by decide +kernel
theorem dX4_readNumber_18 : decode cX4_readNumber 18 = .ok (.dup, 1) := by decide +kernel
theorem dX4_readNumber_19 : decode cX4_readNumber 19 = .ok (.getfield 19, 3) := by decide +kernel
theorem dX4_readNumber_22 : decode cX4_readNumber 22 = .ok (.iconst 1, 1) := by decide +kernel
theorem dX4_readNumber_23 : decode cX4_readNumber 23 = .ok (.iadd, 1) := by decide +kernel
theorem dX4_readNumber_24 : decode cX4_readNumber 24 = .ok (.putfield 19, 3) := by decide +kernel
theorem dX4_readNumber_27 : decode cX4_readNumber 27 = .ok (.iload_n 3, 1) := by decide +kernel
theorem dX4_readNumber_28 : decode cX4_readNumber 28 = .ok (.ifCond .le 60, 3) := by decide +kernel
theorem dX4_readNumber_31 : decode cX4_readNumber 31 = .ok (.aload_n 0, 1) := by decide +kernel
theorem dX4_readNumber_32 : decode cX4_readNumber 32 = .ok (.getfield 19, 3) := by decide +kernel
theorem dX4_readNumber_35 : decode cX4_readNumber 35 = .ok (.aload_n 0, 1) := by decide +kernel
theorem dX4_readNumber_36 : decode cX4_readNumber 36 = .ok (.getfield 15, 3) := by decide +kernel
theorem dX4_readNumber_39 : decode cX4_readNumber 39 = .ok (.if_icmp .ge 49, 3) := by decide +kernel
theorem dX4_readNumber_42 : decode cX4_readNumber 42 = .ok (.aload_n 0, 1) := by decide +kernel
theorem dX4_readNumber_43 : decode cX4_readNumber 43 = .ok (.invokevirtual 66, 3) := by decide +kernel
theorem dX4_readNumber_46 : decode cX4_readNumber 46 = .ok (.istore 4, 2) := by decide +kernel
theorem dX4_readNumber_48 : decode cX4_readNumber 48 = .ok (.iload 4, 2) := by decide +kernel
theorem dX4_readNumber_50 : decode cX4_readNumber 50 = .ok (.iconst (-1), 1) := by decide +kernel
theorem dX4_readNumber_51 : decode cX4_readNumber 51 = .ok (.if_icmp .eq 14, 3) := by decide +kernel
theorem dX4_readNumber_54 : decode cX4_readNumber 54 = .ok (.iload_n 3, 1) := by decide +kernel
theorem dX4_readNumber_55 : decode cX4_readNumber 55 = .ok (.bipush 10, 2) := by decide +kernel
theorem dX4_readNumber_57 : decode cX4_readNumber 57 = .ok (.imul, 1) := by decide +kernel
theorem dX4_readNumber_58 : decode cX4_readNumber 58 = .ok (.iload 4, 2) := by decide +kernel
theorem dX4_readNumber_60 : decode cX4_readNumber 60 = .ok (.iadd, 1) := by decide +kernel
theorem dX4_readNumber_61 : decode cX4_readNumber 61 = .ok (.iload_n 2, 1) := by decide +kernel
theorem dX4_readNumber_62 : decode cX4_readNumber 62 = .ok (.if_icmp .le 5, 3) := by decide +kernel
theorem dX4_readNumber_65 : decode cX4_readNumber 65 = .ok (.iload_n 3, 1) := by decide +kernel
theorem dX4_readNumber_66 : decode cX4_readNumber 66 = .ok (.ireturn, 1) := by decide +kernel
theorem dX4_readNumber_67 : decode cX4_readNumber 67 = .ok (.iload_n 3, 1) := by decide +kernel
theorem dX4_readNumber_68 : decode cX4_readNumber 68 = .ok (.bipush 10, 2) := by decide +kernel
theorem dX4_readNumber_70 : decode cX4_readNumber 70 = .ok (.imul, 1) := by decide +kernel
theorem dX4_readNumber_71 : decode cX4_readNumber 71 = .ok (.iload 4, 2) := by decide +kernel
theorem dX4_readNumber_73 : decode cX4_readNumber 73 = .ok (.iadd, 1) := by decide +kernel
theorem dX4_readNumber_74 : decode cX4_readNumber 74 = .ok (.istore_n 3, 1) := by decide +kernel
theorem dX4_readNumber_75 : decode cX4_readNumber 75 = .ok (.aload_n 0, 1) := by decide +kernel
theorem dX4_readNumber_76 : decode cX4_readNumber 76 = .ok (.dup, 1) := by decide +kernel
theorem dX4_readNumber_77 : decode cX4_readNumber 77 = .ok (.getfield 19, 3) := by decide +kernel
theorem dX4_readNumber_80 : decode cX4_readNumber 80 = .ok (.iconst 1, 1) := by decide +kernel
theorem dX4_readNumber_81 : decode cX4_readNumber 81 = .ok (.iadd, 1) := by decide +kernel
theorem dX4_readNumber_82 : decode cX4_readNumber 82 = .ok (.putfield 19, 3) := by decide +kernel
theorem dX4_readNumber_85 : decode cX4_readNumber 85 = .ok (.goto (-58), 3) := by decide +kernel
theorem dX4_readNumber_88 : decode cX4_readNumber 88 = .ok (.iload_n 3, 1) := by decide +kernel
theorem dX4_readNumber_89 : decode cX4_readNumber 89 = .ok (.ireturn, 1) := by decide +kernel
theorem dX4_digitAtPlace_0 : decode cX4_digitAtPlace 0 = .ok (.aload_n 0, 1) := by decide +kernel
theorem dX4_digitAtPlace_1 : decode cX4_digitAtPlace 1 = .ok (.getfield 19, 3) := by decide +kernel
theorem dX4_digitAtPlace_4 : decode cX4_digitAtPlace 4 = .ok (.ifCond .lt 26, 3) := by decide +kernel
theorem dX4_digitAtPlace_7 : decode cX4_digitAtPlace 7 = .ok (.aload_n 0, 1) := by decide +kernel
theorem dX4_digitAtPlace_8 : decode cX4_digitAtPlace 8 = .ok (.getfield 19, 3) := by decide +kernel
theorem dX4_digitAtPlace_11 : decode cX4_digitAtPlace 11 = .ok (.aload_n 0, 1) := by decide +kernel
theorem dX4_digitAtPlace_12 : decode cX4_digitAtPlace 12 = .ok (.getfield 15, 3) := by decide +kernel
theorem dX4_digitAtPlace_15 : decode cX4_digitAtPlace 15 = .ok (.if_icmp .ge 15, 3) := by decide +kernel
theorem dX4_digitAtPlace_18 : decode cX4_digitAtPlace 18 = .ok (.aload_n 0, 1) := by decide +kernel
theorem dX4_digitAtPlace_19 : decode cX4_digitAtPlace 19 = .ok (.getfield 19, 3) := by decide +kernel
theorem dX4_digitAtPlace_22 : decode cX4_digitAtPlace 22 = .ok (.aload_n 0, 1) := by decide +kernel
theorem dX4_digitAtPlace_23 : decode cX4_digitAtPlace 23 = .ok (.getfield 9, 3) := by decide +kernel
theorem dX4_digitAtPlace_26 : decode cX4_digitAtPlace 26 = .ok (.arraylength, 1) := by decide +kernel
theorem dX4_digitAtPlace_27 : decode cX4_digitAtPlace 27 = .ok (.if_icmp .lt 5, 3) := by decide +kernel
theorem dX4_digitAtPlace_30 : decode cX4_digitAtPlace 30 = .ok (.iconst (-1), 1) := by decide +kernel
theorem dX4_digitAtPlace_31 : decode cX4_digitAtPlace 31 = .ok (.ireturn, 1) := by decide +kernel
theorem dX4_digitAtPlace_32 : decode cX4_digitAtPlace 32 = .ok (.aload_n 0, 1) := by decide +kernel
theorem dX4_digitAtPlace_33 : decode cX4_digitAtPlace 33 = .ok (.getfield 9, 3) := by decide +kernel
theorem dX4_digitAtPlace_36 : decode cX4_digitAtPlace 36 = .ok (.aload_n 0, 1) := by decide +kernel
theorem dX4_digitAtPlace_37 : decode cX4_digitAtPlace 37 = .ok (.getfield 19, 3) := by decide +kernel
theorem dX4_digitAtPlace_40 : decode cX4_digitAtPlace 40 = .ok (.caload, 1) := by decide +kernel
theorem dX4_digitAtPlace_41 : decode cX4_digitAtPlace 41 = .ok (.istore_n 1, 1) := by decide +kernel
theorem dX4_digitAtPlace_42 : decode cX4_digitAtPlace 42 = .ok (.iload_n 1, 1) := by decide +kernel
theorem dX4_digitAtPlace_43 : decode cX4_digitAtPlace 43 = .ok (.bipush 48, 2) := by decide +kernel
theorem dX4_digitAtPlace_45 : decode cX4_digitAtPlace 45 = .ok (.if_icmp .lt 16, 3) := by decide +kernel
theorem dX4_digitAtPlace_48 : decode cX4_digitAtPlace 48 = .ok (.iload_n 1, 1) := by decide +kernel
theorem dX4_digitAtPlace_49 : decode cX4_digitAtPlace 49 = .ok (.bipush 57, 2) := by decide +kernel
theorem dX4_digitAtPlace_51 : decode cX4_digitAtPlace 51 = .ok (.if_icmp .gt 10, 3) := by decide +kernel
theorem dX4_digitAtPlace_54 : decode cX4_digitAtPlace 54 = .ok (.iload_n 1, 1) := by decide +kernel
theorem dX4_digitAtPlace_55 : decode cX4_digitAtPlace 55 = .ok (.bipush 48, 2) := by decide +kernel
theorem dX4_digitAtPlace_57 : decode cX4_digitAtPlace 57 = .ok (.isub, 1) := by decide +kernel
theorem dX4_digitAtPlace_58 : decode cX4_digitAtPlace 58 = .ok (.goto 4, 3) := by decide +kernel
theorem dX4_digitAtPlace_61 : decode cX4_digitAtPlace 61 = .ok (.iconst (-1), 1) := by decide +kernel
theorem dX4_digitAtPlace_62 : decode cX4_digitAtPlace 62 = .ok (.ireturn, 1) := by decide +kernel
